def m_Writer_writeUtf16_l2 (n0 : Nat) : Nat → Int32 → Int32 → Int32 → List Int32 → Int32 → List Int32 × Int32
  | 0, _, _, _, l0, o0 => (l0, o0)
  | nf2 + 1, i0, i1, i3, l0, o0 =>
    if (m_Writer_unitsOf i0) ≤ i3 then
      (l0, o0)
    else
      if i1 = 0 then
        match (m_Row_put n0 l0 o0 ((m_Writer_unitOf i0 i3) &&& 255)) with
        | (l0_6, o0_6) =>
          match (m_Row_put n0 l0_6 o0_6 ((m_Writer_unitOf i0 i3) >>> ((8 : Int32) &&& 31))) with
          | (l0_8, o0_8) =>
            m_Writer_writeUtf16_l2 n0 nf2 i0 i1 (i3 + 1) l0_8 o0_8
      else
        match (m_Row_put n0 l0 o0 ((m_Writer_unitOf i0 i3) >>> ((8 : Int32) &&& 31))) with
        | (l0_9, o0_9) =>
          match (m_Row_put n0 l0_9 o0_9 ((m_Writer_unitOf i0 i3) &&& 255)) with
          | (l0_11, o0_11) =>
            m_Writer_writeUtf16_l2 n0 nf2 i0 i1 (i3 + 1) l0_11 o0_11
def m_Writer_writeUtf16 (n0 : Nat) (l0 : List Int32) (o0 : Int32) (p0 : Int32) (p1 : Int32) : List Int32 × Int32 :=
  m_Writer_writeUtf16_l2 n0 (((m_Writer_unitsOf p0).toInt - (0 : Int32).toInt).toNat + 1) p0 p1 0 l0 o0
def rm_Writer_writeUtf16 : Room := { frames := 2, cells := 0, slots := 0, locals := 41 }
set_option maxHeartbeats 4000000 in
set_option maxRecDepth 100000 in
theorem c_Writer_writeUtf16 (l : Launch) (D : va_G) (Z : gZT) (kI : ClassId) (a0 : Nat) (b0 : Nat) (n0 : Nat) (sz : Nat) (f0 : Nat → Int32) (l0 : List Int32) (o0 : Int32) (p0 : Int32) (p1 : Int32) (hr0 : g_rw n0 f0 l0) : gMv l y_Writer_writeUtf16 w_Writer_writeUtf16 rm_Writer_writeUtf16 D Z kI [.int p0, .int p1, .ref a0] sz [(a0, .inr (4, [.ref b0, .int (nI l0.length), .int o0])), (b0, .inl (kI, n0, .inl f0))] (fun (u : (Nat → Int32) × List Int32 × Int32) => m_Writer_writeUtf16 n0 l0 o0 p0 p1 = (u.2.1, u.2.2) ∧ g_rw n0 u.1 u.2.1) (fun (u : (Nat → Int32) × List Int32 × Int32) => ([(a0, .inr (4, [.ref b0, .int (nI u.2.1.length), .int u.2.2])), (b0, .inl (kI, n0, .inl u.1))] : va_W)) := by
  refine g_ofv (cc := b_Writer_writeUtf16) (maxL := 7) (by decide) rfl (Nat.le_of_ble_eq_true rfl) ?_
  intro p e s m below meth c A Q H ls hx hb hml hown hts hA hK hZ hP hD hS hl hret
  have hown : s.vm.findClass "MailCharacters$Writer" = some m.cls := hown
  have hl : lv_has ls 7 [(0, .int p0), (1, .int p1), (2, .ref a0)] := hl
  obtain ⟨RES, hRES⟩ : ∃ z, z = m_Writer_writeUtf16 n0 l0 o0 p0 p1 := ⟨_, rfl⟩
  have lp2 : ∀ (nf2 : Nat) (i0 : Int32) (i1 : Int32) (i3 : Int32) (f0 : Nat → Int32) (l0 : List Int32) (o0 : Int32) (hr0 : g_rw n0 f0 l0) (H : Heap) (locs : List Loc) (ls : Array Slot), ((m_Writer_unitsOf i0).toInt - i3.toInt).toNat < nf2 → RES = m_Writer_writeUtf16_l2 n0 nf2 i0 i1 i3 l0 o0 → va_P D vwCl [(a0, .inr (4, [.ref b0, .int (nI l0.length), .int o0])), (b0, .inl (kI, n0, .inl f0))] H → va_D A [(a0, .inr (4, [.ref b0, .int (nI l0.length), .int o0])), (b0, .inl (kI, n0, .inl f0))] → va_S A s.heap H locs → lv_has ls 7 [(0, .int i0), (1, .int i1), (2, .ref a0), (3, .int i3)] → W p l e rm_Writer_writeUtf16 s m ([.int p0, .int p1, .ref a0] : List Value).toArray below meth c H locs 0 0 Q (F0 m 2 ls []) := by
    intro nf2
    induction nf2 with
    | zero => intro i0 i1 i3 f0 l0 o0 hr0 H locs ls hn2; exact absurd hn2 (Nat.not_lt_zero _)
    | succ nf2 ih2 =>
      intro i0 i1 i3 f0 l0 o0 hr0 H locs ls hn2 hF hP hD hS hl
      rw [m_Writer_writeUtf16_l2] at hF
      refine lv_iload_n hx hb d_Writer_writeUtf16_2 rfl (lv_at hl 3 rfl) ?_
      refine lv_iload_n hx hb d_Writer_writeUtf16_3 rfl (lv_at hl 0 rfl) ?_
      refine g_Si (As := [.int i0]) (rest := [.int i3]) (wr := [(a0, .inr (4, [.ref b0, .int (nI l0.length), .int o0])), (b0, .inl (kI, n0, .inl f0))]) ⟨hx, hb, hml, hown, hts⟩ (c_Writer_unitsOf l D Z kI H.size i0) (cw_Writer_unitsOf hts k_699 ⟨Nat.le_of_ble_eq_true rfl, Nat.le_of_ble_eq_true rfl⟩) hK hZ hP hD hS hA [] [0, 1] rfl rfl (by decide) (by decide) (by decide) rfl hl.1 rfl (Nat.le_of_ble_eq_true rfl) d_Writer_writeUtf16_4 ⟨Nat.zero_le _, Nat.zero_le _⟩ (fun r_2 u_2 H locs hw hP hD hS => ?_)
      have e_2 := hw
      subst e_2
      have hP : va_P D vwCl [(a0, .inr (4, [.ref b0, .int (nI l0.length), .int o0])), (b0, .inl (kI, n0, .inl f0))] H := hP
      have hD : va_D A [(a0, .inr (4, [.ref b0, .int (nI l0.length), .int o0])), (b0, .inl (kI, n0, .inl f0))] := hD
      refine lv_icmp_ge (tgt := 68) hx hb d_Writer_writeUtf16_7 (by decide) (fun c_3 => ?_) (fun c_3 => ?_)
      · rw [if_pos c_3] at hF
        exact hret (f0, l0, o0) _ _ _ _ d_Writer_writeUtf16_68 (⟨hRES.symm.trans hF, hr0⟩) hP hD hS
      · rw [if_neg c_3] at hF
        refine lv_iload_n hx hb d_Writer_writeUtf16_10 rfl (lv_at hl 0 rfl) ?_
        refine lv_iload_n hx hb d_Writer_writeUtf16_11 rfl (lv_at hl 3 rfl) ?_
        refine g_Si (As := [.int i0, .int i3]) (rest := []) (wr := [(a0, .inr (4, [.ref b0, .int (nI l0.length), .int o0])), (b0, .inl (kI, n0, .inl f0))]) ⟨hx, hb, hml, hown, hts⟩ (c_Writer_unitOf l D Z kI H.size i0 i3) (cw_Writer_unitOf hts k_712 ⟨Nat.le_of_ble_eq_true rfl, Nat.le_of_ble_eq_true rfl⟩) hK hZ hP hD hS hA [] [0, 1] rfl rfl (by decide) (by decide) (by decide) rfl hl.1 rfl (Nat.le_of_ble_eq_true rfl) d_Writer_writeUtf16_12 ⟨Nat.zero_le _, Nat.zero_le _⟩ (fun r_4 u_4 H locs hw hP hD hS => ?_)
        have e_4 := hw
        subst e_4
        have hP : va_P D vwCl [(a0, .inr (4, [.ref b0, .int (nI l0.length), .int o0])), (b0, .inl (kI, n0, .inl f0))] H := hP
        have hD : va_D A [(a0, .inr (4, [.ref b0, .int (nI l0.length), .int o0])), (b0, .inl (kI, n0, .inl f0))] := hD
        refine lv_istore (lv' := [(4, .int (m_Writer_unitOf i0 i3)), (0, .int i0), (1, .int i1), (2, .ref a0), (3, .int i3)]) hx hb d_Writer_writeUtf16_15 hl (by decide) rfl (fun ls hl => ?_)
        refine lv_iload hx hb d_Writer_writeUtf16_17 (lv_at hl 0 rfl) ?_
        refine lv_bipush (v := 8) hx hb d_Writer_writeUtf16_19 (by decide) ?_
        refine lv_ishr hx hb d_Writer_writeUtf16_21 ?_
        refine lv_istore (lv' := [(5, .int ((m_Writer_unitOf i0 i3) >>> ((8 : Int32) &&& 31))), (4, .int (m_Writer_unitOf i0 i3)), (0, .int i0), (1, .int i1), (2, .ref a0), (3, .int i3)]) hx hb d_Writer_writeUtf16_22 hl (by decide) rfl (fun ls hl => ?_)
        refine lv_iload hx hb d_Writer_writeUtf16_24 (lv_at hl 1 rfl) ?_
        refine lv_sipush (v := 255) hx hb d_Writer_writeUtf16_26 (by decide) ?_
        refine lv_iand hx hb d_Writer_writeUtf16_29 ?_
        refine lv_istore (lv' := [(6, .int ((m_Writer_unitOf i0 i3) &&& 255)), (5, .int ((m_Writer_unitOf i0 i3) >>> ((8 : Int32) &&& 31))), (4, .int (m_Writer_unitOf i0 i3)), (0, .int i0), (1, .int i1), (2, .ref a0), (3, .int i3)]) hx hb d_Writer_writeUtf16_30 hl (by decide) rfl (fun ls hl => ?_)
        refine lv_aload_n hx hb d_Writer_writeUtf16_32 rfl (lv_at hl 5 rfl) ?_
        refine lv_iload_n hx hb d_Writer_writeUtf16_33 rfl (lv_at hl 4 rfl) ?_
        refine lv_if_eq (tgt := 42) hx hb d_Writer_writeUtf16_34 (by decide) (fun c_5 => ?_) (fun c_5 => ?_)
        · rw [if_pos c_5] at hF
          refine lv_iload hx hb d_Writer_writeUtf16_42 (lv_at hl 0 rfl) ?_
          refine g_Vv (As := [.int ((m_Writer_unitOf i0 i3) &&& 255)]) (rest := []) (wr := []) ⟨hx, hb, hml, hown, hts⟩ (c_Row_put l D Z kI a0 b0 n0 H.size f0 l0 o0 ((m_Writer_unitOf i0 i3) &&& 255) hr0) (cw_Row_put hts k_710 ⟨Nat.le_of_ble_eq_true rfl, Nat.le_of_ble_eq_true rfl⟩) hK hZ hP hD hS hA [0, 1] [] (g_recv hK hP (ci := 4) (q0 := 0) rfl rfl) rfl rfl (by decide) (by decide) (by decide) rfl hl.1 rfl (Nat.le_of_ble_eq_true rfl) d_Writer_writeUtf16_44 ⟨Nat.zero_le _, Nat.zero_le _⟩ (fun u_6 H locs hw hP hD hS => ?_)
          obtain ⟨f0_6, l0_6, o0_6⟩ := u_6
          have e_6 := hw.1
          have hr0_6 := hw.2
          have hP : va_P D vwCl [(a0, .inr (4, [.ref b0, .int (nI l0_6.length), .int o0_6])), (b0, .inl (kI, n0, .inl f0_6))] H := hP
          have hD : va_D A [(a0, .inr (4, [.ref b0, .int (nI l0_6.length), .int o0_6])), (b0, .inl (kI, n0, .inl f0_6))] := hD
          rw [e_6] at hF; dsimp only at hF
          refine lv_aload_n hx hb d_Writer_writeUtf16_47 rfl (lv_at hl 5 rfl) ?_
          refine lv_iload_n hx hb d_Writer_writeUtf16_48 rfl (lv_at hl 4 rfl) ?_
          refine lv_if_eq (tgt := 57) hx hb d_Writer_writeUtf16_49 (by decide) (fun c_7 => ?_) (fun c_7 => ?_)
          · refine lv_iload hx hb d_Writer_writeUtf16_57 (lv_at hl 1 rfl) ?_
            refine g_Vv (As := [.int ((m_Writer_unitOf i0 i3) >>> ((8 : Int32) &&& 31))]) (rest := []) (wr := []) ⟨hx, hb, hml, hown, hts⟩ (c_Row_put l D Z kI a0 b0 n0 H.size f0_6 l0_6 o0_6 ((m_Writer_unitOf i0 i3) >>> ((8 : Int32) &&& 31)) hr0_6) (cw_Row_put hts k_710 ⟨Nat.le_of_ble_eq_true rfl, Nat.le_of_ble_eq_true rfl⟩) hK hZ hP hD hS hA [0, 1] [] (g_recv hK hP (ci := 4) (q0 := 0) rfl rfl) rfl rfl (by decide) (by decide) (by decide) rfl hl.1 rfl (Nat.le_of_ble_eq_true rfl) d_Writer_writeUtf16_59 ⟨Nat.zero_le _, Nat.zero_le _⟩ (fun u_8 H locs hw hP hD hS => ?_)
            obtain ⟨f0_8, l0_8, o0_8⟩ := u_8
            have e_8 := hw.1
            have hr0_8 := hw.2
            have hP : va_P D vwCl [(a0, .inr (4, [.ref b0, .int (nI l0_8.length), .int o0_8])), (b0, .inl (kI, n0, .inl f0_8))] H := hP
            have hD : va_D A [(a0, .inr (4, [.ref b0, .int (nI l0_8.length), .int o0_8])), (b0, .inl (kI, n0, .inl f0_8))] := hD
            rw [e_8] at hF; dsimp only at hF
            refine lv_iinc (v := (i3 + 1)) (lv' := [(3, .int (i3 + 1)), (6, .int ((m_Writer_unitOf i0 i3) &&& 255)), (5, .int ((m_Writer_unitOf i0 i3) >>> ((8 : Int32) &&& 31))), (4, .int (m_Writer_unitOf i0 i3)), (0, .int i0), (1, .int i1), (2, .ref a0)]) hx hb d_Writer_writeUtf16_62 hl (k := 6) rfl rfl (by decide) rfl (fun ls hl => ?_)
            refine lv_goto (tgt := 2) hx hb d_Writer_writeUtf16_65 (by decide) ?_
            exact ih2 i0 i1 (i3 + 1) f0_8 l0_8 o0_8 hr0_8 _ _ _  (Nat.lt_of_lt_of_le (g_dec1 c_3) (Nat.le_of_lt_succ hn2)) hF hP hD hS (lv_sub hl [4, 5, 6, 0] rfl)
          · exact absurd c_5 c_7
        · rw [if_neg c_5] at hF
          refine lv_iload hx hb d_Writer_writeUtf16_37 (lv_at hl 1 rfl) ?_
          refine lv_goto (tgt := 44) hx hb d_Writer_writeUtf16_39 (by decide) ?_
          refine g_Vv (As := [.int ((m_Writer_unitOf i0 i3) >>> ((8 : Int32) &&& 31))]) (rest := []) (wr := []) ⟨hx, hb, hml, hown, hts⟩ (c_Row_put l D Z kI a0 b0 n0 H.size f0 l0 o0 ((m_Writer_unitOf i0 i3) >>> ((8 : Int32) &&& 31)) hr0) (cw_Row_put hts k_710 ⟨Nat.le_of_ble_eq_true rfl, Nat.le_of_ble_eq_true rfl⟩) hK hZ hP hD hS hA [0, 1] [] (g_recv hK hP (ci := 4) (q0 := 0) rfl rfl) rfl rfl (by decide) (by decide) (by decide) rfl hl.1 rfl (Nat.le_of_ble_eq_true rfl) d_Writer_writeUtf16_44 ⟨Nat.zero_le _, Nat.zero_le _⟩ (fun u_9 H locs hw hP hD hS => ?_)
          obtain ⟨f0_9, l0_9, o0_9⟩ := u_9
          have e_9 := hw.1
          have hr0_9 := hw.2
          have hP : va_P D vwCl [(a0, .inr (4, [.ref b0, .int (nI l0_9.length), .int o0_9])), (b0, .inl (kI, n0, .inl f0_9))] H := hP
          have hD : va_D A [(a0, .inr (4, [.ref b0, .int (nI l0_9.length), .int o0_9])), (b0, .inl (kI, n0, .inl f0_9))] := hD
          rw [e_9] at hF; dsimp only at hF
          refine lv_aload_n hx hb d_Writer_writeUtf16_47 rfl (lv_at hl 5 rfl) ?_
          refine lv_iload_n hx hb d_Writer_writeUtf16_48 rfl (lv_at hl 4 rfl) ?_
          refine lv_if_eq (tgt := 57) hx hb d_Writer_writeUtf16_49 (by decide) (fun c_10 => ?_) (fun c_10 => ?_)
          · exact absurd c_10 c_5
          · refine lv_iload hx hb d_Writer_writeUtf16_52 (lv_at hl 0 rfl) ?_
            refine lv_goto (tgt := 59) hx hb d_Writer_writeUtf16_54 (by decide) ?_
            refine g_Vv (As := [.int ((m_Writer_unitOf i0 i3) &&& 255)]) (rest := []) (wr := []) ⟨hx, hb, hml, hown, hts⟩ (c_Row_put l D Z kI a0 b0 n0 H.size f0_9 l0_9 o0_9 ((m_Writer_unitOf i0 i3) &&& 255) hr0_9) (cw_Row_put hts k_710 ⟨Nat.le_of_ble_eq_true rfl, Nat.le_of_ble_eq_true rfl⟩) hK hZ hP hD hS hA [0, 1] [] (g_recv hK hP (ci := 4) (q0 := 0) rfl rfl) rfl rfl (by decide) (by decide) (by decide) rfl hl.1 rfl (Nat.le_of_ble_eq_true rfl) d_Writer_writeUtf16_59 ⟨Nat.zero_le _, Nat.zero_le _⟩ (fun u_11 H locs hw hP hD hS => ?_)
            obtain ⟨f0_11, l0_11, o0_11⟩ := u_11
            have e_11 := hw.1
            have hr0_11 := hw.2
            have hP : va_P D vwCl [(a0, .inr (4, [.ref b0, .int (nI l0_11.length), .int o0_11])), (b0, .inl (kI, n0, .inl f0_11))] H := hP
            have hD : va_D A [(a0, .inr (4, [.ref b0, .int (nI l0_11.length), .int o0_11])), (b0, .inl (kI, n0, .inl f0_11))] := hD
            rw [e_11] at hF; dsimp only at hF
            refine lv_iinc (v := (i3 + 1)) (lv' := [(3, .int (i3 + 1)), (6, .int ((m_Writer_unitOf i0 i3) &&& 255)), (5, .int ((m_Writer_unitOf i0 i3) >>> ((8 : Int32) &&& 31))), (4, .int (m_Writer_unitOf i0 i3)), (0, .int i0), (1, .int i1), (2, .ref a0)]) hx hb d_Writer_writeUtf16_62 hl (k := 6) rfl rfl (by decide) rfl (fun ls hl => ?_)
            refine lv_goto (tgt := 2) hx hb d_Writer_writeUtf16_65 (by decide) ?_
            exact ih2 i0 i1 (i3 + 1) f0_11 l0_11 o0_11 hr0_11 _ _ _  (Nat.lt_of_lt_of_le (g_dec1 c_3) (Nat.le_of_lt_succ hn2)) hF hP hD hS (lv_sub hl [4, 5, 6, 0] rfl)
  have hF := hRES
  rw [m_Writer_writeUtf16] at hF
  refine lv_iconst (v := 0) hx hb d_Writer_writeUtf16_0 (by decide) ?_
  refine lv_istore_n (lv' := [(3, .int 0), (0, .int p0), (1, .int p1), (2, .ref a0)]) hx hb d_Writer_writeUtf16_1 rfl hl (by decide) rfl (fun ls hl => ?_)
  exact lp2 (((m_Writer_unitsOf p0).toInt - (0 : Int32).toInt).toNat + 1) p0 p1 0 f0 l0 o0 hr0 _ _ _  (Nat.lt_succ_self _) hF hP hD hS (lv_sub hl [1, 2, 3, 0] rfl)
theorem cw_Writer_writeUtf16 {R : Room} {s : State} {args : Array Value} {own : String} {idx : Nat} (hts : ∀ w ∈ gW, w.before args s = true) (hl : Cond.methodLink own idx y_Writer_writeUtf16 ∈ gW) (hR : rm_Writer_writeUtf16.frames + 1 ≤ R.frames ∧ 8 + (7 + 11) + rm_Writer_writeUtf16.locals ≤ R.locals) : CallB R s args own idx y_Writer_writeUtf16 b_Writer_writeUtf16 7 none w_Writer_writeUtf16 rm_Writer_writeUtf16 0 0 3 ∧ (Cond.static y_Writer_writeUtf16).before args s = true := va_cwS 3 hts (gW_S hl k_748 k_75 k_749) rfl rfl rfl (by decide +kernel) hR
def m_SingleBytes_latin9ByteOf (p0 : Int32) : Int32 :=
  if 8364 = p0 then
    164
  else
    if 352 = p0 then
      166
    else
      if 353 = p0 then
        168
      else
        if 381 = p0 then
          180
        else
          if 382 = p0 then
            184
          else
            if 338 = p0 then
              188
            else
              if 339 = p0 then
                189
              else
                if 376 = p0 then
                  190
                else
                  if 256 ≤ p0 then
                    63
                  else
                    if (m_SingleBytes_latin9CharacterOf p0) = p0 then
                      p0
                    else
                      63
def rm_SingleBytes_latin9ByteOf : Room := { frames := 1, cells := 0, slots := 0, locals := 21 }
set_option maxHeartbeats 4000000 in
set_option maxRecDepth 100000 in
theorem c_SingleBytes_latin9ByteOf (l : Launch) (D : va_G) (Z : gZT) (kI : ClassId) (sz : Nat) (p0 : Int32) : gMi l y_SingleBytes_latin9ByteOf w_SingleBytes_latin9ByteOf rm_SingleBytes_latin9ByteOf D Z kI [.int p0] sz [] (fun (r : Int32) (_u : Unit) => m_SingleBytes_latin9ByteOf p0 = r) (fun (_u : Unit) => ([] : va_W)) := by
  refine g_ofi (cc := b_SingleBytes_latin9ByteOf) (maxL := 2) (ty := .int) (by decide) rfl (Nat.le_of_ble_eq_true rfl) ?_
  intro p e s m below meth c A Q H ls hx hb hml hown hts hA hK hZ hP hD hS hl hret
  have hown : s.vm.findClass "MailCharacters$SingleBytes" = some m.cls := hown
  have hl : lv_has ls 2 [(0, .int p0)] := hl
  obtain ⟨RES, hRES⟩ : ∃ z, z = m_SingleBytes_latin9ByteOf p0 := ⟨_, rfl⟩
  have hF := hRES
  rw [m_SingleBytes_latin9ByteOf] at hF
  refine lv_iconst (v := 0) hx hb d_SingleBytes_latin9ByteOf_0 (by decide) ?_
  refine lv_istore_n (lv' := [(1, .int 0), (0, .int p0)]) hx hb d_SingleBytes_latin9ByteOf_1 rfl hl (by decide) rfl (fun ls hl => ?_)
  refine lv_iload_n hx hb d_SingleBytes_latin9ByteOf_2 rfl (lv_at hl 0 rfl) ?_
  refine lv_iconst (v := 1) hx hb d_SingleBytes_latin9ByteOf_3 (by decide) ?_
  refine lv_iadd hx hb d_SingleBytes_latin9ByteOf_4 ?_
  refine lv_topi (fun x_1 ex_1 => ?_)
  obtain rfl : x_1 = 1 := ex_1.trans (by decide)
  refine va_gets hx hb (gZ_st0 hZ) hS hown (hts _ k_477) (fun _ h9 => h9) d_SingleBytes_latin9ByteOf_5 ?_
  refine va_tlen (v := 16) hx hb (gZ_tab hZ (by decide)) hS rfl d_SingleBytes_latin9ByteOf_8 ?_
  refine lv_icmp_ge (tgt := 35) hx hb d_SingleBytes_latin9ByteOf_9 (by decide) (fun c_2 => ?_) (fun c_2 => ?_)
  · exact absurd c_2 (by decide)
  · refine va_gets hx hb (gZ_st0 hZ) hS hown (hts _ k_477) (fun _ h9 => h9) d_SingleBytes_latin9ByteOf_12 ?_
    refine lv_iload_n hx hb d_SingleBytes_latin9ByteOf_15 rfl (lv_at hl 0 rfl) ?_
    refine lv_iconst (v := 1) hx hb d_SingleBytes_latin9ByteOf_16 (by decide) ?_
    refine lv_iadd hx hb d_SingleBytes_latin9ByteOf_17 ?_
    refine lv_topi (fun x_3 ex_3 => ?_)
    obtain rfl : x_3 = 1 := ex_3.trans (by decide)
    refine va_ti (v := .int 8364) hx hb (gZ_tab hZ (by decide)) hS (by unfold vp_in; decide) rfl d_SingleBytes_latin9ByteOf_18 ?_
    refine lv_iload_n hx hb d_SingleBytes_latin9ByteOf_19 rfl (lv_at hl 1 rfl) ?_
    refine lv_icmp_ne (tgt := 29) hx hb d_SingleBytes_latin9ByteOf_20 (by decide) (fun c_4 => ?_) (fun c_4 => ?_)
    · rw [if_neg c_4] at hF
      refine lv_iinc (v := 2) (lv' := [(1, .int 2), (0, .int p0)]) hx hb d_SingleBytes_latin9ByteOf_29 hl (k := 0) rfl (by decide) (by decide) rfl (fun ls hl => ?_)
      refine lv_goto (tgt := 2) hx hb d_SingleBytes_latin9ByteOf_32 (by decide) ?_
      refine lv_iload_n hx hb d_SingleBytes_latin9ByteOf_2 rfl (lv_at hl 0 rfl) ?_
      refine lv_iconst (v := 1) hx hb d_SingleBytes_latin9ByteOf_3 (by decide) ?_
      refine lv_iadd hx hb d_SingleBytes_latin9ByteOf_4 ?_
      refine lv_topi (fun x_5 ex_5 => ?_)
      obtain rfl : x_5 = 3 := ex_5.trans (by decide)
      refine va_gets hx hb (gZ_st0 hZ) hS hown (hts _ k_477) (fun _ h9 => h9) d_SingleBytes_latin9ByteOf_5 ?_
      refine va_tlen (v := 16) hx hb (gZ_tab hZ (by decide)) hS rfl d_SingleBytes_latin9ByteOf_8 ?_
      refine lv_icmp_ge (tgt := 35) hx hb d_SingleBytes_latin9ByteOf_9 (by decide) (fun c_6 => ?_) (fun c_6 => ?_)
      · exact absurd c_6 (by decide)
      · refine va_gets hx hb (gZ_st0 hZ) hS hown (hts _ k_477) (fun _ h9 => h9) d_SingleBytes_latin9ByteOf_12 ?_
        refine lv_iload_n hx hb d_SingleBytes_latin9ByteOf_15 rfl (lv_at hl 0 rfl) ?_
        refine lv_iconst (v := 1) hx hb d_SingleBytes_latin9ByteOf_16 (by decide) ?_
        refine lv_iadd hx hb d_SingleBytes_latin9ByteOf_17 ?_
        refine lv_topi (fun x_7 ex_7 => ?_)
        obtain rfl : x_7 = 3 := ex_7.trans (by decide)
        refine va_ti (v := .int 352) hx hb (gZ_tab hZ (by decide)) hS (by unfold vp_in; decide) rfl d_SingleBytes_latin9ByteOf_18 ?_
        refine lv_iload_n hx hb d_SingleBytes_latin9ByteOf_19 rfl (lv_at hl 1 rfl) ?_
        refine lv_icmp_ne (tgt := 29) hx hb d_SingleBytes_latin9ByteOf_20 (by decide) (fun c_8 => ?_) (fun c_8 => ?_)
        · rw [if_neg c_8] at hF
          refine lv_iinc (v := 4) (lv' := [(1, .int 4), (0, .int p0)]) hx hb d_SingleBytes_latin9ByteOf_29 hl (k := 0) rfl (by decide) (by decide) rfl (fun ls hl => ?_)
          refine lv_goto (tgt := 2) hx hb d_SingleBytes_latin9ByteOf_32 (by decide) ?_
          refine lv_iload_n hx hb d_SingleBytes_latin9ByteOf_2 rfl (lv_at hl 0 rfl) ?_
          refine lv_iconst (v := 1) hx hb d_SingleBytes_latin9ByteOf_3 (by decide) ?_
          refine lv_iadd hx hb d_SingleBytes_latin9ByteOf_4 ?_
          refine lv_topi (fun x_9 ex_9 => ?_)
          obtain rfl : x_9 = 5 := ex_9.trans (by decide)
          refine va_gets hx hb (gZ_st0 hZ) hS hown (hts _ k_477) (fun _ h9 => h9) d_SingleBytes_latin9ByteOf_5 ?_
          refine va_tlen (v := 16) hx hb (gZ_tab hZ (by decide)) hS rfl d_SingleBytes_latin9ByteOf_8 ?_
          refine lv_icmp_ge (tgt := 35) hx hb d_SingleBytes_latin9ByteOf_9 (by decide) (fun c_10 => ?_) (fun c_10 => ?_)
          · exact absurd c_10 (by decide)
          · refine va_gets hx hb (gZ_st0 hZ) hS hown (hts _ k_477) (fun _ h9 => h9) d_SingleBytes_latin9ByteOf_12 ?_
            refine lv_iload_n hx hb d_SingleBytes_latin9ByteOf_15 rfl (lv_at hl 0 rfl) ?_
            refine lv_iconst (v := 1) hx hb d_SingleBytes_latin9ByteOf_16 (by decide) ?_
            refine lv_iadd hx hb d_SingleBytes_latin9ByteOf_17 ?_
            refine lv_topi (fun x_11 ex_11 => ?_)
            obtain rfl : x_11 = 5 := ex_11.trans (by decide)
            refine va_ti (v := .int 353) hx hb (gZ_tab hZ (by decide)) hS (by unfold vp_in; decide) rfl d_SingleBytes_latin9ByteOf_18 ?_
            refine lv_iload_n hx hb d_SingleBytes_latin9ByteOf_19 rfl (lv_at hl 1 rfl) ?_
            refine lv_icmp_ne (tgt := 29) hx hb d_SingleBytes_latin9ByteOf_20 (by decide) (fun c_12 => ?_) (fun c_12 => ?_)
            · rw [if_neg c_12] at hF
              refine lv_iinc (v := 6) (lv' := [(1, .int 6), (0, .int p0)]) hx hb d_SingleBytes_latin9ByteOf_29 hl (k := 0) rfl (by decide) (by decide) rfl (fun ls hl => ?_)
              refine lv_goto (tgt := 2) hx hb d_SingleBytes_latin9ByteOf_32 (by decide) ?_
              refine lv_iload_n hx hb d_SingleBytes_latin9ByteOf_2 rfl (lv_at hl 0 rfl) ?_
              refine lv_iconst (v := 1) hx hb d_SingleBytes_latin9ByteOf_3 (by decide) ?_
              refine lv_iadd hx hb d_SingleBytes_latin9ByteOf_4 ?_
              refine lv_topi (fun x_13 ex_13 => ?_)
              obtain rfl : x_13 = 7 := ex_13.trans (by decide)
              refine va_gets hx hb (gZ_st0 hZ) hS hown (hts _ k_477) (fun _ h9 => h9) d_SingleBytes_latin9ByteOf_5 ?_
              refine va_tlen (v := 16) hx hb (gZ_tab hZ (by decide)) hS rfl d_SingleBytes_latin9ByteOf_8 ?_
              refine lv_icmp_ge (tgt := 35) hx hb d_SingleBytes_latin9ByteOf_9 (by decide) (fun c_14 => ?_) (fun c_14 => ?_)
              · exact absurd c_14 (by decide)
              · refine va_gets hx hb (gZ_st0 hZ) hS hown (hts _ k_477) (fun _ h9 => h9) d_SingleBytes_latin9ByteOf_12 ?_
                refine lv_iload_n hx hb d_SingleBytes_latin9ByteOf_15 rfl (lv_at hl 0 rfl) ?_
                refine lv_iconst (v := 1) hx hb d_SingleBytes_latin9ByteOf_16 (by decide) ?_
                refine lv_iadd hx hb d_SingleBytes_latin9ByteOf_17 ?_
                refine lv_topi (fun x_15 ex_15 => ?_)
                obtain rfl : x_15 = 7 := ex_15.trans (by decide)
                refine va_ti (v := .int 381) hx hb (gZ_tab hZ (by decide)) hS (by unfold vp_in; decide) rfl d_SingleBytes_latin9ByteOf_18 ?_
                refine lv_iload_n hx hb d_SingleBytes_latin9ByteOf_19 rfl (lv_at hl 1 rfl) ?_
                refine lv_icmp_ne (tgt := 29) hx hb d_SingleBytes_latin9ByteOf_20 (by decide) (fun c_16 => ?_) (fun c_16 => ?_)
                · rw [if_neg c_16] at hF
                  refine lv_iinc (v := 8) (lv' := [(1, .int 8), (0, .int p0)]) hx hb d_SingleBytes_latin9ByteOf_29 hl (k := 0) rfl (by decide) (by decide) rfl (fun ls hl => ?_)
                  refine lv_goto (tgt := 2) hx hb d_SingleBytes_latin9ByteOf_32 (by decide) ?_
                  refine lv_iload_n hx hb d_SingleBytes_latin9ByteOf_2 rfl (lv_at hl 0 rfl) ?_
                  refine lv_iconst (v := 1) hx hb d_SingleBytes_latin9ByteOf_3 (by decide) ?_
                  refine lv_iadd hx hb d_SingleBytes_latin9ByteOf_4 ?_
                  refine lv_topi (fun x_17 ex_17 => ?_)
                  obtain rfl : x_17 = 9 := ex_17.trans (by decide)
                  refine va_gets hx hb (gZ_st0 hZ) hS hown (hts _ k_477) (fun _ h9 => h9) d_SingleBytes_latin9ByteOf_5 ?_
                  refine va_tlen (v := 16) hx hb (gZ_tab hZ (by decide)) hS rfl d_SingleBytes_latin9ByteOf_8 ?_
                  refine lv_icmp_ge (tgt := 35) hx hb d_SingleBytes_latin9ByteOf_9 (by decide) (fun c_18 => ?_) (fun c_18 => ?_)
                  · exact absurd c_18 (by decide)
                  · refine va_gets hx hb (gZ_st0 hZ) hS hown (hts _ k_477) (fun _ h9 => h9) d_SingleBytes_latin9ByteOf_12 ?_
                    refine lv_iload_n hx hb d_SingleBytes_latin9ByteOf_15 rfl (lv_at hl 0 rfl) ?_
                    refine lv_iconst (v := 1) hx hb d_SingleBytes_latin9ByteOf_16 (by decide) ?_
                    refine lv_iadd hx hb d_SingleBytes_latin9ByteOf_17 ?_
                    refine lv_topi (fun x_19 ex_19 => ?_)
                    obtain rfl : x_19 = 9 := ex_19.trans (by decide)
                    refine va_ti (v := .int 382) hx hb (gZ_tab hZ (by decide)) hS (by unfold vp_in; decide) rfl d_SingleBytes_latin9ByteOf_18 ?_
                    refine lv_iload_n hx hb d_SingleBytes_latin9ByteOf_19 rfl (lv_at hl 1 rfl) ?_
                    refine lv_icmp_ne (tgt := 29) hx hb d_SingleBytes_latin9ByteOf_20 (by decide) (fun c_20 => ?_) (fun c_20 => ?_)
                    · rw [if_neg c_20] at hF
                      refine lv_iinc (v := 10) (lv' := [(1, .int 10), (0, .int p0)]) hx hb d_SingleBytes_latin9ByteOf_29 hl (k := 0) rfl (by decide) (by decide) rfl (fun ls hl => ?_)
                      refine lv_goto (tgt := 2) hx hb d_SingleBytes_latin9ByteOf_32 (by decide) ?_
                      refine lv_iload_n hx hb d_SingleBytes_latin9ByteOf_2 rfl (lv_at hl 0 rfl) ?_
                      refine lv_iconst (v := 1) hx hb d_SingleBytes_latin9ByteOf_3 (by decide) ?_
                      refine lv_iadd hx hb d_SingleBytes_latin9ByteOf_4 ?_
                      refine lv_topi (fun x_21 ex_21 => ?_)
                      obtain rfl : x_21 = 11 := ex_21.trans (by decide)
                      refine va_gets hx hb (gZ_st0 hZ) hS hown (hts _ k_477) (fun _ h9 => h9) d_SingleBytes_latin9ByteOf_5 ?_
                      refine va_tlen (v := 16) hx hb (gZ_tab hZ (by decide)) hS rfl d_SingleBytes_latin9ByteOf_8 ?_
                      refine lv_icmp_ge (tgt := 35) hx hb d_SingleBytes_latin9ByteOf_9 (by decide) (fun c_22 => ?_) (fun c_22 => ?_)
                      · exact absurd c_22 (by decide)
                      · refine va_gets hx hb (gZ_st0 hZ) hS hown (hts _ k_477) (fun _ h9 => h9) d_SingleBytes_latin9ByteOf_12 ?_
                        refine lv_iload_n hx hb d_SingleBytes_latin9ByteOf_15 rfl (lv_at hl 0 rfl) ?_
                        refine lv_iconst (v := 1) hx hb d_SingleBytes_latin9ByteOf_16 (by decide) ?_
                        refine lv_iadd hx hb d_SingleBytes_latin9ByteOf_17 ?_
                        refine lv_topi (fun x_23 ex_23 => ?_)
                        obtain rfl : x_23 = 11 := ex_23.trans (by decide)
                        refine va_ti (v := .int 338) hx hb (gZ_tab hZ (by decide)) hS (by unfold vp_in; decide) rfl d_SingleBytes_latin9ByteOf_18 ?_
                        refine lv_iload_n hx hb d_SingleBytes_latin9ByteOf_19 rfl (lv_at hl 1 rfl) ?_
                        refine lv_icmp_ne (tgt := 29) hx hb d_SingleBytes_latin9ByteOf_20 (by decide) (fun c_24 => ?_) (fun c_24 => ?_)
                        · rw [if_neg c_24] at hF
                          refine lv_iinc (v := 12) (lv' := [(1, .int 12), (0, .int p0)]) hx hb d_SingleBytes_latin9ByteOf_29 hl (k := 0) rfl (by decide) (by decide) rfl (fun ls hl => ?_)
                          refine lv_goto (tgt := 2) hx hb d_SingleBytes_latin9ByteOf_32 (by decide) ?_
                          refine lv_iload_n hx hb d_SingleBytes_latin9ByteOf_2 rfl (lv_at hl 0 rfl) ?_
                          refine lv_iconst (v := 1) hx hb d_SingleBytes_latin9ByteOf_3 (by decide) ?_
                          refine lv_iadd hx hb d_SingleBytes_latin9ByteOf_4 ?_
                          refine lv_topi (fun x_25 ex_25 => ?_)
                          obtain rfl : x_25 = 13 := ex_25.trans (by decide)
                          refine va_gets hx hb (gZ_st0 hZ) hS hown (hts _ k_477) (fun _ h9 => h9) d_SingleBytes_latin9ByteOf_5 ?_
                          refine va_tlen (v := 16) hx hb (gZ_tab hZ (by decide)) hS rfl d_SingleBytes_latin9ByteOf_8 ?_
                          refine lv_icmp_ge (tgt := 35) hx hb d_SingleBytes_latin9ByteOf_9 (by decide) (fun c_26 => ?_) (fun c_26 => ?_)
                          · exact absurd c_26 (by decide)
                          · refine va_gets hx hb (gZ_st0 hZ) hS hown (hts _ k_477) (fun _ h9 => h9) d_SingleBytes_latin9ByteOf_12 ?_
                            refine lv_iload_n hx hb d_SingleBytes_latin9ByteOf_15 rfl (lv_at hl 0 rfl) ?_
                            refine lv_iconst (v := 1) hx hb d_SingleBytes_latin9ByteOf_16 (by decide) ?_
                            refine lv_iadd hx hb d_SingleBytes_latin9ByteOf_17 ?_
                            refine lv_topi (fun x_27 ex_27 => ?_)
                            obtain rfl : x_27 = 13 := ex_27.trans (by decide)
                            refine va_ti (v := .int 339) hx hb (gZ_tab hZ (by decide)) hS (by unfold vp_in; decide) rfl d_SingleBytes_latin9ByteOf_18 ?_
                            refine lv_iload_n hx hb d_SingleBytes_latin9ByteOf_19 rfl (lv_at hl 1 rfl) ?_
                            refine lv_icmp_ne (tgt := 29) hx hb d_SingleBytes_latin9ByteOf_20 (by decide) (fun c_28 => ?_) (fun c_28 => ?_)
                            · rw [if_neg c_28] at hF
                              refine lv_iinc (v := 14) (lv' := [(1, .int 14), (0, .int p0)]) hx hb d_SingleBytes_latin9ByteOf_29 hl (k := 0) rfl (by decide) (by decide) rfl (fun ls hl => ?_)
                              refine lv_goto (tgt := 2) hx hb d_SingleBytes_latin9ByteOf_32 (by decide) ?_
                              refine lv_iload_n hx hb d_SingleBytes_latin9ByteOf_2 rfl (lv_at hl 0 rfl) ?_
                              refine lv_iconst (v := 1) hx hb d_SingleBytes_latin9ByteOf_3 (by decide) ?_
                              refine lv_iadd hx hb d_SingleBytes_latin9ByteOf_4 ?_
                              refine lv_topi (fun x_29 ex_29 => ?_)
                              obtain rfl : x_29 = 15 := ex_29.trans (by decide)
                              refine va_gets hx hb (gZ_st0 hZ) hS hown (hts _ k_477) (fun _ h9 => h9) d_SingleBytes_latin9ByteOf_5 ?_
                              refine va_tlen (v := 16) hx hb (gZ_tab hZ (by decide)) hS rfl d_SingleBytes_latin9ByteOf_8 ?_
                              refine lv_icmp_ge (tgt := 35) hx hb d_SingleBytes_latin9ByteOf_9 (by decide) (fun c_30 => ?_) (fun c_30 => ?_)
                              · exact absurd c_30 (by decide)
                              · refine va_gets hx hb (gZ_st0 hZ) hS hown (hts _ k_477) (fun _ h9 => h9) d_SingleBytes_latin9ByteOf_12 ?_
                                refine lv_iload_n hx hb d_SingleBytes_latin9ByteOf_15 rfl (lv_at hl 0 rfl) ?_
                                refine lv_iconst (v := 1) hx hb d_SingleBytes_latin9ByteOf_16 (by decide) ?_
                                refine lv_iadd hx hb d_SingleBytes_latin9ByteOf_17 ?_
                                refine lv_topi (fun x_31 ex_31 => ?_)
                                obtain rfl : x_31 = 15 := ex_31.trans (by decide)
                                refine va_ti (v := .int 376) hx hb (gZ_tab hZ (by decide)) hS (by unfold vp_in; decide) rfl d_SingleBytes_latin9ByteOf_18 ?_
                                refine lv_iload_n hx hb d_SingleBytes_latin9ByteOf_19 rfl (lv_at hl 1 rfl) ?_
                                refine lv_icmp_ne (tgt := 29) hx hb d_SingleBytes_latin9ByteOf_20 (by decide) (fun c_32 => ?_) (fun c_32 => ?_)
                                · rw [if_neg c_32] at hF
                                  refine lv_iinc (v := 16) (lv' := [(1, .int 16), (0, .int p0)]) hx hb d_SingleBytes_latin9ByteOf_29 hl (k := 0) rfl (by decide) (by decide) rfl (fun ls hl => ?_)
                                  refine lv_goto (tgt := 2) hx hb d_SingleBytes_latin9ByteOf_32 (by decide) ?_
                                  refine lv_iload_n hx hb d_SingleBytes_latin9ByteOf_2 rfl (lv_at hl 0 rfl) ?_
                                  refine lv_iconst (v := 1) hx hb d_SingleBytes_latin9ByteOf_3 (by decide) ?_
                                  refine lv_iadd hx hb d_SingleBytes_latin9ByteOf_4 ?_
                                  refine lv_topi (fun x_33 ex_33 => ?_)
                                  obtain rfl : x_33 = 17 := ex_33.trans (by decide)
                                  refine va_gets hx hb (gZ_st0 hZ) hS hown (hts _ k_477) (fun _ h9 => h9) d_SingleBytes_latin9ByteOf_5 ?_
                                  refine va_tlen (v := 16) hx hb (gZ_tab hZ (by decide)) hS rfl d_SingleBytes_latin9ByteOf_8 ?_
                                  refine lv_icmp_ge (tgt := 35) hx hb d_SingleBytes_latin9ByteOf_9 (by decide) (fun c_34 => ?_) (fun c_34 => ?_)
                                  · refine lv_iload_n hx hb d_SingleBytes_latin9ByteOf_35 rfl (lv_at hl 1 rfl) ?_
                                    refine lv_sipush (v := 256) hx hb d_SingleBytes_latin9ByteOf_36 (by decide) ?_
                                    refine lv_icmp_ge (tgt := 54) hx hb d_SingleBytes_latin9ByteOf_39 (by decide) (fun c_35 => ?_) (fun c_35 => ?_)
                                    · rw [if_pos c_35] at hF
                                      refine lv_bipush (v := 63) hx hb d_SingleBytes_latin9ByteOf_54 (by decide) ?_
                                      exact hret 63 () _ _ _ _ d_SingleBytes_latin9ByteOf_56 rfl (hRES.symm.trans hF) hP hD hS
                                    · rw [if_neg c_35] at hF
                                      refine lv_iload_n hx hb d_SingleBytes_latin9ByteOf_42 rfl (lv_at hl 1 rfl) ?_
                                      refine g_Si (As := [.int p0]) (rest := []) (wr := []) ⟨hx, hb, hml, hown, hts⟩ (c_SingleBytes_latin9CharacterOf l D Z kI H.size p0) (cw_SingleBytes_latin9CharacterOf hts k_474 ⟨Nat.le_of_ble_eq_true rfl, Nat.le_of_ble_eq_true rfl⟩) hK hZ hP hD hS hA [] [] rfl rfl (by decide) (by decide) (by decide) rfl hl.1 rfl (Nat.le_of_ble_eq_true rfl) d_SingleBytes_latin9ByteOf_43 ⟨Nat.zero_le _, Nat.zero_le _⟩ (fun r_36 u_36 H locs hw hP hD hS => ?_)
                                      have e_36 := hw
                                      subst e_36
                                      have hP : va_P D vwCl [] H := hP
                                      have hD : va_D A [] := hD
                                      refine lv_iload_n hx hb d_SingleBytes_latin9ByteOf_46 rfl (lv_at hl 1 rfl) ?_
                                      refine lv_icmp_ne (tgt := 54) hx hb d_SingleBytes_latin9ByteOf_47 (by decide) (fun c_37 => ?_) (fun c_37 => ?_)
                                      · rw [if_neg c_37] at hF
                                        refine lv_bipush (v := 63) hx hb d_SingleBytes_latin9ByteOf_54 (by decide) ?_
                                        exact hret 63 () _ _ _ _ d_SingleBytes_latin9ByteOf_56 rfl (hRES.symm.trans hF) hP hD hS
                                      · rw [if_pos c_37] at hF
                                        refine lv_iload_n hx hb d_SingleBytes_latin9ByteOf_50 rfl (lv_at hl 1 rfl) ?_
                                        refine lv_goto (tgt := 56) hx hb d_SingleBytes_latin9ByteOf_51 (by decide) ?_
                                        exact hret p0 () _ _ _ _ d_SingleBytes_latin9ByteOf_56 rfl (hRES.symm.trans hF) hP hD hS
                                  · exact absurd c_34 (by decide)
                                · rw [if_pos c_32] at hF
                                  refine va_gets hx hb (gZ_st0 hZ) hS hown (hts _ k_477) (fun _ h9 => h9) d_SingleBytes_latin9ByteOf_23 ?_
                                  refine lv_iload_n hx hb d_SingleBytes_latin9ByteOf_26 rfl (lv_at hl 0 rfl) ?_
                                  refine va_ti (v := .int 190) hx hb (gZ_tab hZ (by decide)) hS (by unfold vp_in; decide) rfl d_SingleBytes_latin9ByteOf_27 ?_
                                  exact hret 190 () _ _ _ _ d_SingleBytes_latin9ByteOf_28 rfl (hRES.symm.trans hF) hP hD hS
                            · rw [if_pos c_28] at hF
                              refine va_gets hx hb (gZ_st0 hZ) hS hown (hts _ k_477) (fun _ h9 => h9) d_SingleBytes_latin9ByteOf_23 ?_
                              refine lv_iload_n hx hb d_SingleBytes_latin9ByteOf_26 rfl (lv_at hl 0 rfl) ?_
                              refine va_ti (v := .int 189) hx hb (gZ_tab hZ (by decide)) hS (by unfold vp_in; decide) rfl d_SingleBytes_latin9ByteOf_27 ?_
                              exact hret 189 () _ _ _ _ d_SingleBytes_latin9ByteOf_28 rfl (hRES.symm.trans hF) hP hD hS
                        · rw [if_pos c_24] at hF
                          refine va_gets hx hb (gZ_st0 hZ) hS hown (hts _ k_477) (fun _ h9 => h9) d_SingleBytes_latin9ByteOf_23 ?_
                          refine lv_iload_n hx hb d_SingleBytes_latin9ByteOf_26 rfl (lv_at hl 0 rfl) ?_
                          refine va_ti (v := .int 188) hx hb (gZ_tab hZ (by decide)) hS (by unfold vp_in; decide) rfl d_SingleBytes_latin9ByteOf_27 ?_
                          exact hret 188 () _ _ _ _ d_SingleBytes_latin9ByteOf_28 rfl (hRES.symm.trans hF) hP hD hS
                    · rw [if_pos c_20] at hF
                      refine va_gets hx hb (gZ_st0 hZ) hS hown (hts _ k_477) (fun _ h9 => h9) d_SingleBytes_latin9ByteOf_23 ?_
                      refine lv_iload_n hx hb d_SingleBytes_latin9ByteOf_26 rfl (lv_at hl 0 rfl) ?_
                      refine va_ti (v := .int 184) hx hb (gZ_tab hZ (by decide)) hS (by unfold vp_in; decide) rfl d_SingleBytes_latin9ByteOf_27 ?_
                      exact hret 184 () _ _ _ _ d_SingleBytes_latin9ByteOf_28 rfl (hRES.symm.trans hF) hP hD hS
                · rw [if_pos c_16] at hF
                  refine va_gets hx hb (gZ_st0 hZ) hS hown (hts _ k_477) (fun _ h9 => h9) d_SingleBytes_latin9ByteOf_23 ?_
                  refine lv_iload_n hx hb d_SingleBytes_latin9ByteOf_26 rfl (lv_at hl 0 rfl) ?_
                  refine va_ti (v := .int 180) hx hb (gZ_tab hZ (by decide)) hS (by unfold vp_in; decide) rfl d_SingleBytes_latin9ByteOf_27 ?_
                  exact hret 180 () _ _ _ _ d_SingleBytes_latin9ByteOf_28 rfl (hRES.symm.trans hF) hP hD hS
            · rw [if_pos c_12] at hF
              refine va_gets hx hb (gZ_st0 hZ) hS hown (hts _ k_477) (fun _ h9 => h9) d_SingleBytes_latin9ByteOf_23 ?_
              refine lv_iload_n hx hb d_SingleBytes_latin9ByteOf_26 rfl (lv_at hl 0 rfl) ?_
              refine va_ti (v := .int 168) hx hb (gZ_tab hZ (by decide)) hS (by unfold vp_in; decide) rfl d_SingleBytes_latin9ByteOf_27 ?_
              exact hret 168 () _ _ _ _ d_SingleBytes_latin9ByteOf_28 rfl (hRES.symm.trans hF) hP hD hS
        · rw [if_pos c_8] at hF
          refine va_gets hx hb (gZ_st0 hZ) hS hown (hts _ k_477) (fun _ h9 => h9) d_SingleBytes_latin9ByteOf_23 ?_
          refine lv_iload_n hx hb d_SingleBytes_latin9ByteOf_26 rfl (lv_at hl 0 rfl) ?_
          refine va_ti (v := .int 166) hx hb (gZ_tab hZ (by decide)) hS (by unfold vp_in; decide) rfl d_SingleBytes_latin9ByteOf_27 ?_
          exact hret 166 () _ _ _ _ d_SingleBytes_latin9ByteOf_28 rfl (hRES.symm.trans hF) hP hD hS
    · rw [if_pos c_4] at hF
      refine va_gets hx hb (gZ_st0 hZ) hS hown (hts _ k_477) (fun _ h9 => h9) d_SingleBytes_latin9ByteOf_23 ?_
      refine lv_iload_n hx hb d_SingleBytes_latin9ByteOf_26 rfl (lv_at hl 0 rfl) ?_
      refine va_ti (v := .int 164) hx hb (gZ_tab hZ (by decide)) hS (by unfold vp_in; decide) rfl d_SingleBytes_latin9ByteOf_27 ?_
      exact hret 164 () _ _ _ _ d_SingleBytes_latin9ByteOf_28 rfl (hRES.symm.trans hF) hP hD hS
theorem cw_SingleBytes_latin9ByteOf {R : Room} {s : State} {args : Array Value} {own : String} {idx : Nat} (hts : ∀ w ∈ gW, w.before args s = true) (hl : Cond.methodLink own idx y_SingleBytes_latin9ByteOf ∈ gW) (hR : rm_SingleBytes_latin9ByteOf.frames + 1 ≤ R.frames ∧ 8 + (2 + 11) + rm_SingleBytes_latin9ByteOf.locals ≤ R.locals) : CallB R s args own idx y_SingleBytes_latin9ByteOf b_SingleBytes_latin9ByteOf 2 (some .int) w_SingleBytes_latin9ByteOf rm_SingleBytes_latin9ByteOf 0 0 1 ∧ (Cond.static y_SingleBytes_latin9ByteOf).before args s = true := va_cwS 1 hts (gW_S hl k_754 k_88 k_755) rfl rfl rfl (by decide +kernel) hR
def m_SingleBytes_placeIn_l2 (t0 : Nat) : Nat → Int32 → Int32 → Int32
  | 0, _, _ => 0
  | nf2 + 1, i1, i2 =>
    if (nI (tN t0)) ≤ i2 then
      (-1)
    else
      if (tF t0 i2.toNatClampNeg) = i1 then
        i2
      else
        m_SingleBytes_placeIn_l2 t0 nf2 i1 (i2 + 1)
def m_SingleBytes_placeIn (t0 : Nat) (p1 : Int32) : Int32 :=
  m_SingleBytes_placeIn_l2 t0 (((nI (tN t0)).toInt - (0 : Int32).toInt).toNat + 1) p1 0
def rm_SingleBytes_placeIn : Room := { frames := 0, cells := 0, slots := 0, locals := 0 }
set_option maxHeartbeats 4000000 in
set_option maxRecDepth 100000 in
theorem c_SingleBytes_placeIn (l : Launch) (D : va_G) (Z : gZT) (kI : ClassId) (sz : Nat) (t0 : Nat) (p1 : Int32) (ht0 : t0 < gnT) : gMi l y_SingleBytes_placeIn w_SingleBytes_placeIn rm_SingleBytes_placeIn D Z kI [.ref (Z.2.2 t0), .int p1] sz [] (fun (r : Int32) (_u : Unit) => m_SingleBytes_placeIn t0 p1 = r) (fun (_u : Unit) => ([] : va_W)) := by
  refine g_ofi (cc := b_SingleBytes_placeIn) (maxL := 3) (ty := .int) (by decide) rfl (Nat.le_of_ble_eq_true rfl) ?_
  intro p e s m below meth c A Q H ls hx hb hml hown hts hA hK hZ hP hD hS hl hret
  have hown : s.vm.findClass "MailCharacters$SingleBytes" = some m.cls := hown
  have hl : lv_has ls 3 [(0, .ref (Z.2.2 t0)), (1, .int p1)] := hl
  obtain ⟨RES, hRES⟩ : ∃ z, z = m_SingleBytes_placeIn t0 p1 := ⟨_, rfl⟩
  have lp2 : ∀ (nf2 : Nat) (i1 : Int32) (i2 : Int32) (H : Heap) (locs : List Loc) (ls : Array Slot), ¬ i2 < 0 → ((nI (tN t0)).toInt - i2.toInt).toNat < nf2 → RES = m_SingleBytes_placeIn_l2 t0 nf2 i1 i2 → va_P D vwCl [] H → va_D A [] → va_S A s.heap H locs → lv_has ls 3 [(0, .ref (Z.2.2 t0)), (1, .int i1), (2, .int i2)] → W p l e rm_SingleBytes_placeIn s m ([.ref (Z.2.2 t0), .int p1] : List Value).toArray below meth c H locs 0 0 Q (F0 m 2 ls []) := by
    intro nf2
    induction nf2 with
    | zero => intro i1 i2 H locs ls hi2_0 hn2; exact absurd hn2 (Nat.not_lt_zero _)
    | succ nf2 ih2 =>
      intro i1 i2 H locs ls hi2_0 hn2 hF hP hD hS hl
      rw [m_SingleBytes_placeIn_l2] at hF
      refine lv_iload_n hx hb d_SingleBytes_placeIn_2 rfl (lv_at hl 2 rfl) ?_
      refine lv_aload_n hx hb d_SingleBytes_placeIn_3 rfl (lv_at hl 0 rfl) ?_
      refine va_tlen (v := (nI (tN t0))) hx hb (gZ_tab hZ ht0) hS rfl d_SingleBytes_placeIn_4 ?_
      refine lv_icmp_ge (tgt := 23) hx hb d_SingleBytes_placeIn_5 (by decide) (fun c_1 => ?_) (fun c_1 => ?_)
      · rw [if_pos c_1] at hF
        refine lv_iconst (v := (-1)) hx hb d_SingleBytes_placeIn_23 (by decide) ?_
        exact hret (-1) () _ _ _ _ d_SingleBytes_placeIn_24 rfl (hRES.symm.trans hF) hP hD hS
      · rw [if_neg c_1] at hF
        refine lv_aload_n hx hb d_SingleBytes_placeIn_8 rfl (lv_at hl 0 rfl) ?_
        refine lv_iload_n hx hb d_SingleBytes_placeIn_9 rfl (lv_at hl 2 rfl) ?_
        refine va_ti (v := .int (tF t0 i2.toNatClampNeg)) hx hb (gZ_tab hZ ht0) hS (g_in hi2_0 c_1 (gT_small ht0)) rfl d_SingleBytes_placeIn_10 ?_
        refine lv_iload_n hx hb d_SingleBytes_placeIn_11 rfl (lv_at hl 1 rfl) ?_
        refine lv_icmp_ne (tgt := 17) hx hb d_SingleBytes_placeIn_12 (by decide) (fun c_2 => ?_) (fun c_2 => ?_)
        · rw [if_neg c_2] at hF
          refine lv_iinc (v := (i2 + 1)) (lv' := [(2, .int (i2 + 1)), (0, .ref (Z.2.2 t0)), (1, .int i1)]) hx hb d_SingleBytes_placeIn_17 hl (k := 2) rfl rfl (by decide) rfl (fun ls hl => ?_)
          refine lv_goto (tgt := 2) hx hb d_SingleBytes_placeIn_20 (by decide) ?_
          exact ih2 i1 (i2 + 1)  _ _ _ (g_nn c_1 hi2_0) (Nat.lt_of_lt_of_le (g_dec1 c_1) (Nat.le_of_lt_succ hn2)) hF hP hD hS (lv_sub hl [1, 2, 0] rfl)
        · rw [if_pos c_2] at hF
          refine lv_iload_n hx hb d_SingleBytes_placeIn_15 rfl (lv_at hl 2 rfl) ?_
          exact hret i2 () _ _ _ _ d_SingleBytes_placeIn_16 rfl (hRES.symm.trans hF) hP hD hS
  have hF := hRES
  rw [m_SingleBytes_placeIn] at hF
  refine lv_iconst (v := 0) hx hb d_SingleBytes_placeIn_0 (by decide) ?_
  refine lv_istore_n (lv' := [(2, .int 0), (0, .ref (Z.2.2 t0)), (1, .int p1)]) hx hb d_SingleBytes_placeIn_1 rfl hl (by decide) rfl (fun ls hl => ?_)
  exact lp2 (((nI (tN t0)).toInt - (0 : Int32).toInt).toNat + 1) p1 0  _ _ _ (by decide) (Nat.lt_succ_self _) hF hP hD hS (lv_sub hl [1, 2, 0] rfl)
theorem cw_SingleBytes_placeIn {R : Room} {s : State} {args : Array Value} {own : String} {idx : Nat} (hts : ∀ w ∈ gW, w.before args s = true) (hl : Cond.methodLink own idx y_SingleBytes_placeIn ∈ gW) (hR : rm_SingleBytes_placeIn.frames + 1 ≤ R.frames ∧ 8 + (3 + 11) + rm_SingleBytes_placeIn.locals ≤ R.locals) : CallB R s args own idx y_SingleBytes_placeIn b_SingleBytes_placeIn 3 (some .int) w_SingleBytes_placeIn rm_SingleBytes_placeIn 0 0 2 ∧ (Cond.static y_SingleBytes_placeIn).before args s = true := va_cwS 2 hts (gW_S hl k_760 k_88 k_761) rfl rfl rfl (by decide +kernel) hR
def m_SingleBytes_koiByteOf (p0 : Int32) : Int32 :=
  if p0 = 1105 then
    163
  else
    if p0 = 1025 then
      179
    else
      if (m_SingleBytes_placeIn 2 p0) = (-1) then
        if (m_SingleBytes_placeIn 2 (p0 + 32)) = (-1) then
          63
        else
          (224 + (m_SingleBytes_placeIn 2 (p0 + 32)))
      else
        (192 + (m_SingleBytes_placeIn 2 p0))
def rm_SingleBytes_koiByteOf : Room := { frames := 1, cells := 0, slots := 0, locals := 22 }
set_option maxHeartbeats 4000000 in
set_option maxRecDepth 100000 in
theorem c_SingleBytes_koiByteOf (l : Launch) (D : va_G) (Z : gZT) (kI : ClassId) (sz : Nat) (p0 : Int32) : gMi l y_SingleBytes_koiByteOf w_SingleBytes_koiByteOf rm_SingleBytes_koiByteOf D Z kI [.int p0] sz [] (fun (r : Int32) (_u : Unit) => m_SingleBytes_koiByteOf p0 = r) (fun (_u : Unit) => ([] : va_W)) := by
  refine g_ofi (cc := b_SingleBytes_koiByteOf) (maxL := 3) (ty := .int) (by decide) rfl (Nat.le_of_ble_eq_true rfl) ?_
  intro p e s m below meth c A Q H ls hx hb hml hown hts hA hK hZ hP hD hS hl hret
  have hown : s.vm.findClass "MailCharacters$SingleBytes" = some m.cls := hown
  have hl : lv_has ls 3 [(0, .int p0)] := hl
  obtain ⟨RES, hRES⟩ : ∃ z, z = m_SingleBytes_koiByteOf p0 := ⟨_, rfl⟩
  have hF := hRES
  rw [m_SingleBytes_koiByteOf] at hF
  refine lv_iload_n hx hb d_SingleBytes_koiByteOf_0 rfl (lv_at hl 0 rfl) ?_
  refine lv_sipush (v := 1105) hx hb d_SingleBytes_koiByteOf_1 (by decide) ?_
  refine lv_icmp_ne (tgt := 11) hx hb d_SingleBytes_koiByteOf_4 (by decide) (fun c_1 => ?_) (fun c_1 => ?_)
  · rw [if_neg c_1] at hF
    refine lv_iload_n hx hb d_SingleBytes_koiByteOf_11 rfl (lv_at hl 0 rfl) ?_
    refine lv_sipush (v := 1025) hx hb d_SingleBytes_koiByteOf_12 (by decide) ?_
    refine lv_icmp_ne (tgt := 22) hx hb d_SingleBytes_koiByteOf_15 (by decide) (fun c_2 => ?_) (fun c_2 => ?_)
    · rw [if_neg c_2] at hF
      refine va_gets hx hb (gZ_st2 hZ) hS hown (hts _ k_488) (fun _ h9 => h9) d_SingleBytes_koiByteOf_22 ?_
      refine lv_iload_n hx hb d_SingleBytes_koiByteOf_25 rfl (lv_at hl 0 rfl) ?_
      refine g_Si (As := [.ref (Z.2.2 2), .int p0]) (rest := []) (wr := []) ⟨hx, hb, hml, hown, hts⟩ (c_SingleBytes_placeIn l D Z kI H.size 2 p0 (by decide)) (cw_SingleBytes_placeIn hts k_759 ⟨Nat.le_of_ble_eq_true rfl, Nat.le_of_ble_eq_true rfl⟩) hK hZ hP hD hS hA [] [] rfl rfl (by decide) (by decide) (by decide) rfl hl.1 rfl (Nat.le_of_ble_eq_true rfl) d_SingleBytes_koiByteOf_26 ⟨Nat.zero_le _, Nat.zero_le _⟩ (fun r_3 u_3 H locs hw hP hD hS => ?_)
      have e_3 := hw
      subst e_3
      have hP : va_P D vwCl [] H := hP
      have hD : va_D A [] := hD
      refine lv_istore_n (lv' := [(1, .int (m_SingleBytes_placeIn 2 p0)), (0, .int p0)]) hx hb d_SingleBytes_koiByteOf_29 rfl hl (by decide) rfl (fun ls hl => ?_)
      refine lv_iload_n hx hb d_SingleBytes_koiByteOf_30 rfl (lv_at hl 0 rfl) ?_
      refine lv_iconst (v := (-1)) hx hb d_SingleBytes_koiByteOf_31 (by decide) ?_
      refine lv_icmp_eq (tgt := 41) hx hb d_SingleBytes_koiByteOf_32 (by decide) (fun c_4 => ?_) (fun c_4 => ?_)
      · rw [if_pos c_4] at hF
        refine va_gets hx hb (gZ_st2 hZ) hS hown (hts _ k_488) (fun _ h9 => h9) d_SingleBytes_koiByteOf_41 ?_
        refine lv_iload_n hx hb d_SingleBytes_koiByteOf_44 rfl (lv_at hl 1 rfl) ?_
        refine lv_bipush (v := 32) hx hb d_SingleBytes_koiByteOf_45 (by decide) ?_
        refine lv_iadd hx hb d_SingleBytes_koiByteOf_47 ?_
        refine g_Si (As := [.ref (Z.2.2 2), .int (p0 + 32)]) (rest := []) (wr := []) ⟨hx, hb, hml, hown, hts⟩ (c_SingleBytes_placeIn l D Z kI H.size 2 (p0 + 32) (by decide)) (cw_SingleBytes_placeIn hts k_759 ⟨Nat.le_of_ble_eq_true rfl, Nat.le_of_ble_eq_true rfl⟩) hK hZ hP hD hS hA [] [] rfl rfl (by decide) (by decide) (by decide) rfl hl.1 rfl (Nat.le_of_ble_eq_true rfl) d_SingleBytes_koiByteOf_48 ⟨Nat.zero_le _, Nat.zero_le _⟩ (fun r_5 u_5 H locs hw hP hD hS => ?_)
        have e_5 := hw
        subst e_5
        have hP : va_P D vwCl [] H := hP
        have hD : va_D A [] := hD
        refine lv_istore_n (lv' := [(2, .int (m_SingleBytes_placeIn 2 (p0 + 32))), (1, .int (m_SingleBytes_placeIn 2 p0)), (0, .int p0)]) hx hb d_SingleBytes_koiByteOf_51 rfl hl (by decide) rfl (fun ls hl => ?_)
        refine lv_iload_n hx hb d_SingleBytes_koiByteOf_52 rfl (lv_at hl 0 rfl) ?_
        refine lv_iconst (v := (-1)) hx hb d_SingleBytes_koiByteOf_53 (by decide) ?_
        refine lv_icmp_ne (tgt := 62) hx hb d_SingleBytes_koiByteOf_54 (by decide) (fun c_6 => ?_) (fun c_6 => ?_)
        · rw [if_neg c_6] at hF
          refine lv_sipush (v := 224) hx hb d_SingleBytes_koiByteOf_62 (by decide) ?_
          refine lv_iload_n hx hb d_SingleBytes_koiByteOf_65 rfl (lv_at hl 0 rfl) ?_
          refine lv_iadd hx hb d_SingleBytes_koiByteOf_66 ?_
          exact hret (224 + (m_SingleBytes_placeIn 2 (p0 + 32))) () _ _ _ _ d_SingleBytes_koiByteOf_67 rfl (hRES.symm.trans hF) hP hD hS
        · rw [if_pos c_6] at hF
          refine lv_bipush (v := 63) hx hb d_SingleBytes_koiByteOf_57 (by decide) ?_
          refine lv_goto (tgt := 67) hx hb d_SingleBytes_koiByteOf_59 (by decide) ?_
          exact hret 63 () _ _ _ _ d_SingleBytes_koiByteOf_67 rfl (hRES.symm.trans hF) hP hD hS
      · rw [if_neg c_4] at hF
        refine lv_sipush (v := 192) hx hb d_SingleBytes_koiByteOf_35 (by decide) ?_
        refine lv_iload_n hx hb d_SingleBytes_koiByteOf_38 rfl (lv_at hl 0 rfl) ?_
        refine lv_iadd hx hb d_SingleBytes_koiByteOf_39 ?_
        exact hret (192 + (m_SingleBytes_placeIn 2 p0)) () _ _ _ _ d_SingleBytes_koiByteOf_40 rfl (hRES.symm.trans hF) hP hD hS
    · rw [if_pos c_2] at hF
      refine lv_sipush (v := 179) hx hb d_SingleBytes_koiByteOf_18 (by decide) ?_
      exact hret 179 () _ _ _ _ d_SingleBytes_koiByteOf_21 rfl (hRES.symm.trans hF) hP hD hS
  · rw [if_pos c_1] at hF
    refine lv_sipush (v := 163) hx hb d_SingleBytes_koiByteOf_7 (by decide) ?_
    exact hret 163 () _ _ _ _ d_SingleBytes_koiByteOf_10 rfl (hRES.symm.trans hF) hP hD hS
theorem cw_SingleBytes_koiByteOf {R : Room} {s : State} {args : Array Value} {own : String} {idx : Nat} (hts : ∀ w ∈ gW, w.before args s = true) (hl : Cond.methodLink own idx y_SingleBytes_koiByteOf ∈ gW) (hR : rm_SingleBytes_koiByteOf.frames + 1 ≤ R.frames ∧ 8 + (3 + 11) + rm_SingleBytes_koiByteOf.locals ≤ R.locals) : CallB R s args own idx y_SingleBytes_koiByteOf b_SingleBytes_koiByteOf 3 (some .int) w_SingleBytes_koiByteOf rm_SingleBytes_koiByteOf 0 0 1 ∧ (Cond.static y_SingleBytes_koiByteOf).before args s = true := va_cwS 1 hts (gW_S hl k_763 k_88 k_764) rfl rfl rfl (by decide +kernel) hR
def m_Coder_endLine (n0 : Nat) (l0 : List Int32) (o0 : Int32) : List Int32 × Int32 × Int32 :=
  match (m_Row_put n0 l0 o0 13) with
  | (l0_1, o0_1) =>
    match (m_Row_put n0 l0_1 o0_1 10) with
    | (l1_2, o1_2) =>
      (l1_2, o1_2, 0)
def rm_Coder_endLine : Room := { frames := 1, cells := 0, slots := 0, locals := 21 }
set_option maxHeartbeats 4000000 in
set_option maxRecDepth 100000 in
theorem c_Coder_endLine (l : Launch) (D : va_G) (Z : gZT) (kI : ClassId) (a0 : Nat) (b0 : Nat) (n0 : Nat) (a1 : Nat) (x1_bits : Nat) (sz : Nat) (f0 : Nat → Int32) (l0 : List Int32) (o0 : Int32) (v1_inLine : Int32) (hr0 : g_rw n0 f0 l0) : gMv l y_Coder_endLine w_Coder_endLine rm_Coder_endLine D Z kI [.ref a1, .ref a0] sz [(a0, .inr (4, [.ref b0, .int (nI l0.length), .int o0])), (b0, .inl (kI, n0, .inl f0)), (a1, .inr (1, [.ref x1_bits, .int v1_inLine]))] (fun (u : (Nat → Int32) × List Int32 × Int32 × Int32) => m_Coder_endLine n0 l0 o0 = (u.2.1, u.2.2.1, u.2.2.2) ∧ g_rw n0 u.1 u.2.1) (fun (u : (Nat → Int32) × List Int32 × Int32 × Int32) => ([(a0, .inr (4, [.ref b0, .int (nI u.2.1.length), .int u.2.2.1])), (b0, .inl (kI, n0, .inl u.1)), (a1, .inr (1, [.ref x1_bits, .int u.2.2.2]))] : va_W)) := by
  refine g_ofv (cc := b_Coder_endLine) (maxL := 2) (by decide) rfl (Nat.le_of_ble_eq_true rfl) ?_
  intro p e s m below meth c A Q H ls hx hb hml hown hts hA hK hZ hP hD hS hl hret
  have hown : s.vm.findClass "MailCharacters$Coder" = some m.cls := hown
  have hl : lv_has ls 2 [(0, .ref a1), (1, .ref a0)] := hl
  obtain ⟨RES, hRES⟩ : ∃ z, z = m_Coder_endLine n0 l0 o0 := ⟨_, rfl⟩
  have hF := hRES
  rw [m_Coder_endLine] at hF
  refine lv_aload_n hx hb d_Coder_endLine_0 rfl (lv_at hl 1 rfl) ?_
  refine lv_bipush (v := 13) hx hb d_Coder_endLine_1 (by decide) ?_
  refine g_Vv (As := [.int 13]) (rest := []) (wr := [(a1, .inr (1, [.ref x1_bits, .int v1_inLine]))]) ⟨hx, hb, hml, hown, hts⟩ (c_Row_put l D Z kI a0 b0 n0 H.size f0 l0 o0 13 hr0) (cw_Row_put hts k_794 ⟨Nat.le_of_ble_eq_true rfl, Nat.le_of_ble_eq_true rfl⟩) hK hZ hP hD hS hA [0, 1] [2] (g_recv hK hP (ci := 4) (q0 := 0) rfl rfl) rfl rfl (by decide) (by decide) (by decide) rfl hl.1 rfl (Nat.le_of_ble_eq_true rfl) d_Coder_endLine_3 ⟨Nat.zero_le _, Nat.zero_le _⟩ (fun u_1 H locs hw hP hD hS => ?_)
  obtain ⟨f0_1, l0_1, o0_1⟩ := u_1
  have e_1 := hw.1
  have hr0_1 := hw.2
  have hP : va_P D vwCl [(a1, .inr (1, [.ref x1_bits, .int v1_inLine])), (a0, .inr (4, [.ref b0, .int (nI l0_1.length), .int o0_1])), (b0, .inl (kI, n0, .inl f0_1))] H := hP
  have hD : va_D A [(a1, .inr (1, [.ref x1_bits, .int v1_inLine])), (a0, .inr (4, [.ref b0, .int (nI l0_1.length), .int o0_1])), (b0, .inl (kI, n0, .inl f0_1))] := hD
  rw [e_1] at hF; dsimp only at hF
  refine lv_aload_n hx hb d_Coder_endLine_6 rfl (lv_at hl 1 rfl) ?_
  refine lv_bipush (v := 10) hx hb d_Coder_endLine_7 (by decide) ?_
  refine g_Vv (As := [.int 10]) (rest := []) (wr := [(a1, .inr (1, [.ref x1_bits, .int v1_inLine]))]) ⟨hx, hb, hml, hown, hts⟩ (c_Row_put l D Z kI a0 b0 n0 H.size f0_1 l0_1 o0_1 10 hr0_1) (cw_Row_put hts k_794 ⟨Nat.le_of_ble_eq_true rfl, Nat.le_of_ble_eq_true rfl⟩) hK hZ hP hD hS hA [1, 2] [0] (g_recv hK hP (ci := 4) (q0 := 1) rfl rfl) rfl rfl (by decide) (by decide) (by decide) rfl hl.1 rfl (Nat.le_of_ble_eq_true rfl) d_Coder_endLine_9 ⟨Nat.zero_le _, Nat.zero_le _⟩ (fun u_2 H locs hw hP hD hS => ?_)
  obtain ⟨f1_2, l1_2, o1_2⟩ := u_2
  have e_2 := hw.1
  have hr1_2 := hw.2
  have hP : va_P D vwCl [(a1, .inr (1, [.ref x1_bits, .int v1_inLine])), (a0, .inr (4, [.ref b0, .int (nI l1_2.length), .int o1_2])), (b0, .inl (kI, n0, .inl f1_2))] H := hP
  have hD : va_D A [(a1, .inr (1, [.ref x1_bits, .int v1_inLine])), (a0, .inr (4, [.ref b0, .int (nI l1_2.length), .int o1_2])), (b0, .inl (kI, n0, .inl f1_2))] := hD
  rw [e_2] at hF; dsimp only at hF
  refine lv_aload_n hx hb d_Coder_endLine_12 rfl (lv_at hl 0 rfl) ?_
  refine lv_iconst (v := 0) hx hb d_Coder_endLine_13 (by decide) ?_
  refine va_put (D := D) (ci := 1) (v := .int 0) (ty := .int) (C := "MailCharacters$Coder") (T := F_Coder) (N := 2) hx hb hts i_Coder t_Coder t_Coder_ok n_Coder hown hK hP hD hS 0 rfl rfl 1 (by decide) (hts _ k_176) (fun _ h9 => h9) rfl (by decide +kernel) rfl rfl (Nat.le_of_ble_eq_true rfl) d_Coder_endLine_14 (fun H locs hP hD hS => ?_)
  have hP : va_P D vwCl [(a1, .inr (1, [.ref x1_bits, .int 0])), (a0, .inr (4, [.ref b0, .int (nI l1_2.length), .int o1_2])), (b0, .inl (kI, n0, .inl f1_2))] H := hP
  have hD : va_D A [(a1, .inr (1, [.ref x1_bits, .int 0])), (a0, .inr (4, [.ref b0, .int (nI l1_2.length), .int o1_2])), (b0, .inl (kI, n0, .inl f1_2))] := hD
  exact hret (f1_2, l1_2, o1_2, 0) _ _ _ _ d_Coder_endLine_17 (⟨hRES.symm.trans hF, hr1_2⟩) (hP.sub [1, 2, 0] rfl) (hD.sub [1, 2, 0] (by decide) rfl) hS
theorem cw_Coder_endLine {R : Room} {s : State} {args : Array Value} {own : String} {idx : Nat} (hts : ∀ w ∈ gW, w.before args s = true) (hl : Cond.methodLink own idx y_Coder_endLine ∈ gW) (hR : rm_Coder_endLine.frames + 1 ≤ R.frames ∧ 8 + (2 + 11) + rm_Coder_endLine.locals ≤ R.locals) : CallW R s args own "MailCharacters$Coder" idx y_Coder_endLine b_Coder_endLine 2 none w_Coder_endLine rm_Coder_endLine 0 0 1 := cwV 1 hts (gW_V hl k_792 k_21 k_73 k_793) rfl rfl rfl (by decide +kernel) hR
def m_Coder_isLineEnd (l0 : List Int32) (p1 : Int32) : Int32 :=
  if (m_Row_get l0 p1) = 13 then
    if (m_Row_get l0 (p1 + 1)) = 10 then
      1
    else
      0
  else
    0
def rm_Coder_isLineEnd : Room := { frames := 1, cells := 0, slots := 0, locals := 21 }
set_option maxHeartbeats 4000000 in
set_option maxRecDepth 100000 in
theorem c_Coder_isLineEnd (l : Launch) (D : va_G) (Z : gZT) (kI : ClassId) (a0 : Nat) (b0 : Nat) (n0 : Nat) (sz : Nat) (f0 : Nat → Int32) (l0 : List Int32) (o0 : Int32) (p1 : Int32) (hr0 : g_rw n0 f0 l0) : gMi l y_Coder_isLineEnd w_Coder_isLineEnd rm_Coder_isLineEnd D Z kI [.ref a0, .int p1] sz [(a0, .inr (4, [.ref b0, .int (nI l0.length), .int o0])), (b0, .inl (kI, n0, .inl f0))] (fun (r : Int32) (_u : Unit) => m_Coder_isLineEnd l0 p1 = r) (fun (_u : Unit) => ([(a0, .inr (4, [.ref b0, .int (nI l0.length), .int o0])), (b0, .inl (kI, n0, .inl f0))] : va_W)) := by
  refine g_ofi (cc := b_Coder_isLineEnd) (maxL := 2) (ty := .boolean) (by decide) rfl (Nat.le_of_ble_eq_true rfl) ?_
  intro p e s m below meth c A Q H ls hx hb hml hown hts hA hK hZ hP hD hS hl hret
  have hown : s.vm.findClass "MailCharacters$Coder" = some m.cls := hown
  have hl : lv_has ls 2 [(0, .ref a0), (1, .int p1)] := hl
  obtain ⟨RES, hRES⟩ : ∃ z, z = m_Coder_isLineEnd l0 p1 := ⟨_, rfl⟩
  have hF := hRES
  rw [m_Coder_isLineEnd] at hF
  refine lv_aload_n hx hb d_Coder_isLineEnd_0 rfl (lv_at hl 0 rfl) ?_
  refine lv_iload_n hx hb d_Coder_isLineEnd_1 rfl (lv_at hl 1 rfl) ?_
  refine g_Vi (As := [.int p1]) (rest := []) (wr := []) ⟨hx, hb, hml, hown, hts⟩ (c_Row_get l D Z kI a0 b0 n0 H.size f0 l0 o0 p1 hr0) (cw_Row_get hts k_784 ⟨Nat.le_of_ble_eq_true rfl, Nat.le_of_ble_eq_true rfl⟩) hK hZ hP hD hS hA [0, 1] [] (g_recv hK hP (ci := 4) (q0 := 0) rfl rfl) rfl rfl (by decide) (by decide) (by decide) rfl hl.1 rfl (Nat.le_of_ble_eq_true rfl) d_Coder_isLineEnd_2 ⟨Nat.zero_le _, Nat.zero_le _⟩ (fun r_1 u_1 H locs hw hP hD hS => ?_)
  have e_1 := hw
  subst e_1
  have hP : va_P D vwCl [(a0, .inr (4, [.ref b0, .int (nI l0.length), .int o0])), (b0, .inl (kI, n0, .inl f0))] H := hP
  have hD : va_D A [(a0, .inr (4, [.ref b0, .int (nI l0.length), .int o0])), (b0, .inl (kI, n0, .inl f0))] := hD
  refine lv_bipush (v := 13) hx hb d_Coder_isLineEnd_5 (by decide) ?_
  refine lv_icmp_ne (tgt := 26) hx hb d_Coder_isLineEnd_7 (by decide) (fun c_2 => ?_) (fun c_2 => ?_)
  · rw [if_neg c_2] at hF
    refine lv_iconst (v := 0) hx hb d_Coder_isLineEnd_26 (by decide) ?_
    exact hret 0 () _ _ _ _ d_Coder_isLineEnd_27 rfl (hRES.symm.trans hF) hP hD hS
  · rw [if_pos c_2] at hF
    refine lv_aload_n hx hb d_Coder_isLineEnd_10 rfl (lv_at hl 0 rfl) ?_
    refine lv_iload_n hx hb d_Coder_isLineEnd_11 rfl (lv_at hl 1 rfl) ?_
    refine lv_iconst (v := 1) hx hb d_Coder_isLineEnd_12 (by decide) ?_
    refine lv_iadd hx hb d_Coder_isLineEnd_13 ?_
    refine g_Vi (As := [.int (p1 + 1)]) (rest := []) (wr := []) ⟨hx, hb, hml, hown, hts⟩ (c_Row_get l D Z kI a0 b0 n0 H.size f0 l0 o0 (p1 + 1) hr0) (cw_Row_get hts k_784 ⟨Nat.le_of_ble_eq_true rfl, Nat.le_of_ble_eq_true rfl⟩) hK hZ hP hD hS hA [0, 1] [] (g_recv hK hP (ci := 4) (q0 := 0) rfl rfl) rfl rfl (by decide) (by decide) (by decide) rfl hl.1 rfl (Nat.le_of_ble_eq_true rfl) d_Coder_isLineEnd_14 ⟨Nat.zero_le _, Nat.zero_le _⟩ (fun r_3 u_3 H locs hw hP hD hS => ?_)
    have e_3 := hw
    subst e_3
    have hP : va_P D vwCl [(a0, .inr (4, [.ref b0, .int (nI l0.length), .int o0])), (b0, .inl (kI, n0, .inl f0))] H := hP
    have hD : va_D A [(a0, .inr (4, [.ref b0, .int (nI l0.length), .int o0])), (b0, .inl (kI, n0, .inl f0))] := hD
    refine lv_bipush (v := 10) hx hb d_Coder_isLineEnd_17 (by decide) ?_
    refine lv_icmp_ne (tgt := 26) hx hb d_Coder_isLineEnd_19 (by decide) (fun c_4 => ?_) (fun c_4 => ?_)
    · rw [if_neg c_4] at hF
      refine lv_iconst (v := 0) hx hb d_Coder_isLineEnd_26 (by decide) ?_
      exact hret 0 () _ _ _ _ d_Coder_isLineEnd_27 rfl (hRES.symm.trans hF) hP hD hS
    · rw [if_pos c_4] at hF
      refine lv_iconst (v := 1) hx hb d_Coder_isLineEnd_22 (by decide) ?_
      refine lv_goto (tgt := 27) hx hb d_Coder_isLineEnd_23 (by decide) ?_
      exact hret 1 () _ _ _ _ d_Coder_isLineEnd_27 rfl (hRES.symm.trans hF) hP hD hS
theorem cw_Coder_isLineEnd {R : Room} {s : State} {args : Array Value} {own : String} {idx : Nat} (hts : ∀ w ∈ gW, w.before args s = true) (hl : Cond.methodLink own idx y_Coder_isLineEnd ∈ gW) (hR : rm_Coder_isLineEnd.frames + 1 ≤ R.frames ∧ 8 + (2 + 11) + rm_Coder_isLineEnd.locals ≤ R.locals) : CallB R s args own idx y_Coder_isLineEnd b_Coder_isLineEnd 2 (some .boolean) w_Coder_isLineEnd rm_Coder_isLineEnd 0 0 2 ∧ (Cond.static y_Coder_isLineEnd).before args s = true := va_cwS 2 hts (gW_S hl k_804 k_73 k_805) rfl rfl rfl (by decide +kernel) hR
def m_Coder_isItself (l0 : List Int32) (p1 : Int32) : Int32 :=
  if (m_Row_get l0 p1) = 32 then
    if (m_Row_size l0) ≤ (p1 + 1) then
      0
    else
      if (m_Coder_isLineEnd l0 (p1 + 1)) = 0 then
        1
      else
        0
  else
    if (m_Row_get l0 p1) = 9 then
      if (m_Row_size l0) ≤ (p1 + 1) then
        0
      else
        if (m_Coder_isLineEnd l0 (p1 + 1)) = 0 then
          1
        else
          0
    else
      if (m_Row_get l0 p1) ≤ 32 then
        0
      else
        if 126 < (m_Row_get l0 p1) then
          0
        else
          if (m_Row_get l0 p1) = 61 then
            0
          else
            1
def rm_Coder_isItself : Room := { frames := 2, cells := 0, slots := 0, locals := 42 }
set_option maxHeartbeats 4000000 in
set_option maxRecDepth 100000 in
theorem c_Coder_isItself (l : Launch) (D : va_G) (Z : gZT) (kI : ClassId) (a0 : Nat) (b0 : Nat) (n0 : Nat) (sz : Nat) (f0 : Nat → Int32) (l0 : List Int32) (o0 : Int32) (p1 : Int32) (hr0 : g_rw n0 f0 l0) : gMi l y_Coder_isItself w_Coder_isItself rm_Coder_isItself D Z kI [.ref a0, .int p1] sz [(a0, .inr (4, [.ref b0, .int (nI l0.length), .int o0])), (b0, .inl (kI, n0, .inl f0))] (fun (r : Int32) (_u : Unit) => m_Coder_isItself l0 p1 = r) (fun (_u : Unit) => ([(a0, .inr (4, [.ref b0, .int (nI l0.length), .int o0])), (b0, .inl (kI, n0, .inl f0))] : va_W)) := by
  refine g_ofi (cc := b_Coder_isItself) (maxL := 3) (ty := .boolean) (by decide) rfl (Nat.le_of_ble_eq_true rfl) ?_
  intro p e s m below meth c A Q H ls hx hb hml hown hts hA hK hZ hP hD hS hl hret
  have hown : s.vm.findClass "MailCharacters$Coder" = some m.cls := hown
  have hl : lv_has ls 3 [(0, .ref a0), (1, .int p1)] := hl
  obtain ⟨RES, hRES⟩ : ∃ z, z = m_Coder_isItself l0 p1 := ⟨_, rfl⟩
  have hF := hRES
  rw [m_Coder_isItself] at hF
  refine lv_aload_n hx hb d_Coder_isItself_0 rfl (lv_at hl 0 rfl) ?_
  refine lv_iload_n hx hb d_Coder_isItself_1 rfl (lv_at hl 1 rfl) ?_
  refine g_Vi (As := [.int p1]) (rest := []) (wr := []) ⟨hx, hb, hml, hown, hts⟩ (c_Row_get l D Z kI a0 b0 n0 H.size f0 l0 o0 p1 hr0) (cw_Row_get hts k_784 ⟨Nat.le_of_ble_eq_true rfl, Nat.le_of_ble_eq_true rfl⟩) hK hZ hP hD hS hA [0, 1] [] (g_recv hK hP (ci := 4) (q0 := 0) rfl rfl) rfl rfl (by decide) (by decide) (by decide) rfl hl.1 rfl (Nat.le_of_ble_eq_true rfl) d_Coder_isItself_2 ⟨Nat.zero_le _, Nat.zero_le _⟩ (fun r_1 u_1 H locs hw hP hD hS => ?_)
  have e_1 := hw
  subst e_1
  have hP : va_P D vwCl [(a0, .inr (4, [.ref b0, .int (nI l0.length), .int o0])), (b0, .inl (kI, n0, .inl f0))] H := hP
  have hD : va_D A [(a0, .inr (4, [.ref b0, .int (nI l0.length), .int o0])), (b0, .inl (kI, n0, .inl f0))] := hD
  refine lv_istore_n (lv' := [(2, .int (m_Row_get l0 p1)), (0, .ref a0), (1, .int p1)]) hx hb d_Coder_isItself_5 rfl hl (by decide) rfl (fun ls hl => ?_)
  refine lv_iload_n hx hb d_Coder_isItself_6 rfl (lv_at hl 0 rfl) ?_
  refine lv_bipush (v := 32) hx hb d_Coder_isItself_7 (by decide) ?_
  refine lv_icmp_eq (tgt := 18) hx hb d_Coder_isItself_9 (by decide) (fun c_2 => ?_) (fun c_2 => ?_)
  · rw [if_pos c_2] at hF
    refine lv_iload_n hx hb d_Coder_isItself_18 rfl (lv_at hl 2 rfl) ?_
    refine lv_iconst (v := 1) hx hb d_Coder_isItself_19 (by decide) ?_
    refine lv_iadd hx hb d_Coder_isItself_20 ?_
    refine lv_aload_n hx hb d_Coder_isItself_21 rfl (lv_at hl 1 rfl) ?_
    refine g_Vi (As := []) (rest := [.int (p1 + 1)]) (wr := []) ⟨hx, hb, hml, hown, hts⟩ (c_Row_size l D Z kI a0 b0 n0 H.size f0 l0 o0 hr0) (cw_Row_size hts k_783 ⟨Nat.le_of_ble_eq_true rfl, Nat.le_of_ble_eq_true rfl⟩) hK hZ hP hD hS hA [0, 1] [] (g_recv hK hP (ci := 4) (q0 := 0) rfl rfl) rfl rfl (by decide) (by decide) (by decide) rfl hl.1 rfl (Nat.le_of_ble_eq_true rfl) d_Coder_isItself_22 ⟨Nat.zero_le _, Nat.zero_le _⟩ (fun r_3 u_3 H locs hw hP hD hS => ?_)
    have e_3 := hw
    subst e_3
    have hP : va_P D vwCl [(a0, .inr (4, [.ref b0, .int (nI l0.length), .int o0])), (b0, .inl (kI, n0, .inl f0))] H := hP
    have hD : va_D A [(a0, .inr (4, [.ref b0, .int (nI l0.length), .int o0])), (b0, .inl (kI, n0, .inl f0))] := hD
    refine lv_icmp_ge (tgt := 42) hx hb d_Coder_isItself_25 (by decide) (fun c_4 => ?_) (fun c_4 => ?_)
    · rw [if_pos c_4] at hF
      refine lv_iconst (v := 0) hx hb d_Coder_isItself_42 (by decide) ?_
      exact hret 0 () _ _ _ _ d_Coder_isItself_43 rfl (hRES.symm.trans hF) hP hD hS
    · rw [if_neg c_4] at hF
      refine lv_aload_n hx hb d_Coder_isItself_28 rfl (lv_at hl 1 rfl) ?_
      refine lv_iload_n hx hb d_Coder_isItself_29 rfl (lv_at hl 2 rfl) ?_
      refine lv_iconst (v := 1) hx hb d_Coder_isItself_30 (by decide) ?_
      refine lv_iadd hx hb d_Coder_isItself_31 ?_
      refine g_Si (As := [.ref a0, .int (p1 + 1)]) (rest := []) (wr := []) ⟨hx, hb, hml, hown, hts⟩ (c_Coder_isLineEnd l D Z kI a0 b0 n0 H.size f0 l0 o0 (p1 + 1) hr0) (cw_Coder_isLineEnd hts k_803 ⟨Nat.le_of_ble_eq_true rfl, Nat.le_of_ble_eq_true rfl⟩) hK hZ hP hD hS hA [0, 1] [] rfl rfl (by decide) (by decide) (by decide) rfl hl.1 rfl (Nat.le_of_ble_eq_true rfl) d_Coder_isItself_32 ⟨Nat.zero_le _, Nat.zero_le _⟩ (fun r_5 u_5 H locs hw hP hD hS => ?_)
      have e_5 := hw
      subst e_5
      have hP : va_P D vwCl [(a0, .inr (4, [.ref b0, .int (nI l0.length), .int o0])), (b0, .inl (kI, n0, .inl f0))] H := hP
      have hD : va_D A [(a0, .inr (4, [.ref b0, .int (nI l0.length), .int o0])), (b0, .inl (kI, n0, .inl f0))] := hD
      refine lv_if_ne (tgt := 42) hx hb d_Coder_isItself_35 (by decide) (fun c_6 => ?_) (fun c_6 => ?_)
      · rw [if_neg c_6] at hF
        refine lv_iconst (v := 0) hx hb d_Coder_isItself_42 (by decide) ?_
        exact hret 0 () _ _ _ _ d_Coder_isItself_43 rfl (hRES.symm.trans hF) hP hD hS
      · rw [if_pos c_6] at hF
        refine lv_iconst (v := 1) hx hb d_Coder_isItself_38 (by decide) ?_
        refine lv_goto (tgt := 43) hx hb d_Coder_isItself_39 (by decide) ?_
        exact hret 1 () _ _ _ _ d_Coder_isItself_43 rfl (hRES.symm.trans hF) hP hD hS
  · rw [if_neg c_2] at hF
    refine lv_iload_n hx hb d_Coder_isItself_12 rfl (lv_at hl 0 rfl) ?_
    refine lv_bipush (v := 9) hx hb d_Coder_isItself_13 (by decide) ?_
    refine lv_icmp_ne (tgt := 44) hx hb d_Coder_isItself_15 (by decide) (fun c_7 => ?_) (fun c_7 => ?_)
    · rw [if_neg c_7] at hF
      refine lv_iload_n hx hb d_Coder_isItself_44 rfl (lv_at hl 0 rfl) ?_
      refine lv_bipush (v := 32) hx hb d_Coder_isItself_45 (by decide) ?_
      refine lv_icmp_le (tgt := 66) hx hb d_Coder_isItself_47 (by decide) (fun c_8 => ?_) (fun c_8 => ?_)
      · rw [if_pos c_8] at hF
        refine lv_iconst (v := 0) hx hb d_Coder_isItself_66 (by decide) ?_
        exact hret 0 () _ _ _ _ d_Coder_isItself_67 rfl (hRES.symm.trans hF) hP hD hS
      · rw [if_neg c_8] at hF
        refine lv_iload_n hx hb d_Coder_isItself_50 rfl (lv_at hl 0 rfl) ?_
        refine lv_bipush (v := 126) hx hb d_Coder_isItself_51 (by decide) ?_
        refine lv_icmp_gt (tgt := 66) hx hb d_Coder_isItself_53 (by decide) (fun c_9 => ?_) (fun c_9 => ?_)
        · rw [if_pos c_9] at hF
          refine lv_iconst (v := 0) hx hb d_Coder_isItself_66 (by decide) ?_
          exact hret 0 () _ _ _ _ d_Coder_isItself_67 rfl (hRES.symm.trans hF) hP hD hS
        · rw [if_neg c_9] at hF
          refine lv_iload_n hx hb d_Coder_isItself_56 rfl (lv_at hl 0 rfl) ?_
          refine lv_bipush (v := 61) hx hb d_Coder_isItself_57 (by decide) ?_
          refine lv_icmp_eq (tgt := 66) hx hb d_Coder_isItself_59 (by decide) (fun c_10 => ?_) (fun c_10 => ?_)
          · rw [if_pos c_10] at hF
            refine lv_iconst (v := 0) hx hb d_Coder_isItself_66 (by decide) ?_
            exact hret 0 () _ _ _ _ d_Coder_isItself_67 rfl (hRES.symm.trans hF) hP hD hS
          · rw [if_neg c_10] at hF
            refine lv_iconst (v := 1) hx hb d_Coder_isItself_62 (by decide) ?_
            refine lv_goto (tgt := 67) hx hb d_Coder_isItself_63 (by decide) ?_
            exact hret 1 () _ _ _ _ d_Coder_isItself_67 rfl (hRES.symm.trans hF) hP hD hS
    · rw [if_pos c_7] at hF
      refine lv_iload_n hx hb d_Coder_isItself_18 rfl (lv_at hl 2 rfl) ?_
      refine lv_iconst (v := 1) hx hb d_Coder_isItself_19 (by decide) ?_
      refine lv_iadd hx hb d_Coder_isItself_20 ?_
      refine lv_aload_n hx hb d_Coder_isItself_21 rfl (lv_at hl 1 rfl) ?_
      refine g_Vi (As := []) (rest := [.int (p1 + 1)]) (wr := []) ⟨hx, hb, hml, hown, hts⟩ (c_Row_size l D Z kI a0 b0 n0 H.size f0 l0 o0 hr0) (cw_Row_size hts k_783 ⟨Nat.le_of_ble_eq_true rfl, Nat.le_of_ble_eq_true rfl⟩) hK hZ hP hD hS hA [0, 1] [] (g_recv hK hP (ci := 4) (q0 := 0) rfl rfl) rfl rfl (by decide) (by decide) (by decide) rfl hl.1 rfl (Nat.le_of_ble_eq_true rfl) d_Coder_isItself_22 ⟨Nat.zero_le _, Nat.zero_le _⟩ (fun r_11 u_11 H locs hw hP hD hS => ?_)
      have e_11 := hw
      subst e_11
      have hP : va_P D vwCl [(a0, .inr (4, [.ref b0, .int (nI l0.length), .int o0])), (b0, .inl (kI, n0, .inl f0))] H := hP
      have hD : va_D A [(a0, .inr (4, [.ref b0, .int (nI l0.length), .int o0])), (b0, .inl (kI, n0, .inl f0))] := hD
      refine lv_icmp_ge (tgt := 42) hx hb d_Coder_isItself_25 (by decide) (fun c_12 => ?_) (fun c_12 => ?_)
      · rw [if_pos c_12] at hF
        refine lv_iconst (v := 0) hx hb d_Coder_isItself_42 (by decide) ?_
        exact hret 0 () _ _ _ _ d_Coder_isItself_43 rfl (hRES.symm.trans hF) hP hD hS
      · rw [if_neg c_12] at hF
        refine lv_aload_n hx hb d_Coder_isItself_28 rfl (lv_at hl 1 rfl) ?_
        refine lv_iload_n hx hb d_Coder_isItself_29 rfl (lv_at hl 2 rfl) ?_
        refine lv_iconst (v := 1) hx hb d_Coder_isItself_30 (by decide) ?_
        refine lv_iadd hx hb d_Coder_isItself_31 ?_
        refine g_Si (As := [.ref a0, .int (p1 + 1)]) (rest := []) (wr := []) ⟨hx, hb, hml, hown, hts⟩ (c_Coder_isLineEnd l D Z kI a0 b0 n0 H.size f0 l0 o0 (p1 + 1) hr0) (cw_Coder_isLineEnd hts k_803 ⟨Nat.le_of_ble_eq_true rfl, Nat.le_of_ble_eq_true rfl⟩) hK hZ hP hD hS hA [0, 1] [] rfl rfl (by decide) (by decide) (by decide) rfl hl.1 rfl (Nat.le_of_ble_eq_true rfl) d_Coder_isItself_32 ⟨Nat.zero_le _, Nat.zero_le _⟩ (fun r_13 u_13 H locs hw hP hD hS => ?_)
        have e_13 := hw
        subst e_13
        have hP : va_P D vwCl [(a0, .inr (4, [.ref b0, .int (nI l0.length), .int o0])), (b0, .inl (kI, n0, .inl f0))] H := hP
        have hD : va_D A [(a0, .inr (4, [.ref b0, .int (nI l0.length), .int o0])), (b0, .inl (kI, n0, .inl f0))] := hD
        refine lv_if_ne (tgt := 42) hx hb d_Coder_isItself_35 (by decide) (fun c_14 => ?_) (fun c_14 => ?_)
        · rw [if_neg c_14] at hF
          refine lv_iconst (v := 0) hx hb d_Coder_isItself_42 (by decide) ?_
          exact hret 0 () _ _ _ _ d_Coder_isItself_43 rfl (hRES.symm.trans hF) hP hD hS
        · rw [if_pos c_14] at hF
          refine lv_iconst (v := 1) hx hb d_Coder_isItself_38 (by decide) ?_
          refine lv_goto (tgt := 43) hx hb d_Coder_isItself_39 (by decide) ?_
          exact hret 1 () _ _ _ _ d_Coder_isItself_43 rfl (hRES.symm.trans hF) hP hD hS
theorem cw_Coder_isItself {R : Room} {s : State} {args : Array Value} {own : String} {idx : Nat} (hts : ∀ w ∈ gW, w.before args s = true) (hl : Cond.methodLink own idx y_Coder_isItself ∈ gW) (hR : rm_Coder_isItself.frames + 1 ≤ R.frames ∧ 8 + (3 + 11) + rm_Coder_isItself.locals ≤ R.locals) : CallB R s args own idx y_Coder_isItself b_Coder_isItself 3 (some .boolean) w_Coder_isItself rm_Coder_isItself 0 0 2 ∧ (Cond.static y_Coder_isItself).before args s = true := va_cwS 2 hts (gW_S hl k_807 k_73 k_808) rfl rfl rfl (by decide +kernel) hR
def m_Letters_digitOf (p0 : Int32) : Int32 :=
  (m_String_charAt 4 (p0 &&& 15))
def rm_Letters_digitOf : Room := { frames := 4, cells := 0, slots := 0, locals := 85 }
set_option maxHeartbeats 4000000 in
set_option maxRecDepth 100000 in
theorem c_Letters_digitOf (l : Launch) (D : va_G) (Z : gZT) (kI : ClassId) (sz : Nat) (p0 : Int32) : gMi l y_Letters_digitOf w_Letters_digitOf rm_Letters_digitOf D Z kI [.int p0] sz [] (fun (r : Int32) (_u : Unit) => m_Letters_digitOf p0 = r) (fun (_u : Unit) => ([] : va_W)) := by
  refine g_ofi (cc := b_Letters_digitOf) (maxL := 1) (ty := .int) (by decide) rfl (Nat.le_of_ble_eq_true rfl) ?_
  intro p e s m below meth c A Q H ls hx hb hml hown hts hA hK hZ hP hD hS hl hret
  have hown : s.vm.findClass "MailCharacters$Letters" = some m.cls := hown
  have hl : lv_has ls 1 [(0, .int p0)] := hl
  obtain ⟨RES, hRES⟩ : ∃ z, z = m_Letters_digitOf p0 := ⟨_, rfl⟩
  have hF := hRES
  rw [m_Letters_digitOf] at hF
  refine va_ldcS hx hb hown (gZ_lit hZ (i := 4) (by decide)) d_Letters_digitOf_0 ?_
  refine lv_iload_n hx hb d_Letters_digitOf_2 rfl (lv_at hl 0 rfl) ?_
  refine lv_bipush (v := 15) hx hb d_Letters_digitOf_3 (by decide) ?_
  refine lv_iand hx hb d_Letters_digitOf_5 ?_
  refine g_Vi (As := [.int (p0 &&& 15)]) (rest := []) (wr := []) ⟨hx, hb, hml, hown, hts⟩ (c_String_charAt l D Z kI H.size 4 (p0 &&& 15) (g_and15 _).1 (g_and15 _).2 (by decide)) (cw_String_charAt hts k_817 ⟨Nat.le_of_ble_eq_true rfl, Nat.le_of_ble_eq_true rfl⟩) hK hZ hP hD hS hA [] [] (gZ_recv hZ hS (by decide)) rfl rfl (by decide) (by decide) (by decide) rfl hl.1 rfl (Nat.le_of_ble_eq_true rfl) d_Letters_digitOf_6 ⟨Nat.zero_le _, Nat.zero_le _⟩ (fun r_1 u_1 H locs hw hP hD hS => ?_)
  have e_1 := hw
  subst e_1
  have hP : va_P D vwCl [] H := hP
  have hD : va_D A [] := hD
  exact hret (m_String_charAt 4 (p0 &&& 15)) () _ _ _ _ d_Letters_digitOf_9 rfl (hRES.symm.trans hF) hP hD hS
theorem cw_Letters_digitOf {R : Room} {s : State} {args : Array Value} {own : String} {idx : Nat} (hts : ∀ w ∈ gW, w.before args s = true) (hl : Cond.methodLink own idx y_Letters_digitOf ∈ gW) (hR : rm_Letters_digitOf.frames + 1 ≤ R.frames ∧ 8 + (1 + 11) + rm_Letters_digitOf.locals ≤ R.locals) : CallB R s args own idx y_Letters_digitOf b_Letters_digitOf 1 (some .int) w_Letters_digitOf rm_Letters_digitOf 0 0 1 ∧ (Cond.static y_Letters_digitOf).before args s = true := va_cwS 1 hts (gW_S hl k_814 k_87 k_815) rfl rfl rfl (by decide +kernel) hR
def m_Names_goesOnAs_l3 (s2 : Nat) : Nat → Int32 → Int32 → Int32 → Int32 → List Int32 → Int32
  | 0, _, _, _, _, _ => 0
  | nf3 + 1, i1, i3, i4, i5, l0 =>
    if i4 ≤ i5 then
      1
    else
      if (m_String_length s2) ≤ i5 then
        1
      else
        if (m_Names_small (m_Row_get l0 ((i1 + i5) - i3))) = (m_String_charAt s2 i5) then
          m_Names_goesOnAs_l3 s2 nf3 i1 i3 i4 (i5 + 1) l0
        else
          0
def m_Names_goesOnAs (l0 : List Int32) (p1 : Int32) (s2 : Nat) (p3 : Int32) (p4 : Int32) : Int32 :=
  m_Names_goesOnAs_l3 s2 ((p4.toInt - p3.toInt).toNat + 1) p1 p3 p4 p3 l0
def rm_Names_goesOnAs : Room := { frames := 4, cells := 0, slots := 0, locals := 85 }
set_option maxHeartbeats 4000000 in
set_option maxRecDepth 100000 in
theorem c_Names_goesOnAs (l : Launch) (D : va_G) (Z : gZT) (kI : ClassId) (a0 : Nat) (b0 : Nat) (n0 : Nat) (sz : Nat) (f0 : Nat → Int32) (l0 : List Int32) (o0 : Int32) (p1 : Int32) (s2 : Nat) (p3 : Int32) (p4 : Int32) (hr0 : g_rw n0 f0 l0) (hs2 : s2 < gnS) (hpre0 : ¬ p3 < 0) : gMi l y_Names_goesOnAs w_Names_goesOnAs rm_Names_goesOnAs D Z kI [.ref a0, .int p1, .ref (Z.1 s2), .int p3, .int p4] sz [(a0, .inr (4, [.ref b0, .int (nI l0.length), .int o0])), (b0, .inl (kI, n0, .inl f0))] (fun (r : Int32) (_u : Unit) => m_Names_goesOnAs l0 p1 s2 p3 p4 = r) (fun (_u : Unit) => ([(a0, .inr (4, [.ref b0, .int (nI l0.length), .int o0])), (b0, .inl (kI, n0, .inl f0))] : va_W)) := by
  refine g_ofi (cc := b_Names_goesOnAs) (maxL := 6) (ty := .boolean) (by decide) rfl (Nat.le_of_ble_eq_true rfl) ?_
  intro p e s m below meth c A Q H ls hx hb hml hown hts hA hK hZ hP hD hS hl hret
  have hown : s.vm.findClass "MailCharacters$Names" = some m.cls := hown
  have hl : lv_has ls 6 [(0, .ref a0), (1, .int p1), (2, .ref (Z.1 s2)), (3, .int p3), (4, .int p4)] := hl
  obtain ⟨RES, hRES⟩ : ∃ z, z = m_Names_goesOnAs l0 p1 s2 p3 p4 := ⟨_, rfl⟩
  have lp3 : ∀ (nf3 : Nat) (i1 : Int32) (i3 : Int32) (i4 : Int32) (i5 : Int32) (H : Heap) (locs : List Loc) (ls : Array Slot), ¬ i5 < 0 → (i4.toInt - i5.toInt).toNat < nf3 → RES = m_Names_goesOnAs_l3 s2 nf3 i1 i3 i4 i5 l0 → va_P D vwCl [(a0, .inr (4, [.ref b0, .int (nI l0.length), .int o0])), (b0, .inl (kI, n0, .inl f0))] H → va_D A [(a0, .inr (4, [.ref b0, .int (nI l0.length), .int o0])), (b0, .inl (kI, n0, .inl f0))] → va_S A s.heap H locs → lv_has ls 6 [(0, .ref a0), (1, .int i1), (2, .ref (Z.1 s2)), (3, .int i3), (4, .int i4), (5, .int i5)] → W p l e rm_Names_goesOnAs s m ([.ref a0, .int p1, .ref (Z.1 s2), .int p3, .int p4] : List Value).toArray below meth c H locs 0 0 Q (F0 m 3 ls []) := by
    intro nf3
    induction nf3 with
    | zero => intro i1 i3 i4 i5 H locs ls hi3_0 hn3; exact absurd hn3 (Nat.not_lt_zero _)
    | succ nf3 ih3 =>
      intro i1 i3 i4 i5 H locs ls hi3_0 hn3 hF hP hD hS hl
      rw [m_Names_goesOnAs_l3] at hF
      refine lv_iload hx hb d_Names_goesOnAs_3 (lv_at hl 5 rfl) ?_
      refine lv_iload hx hb d_Names_goesOnAs_5 (lv_at hl 4 rfl) ?_
      refine lv_icmp_ge (tgt := 49) hx hb d_Names_goesOnAs_7 (by decide) (fun c_1 => ?_) (fun c_1 => ?_)
      · rw [if_pos c_1] at hF
        refine lv_iconst (v := 1) hx hb d_Names_goesOnAs_49 (by decide) ?_
        exact hret 1 () _ _ _ _ d_Names_goesOnAs_50 rfl (hRES.symm.trans hF) hP hD hS
      · rw [if_neg c_1] at hF
        refine lv_iload hx hb d_Names_goesOnAs_10 (lv_at hl 5 rfl) ?_
        refine lv_aload_n hx hb d_Names_goesOnAs_12 rfl (lv_at hl 2 rfl) ?_
        refine g_Vi (As := []) (rest := [.int i5]) (wr := [(a0, .inr (4, [.ref b0, .int (nI l0.length), .int o0])), (b0, .inl (kI, n0, .inl f0))]) ⟨hx, hb, hml, hown, hts⟩ (c_String_length l D Z kI H.size s2 hs2) (cw_String_length hts k_309 ⟨Nat.le_of_ble_eq_true rfl, Nat.le_of_ble_eq_true rfl⟩) hK hZ hP hD hS hA [] [0, 1] (gZ_recv hZ hS hs2) rfl rfl (by decide) (by decide) (by decide) rfl hl.1 rfl (Nat.le_of_ble_eq_true rfl) d_Names_goesOnAs_13 ⟨Nat.zero_le _, Nat.zero_le _⟩ (fun r_2 u_2 H locs hw hP hD hS => ?_)
        have e_2 := hw
        subst e_2
        have hP : va_P D vwCl [(a0, .inr (4, [.ref b0, .int (nI l0.length), .int o0])), (b0, .inl (kI, n0, .inl f0))] H := hP
        have hD : va_D A [(a0, .inr (4, [.ref b0, .int (nI l0.length), .int o0])), (b0, .inl (kI, n0, .inl f0))] := hD
        refine lv_icmp_ge (tgt := 49) hx hb d_Names_goesOnAs_16 (by decide) (fun c_3 => ?_) (fun c_3 => ?_)
        · rw [if_pos c_3] at hF
          refine lv_iconst (v := 1) hx hb d_Names_goesOnAs_49 (by decide) ?_
          exact hret 1 () _ _ _ _ d_Names_goesOnAs_50 rfl (hRES.symm.trans hF) hP hD hS
        · rw [if_neg c_3] at hF
          refine lv_aload_n hx hb d_Names_goesOnAs_19 rfl (lv_at hl 0 rfl) ?_
          refine lv_iload_n hx hb d_Names_goesOnAs_20 rfl (lv_at hl 1 rfl) ?_
          refine lv_iload hx hb d_Names_goesOnAs_21 (lv_at hl 5 rfl) ?_
          refine lv_iadd hx hb d_Names_goesOnAs_23 ?_
          refine lv_iload_n hx hb d_Names_goesOnAs_24 rfl (lv_at hl 3 rfl) ?_
          refine lv_isub hx hb d_Names_goesOnAs_25 ?_
          refine g_Vi (As := [.int ((i1 + i5) - i3)]) (rest := []) (wr := []) ⟨hx, hb, hml, hown, hts⟩ (c_Row_get l D Z kI a0 b0 n0 H.size f0 l0 o0 ((i1 + i5) - i3) hr0) (cw_Row_get hts k_360 ⟨Nat.le_of_ble_eq_true rfl, Nat.le_of_ble_eq_true rfl⟩) hK hZ hP hD hS hA [0, 1] [] (g_recv hK hP (ci := 4) (q0 := 0) rfl rfl) rfl rfl (by decide) (by decide) (by decide) rfl hl.1 rfl (Nat.le_of_ble_eq_true rfl) d_Names_goesOnAs_26 ⟨Nat.zero_le _, Nat.zero_le _⟩ (fun r_4 u_4 H locs hw hP hD hS => ?_)
          have e_4 := hw
          subst e_4
          have hP : va_P D vwCl [(a0, .inr (4, [.ref b0, .int (nI l0.length), .int o0])), (b0, .inl (kI, n0, .inl f0))] H := hP
          have hD : va_D A [(a0, .inr (4, [.ref b0, .int (nI l0.length), .int o0])), (b0, .inl (kI, n0, .inl f0))] := hD
          refine g_Si (As := [.int (m_Row_get l0 ((i1 + i5) - i3))]) (rest := []) (wr := [(a0, .inr (4, [.ref b0, .int (nI l0.length), .int o0])), (b0, .inl (kI, n0, .inl f0))]) ⟨hx, hb, hml, hown, hts⟩ (c_Names_small l D Z kI H.size (m_Row_get l0 ((i1 + i5) - i3))) (cw_Names_small hts k_364 ⟨Nat.le_of_ble_eq_true rfl, Nat.le_of_ble_eq_true rfl⟩) hK hZ hP hD hS hA [] [0, 1] rfl rfl (by decide) (by decide) (by decide) rfl hl.1 rfl (Nat.le_of_ble_eq_true rfl) d_Names_goesOnAs_29 ⟨Nat.zero_le _, Nat.zero_le _⟩ (fun r_5 u_5 H locs hw hP hD hS => ?_)
          have e_5 := hw
          subst e_5
          have hP : va_P D vwCl [(a0, .inr (4, [.ref b0, .int (nI l0.length), .int o0])), (b0, .inl (kI, n0, .inl f0))] H := hP
          have hD : va_D A [(a0, .inr (4, [.ref b0, .int (nI l0.length), .int o0])), (b0, .inl (kI, n0, .inl f0))] := hD
          refine lv_aload_n hx hb d_Names_goesOnAs_32 rfl (lv_at hl 2 rfl) ?_
          refine lv_iload hx hb d_Names_goesOnAs_33 (lv_at hl 5 rfl) ?_
          refine g_Vi (As := [.int i5]) (rest := [.int (m_Names_small (m_Row_get l0 ((i1 + i5) - i3)))]) (wr := [(a0, .inr (4, [.ref b0, .int (nI l0.length), .int o0])), (b0, .inl (kI, n0, .inl f0))]) ⟨hx, hb, hml, hown, hts⟩ (c_String_charAt l D Z kI H.size s2 i5 hi3_0 c_3 hs2) (cw_String_charAt hts k_319 ⟨Nat.le_of_ble_eq_true rfl, Nat.le_of_ble_eq_true rfl⟩) hK hZ hP hD hS hA [] [0, 1] (gZ_recv hZ hS hs2) rfl rfl (by decide) (by decide) (by decide) rfl hl.1 rfl (Nat.le_of_ble_eq_true rfl) d_Names_goesOnAs_35 ⟨Nat.zero_le _, Nat.zero_le _⟩ (fun r_6 u_6 H locs hw hP hD hS => ?_)
          have e_6 := hw
          subst e_6
          have hP : va_P D vwCl [(a0, .inr (4, [.ref b0, .int (nI l0.length), .int o0])), (b0, .inl (kI, n0, .inl f0))] H := hP
          have hD : va_D A [(a0, .inr (4, [.ref b0, .int (nI l0.length), .int o0])), (b0, .inl (kI, n0, .inl f0))] := hD
          refine lv_icmp_eq (tgt := 43) hx hb d_Names_goesOnAs_38 (by decide) (fun c_7 => ?_) (fun c_7 => ?_)
          · rw [if_pos c_7] at hF
            refine lv_iinc (v := (i5 + 1)) (lv' := [(5, .int (i5 + 1)), (0, .ref a0), (1, .int i1), (2, .ref (Z.1 s2)), (3, .int i3), (4, .int i4)]) hx hb d_Names_goesOnAs_43 hl (k := 5) rfl rfl (by decide) rfl (fun ls hl => ?_)
            refine lv_goto (tgt := 3) hx hb d_Names_goesOnAs_46 (by decide) ?_
            exact ih3 i1 i3 i4 (i5 + 1)  _ _ _ (g_nn c_1 hi3_0) (Nat.lt_of_lt_of_le (g_dec1 c_1) (Nat.le_of_lt_succ hn3)) hF hP hD hS (lv_sub hl [1, 2, 3, 4, 5, 0] rfl)
          · rw [if_neg c_7] at hF
            refine lv_iconst (v := 0) hx hb d_Names_goesOnAs_41 (by decide) ?_
            exact hret 0 () _ _ _ _ d_Names_goesOnAs_42 rfl (hRES.symm.trans hF) hP hD hS
  have hF := hRES
  rw [m_Names_goesOnAs] at hF
  refine lv_iload_n hx hb d_Names_goesOnAs_0 rfl (lv_at hl 3 rfl) ?_
  refine lv_istore (lv' := [(5, .int p3), (0, .ref a0), (1, .int p1), (2, .ref (Z.1 s2)), (3, .int p3), (4, .int p4)]) hx hb d_Names_goesOnAs_1 hl (by decide) rfl (fun ls hl => ?_)
  exact lp3 ((p4.toInt - p3.toInt).toNat + 1) p1 p3 p4 p3  _ _ _ hpre0 (Nat.lt_succ_self _) hF hP hD hS (lv_sub hl [1, 2, 3, 4, 5, 0] rfl)
theorem cw_Names_goesOnAs {R : Room} {s : State} {args : Array Value} {own : String} {idx : Nat} (hts : ∀ w ∈ gW, w.before args s = true) (hl : Cond.methodLink own idx y_Names_goesOnAs ∈ gW) (hR : rm_Names_goesOnAs.frames + 1 ≤ R.frames ∧ 8 + (6 + 11) + rm_Names_goesOnAs.locals ≤ R.locals) : CallB R s args own idx y_Names_goesOnAs b_Names_goesOnAs 6 (some .boolean) w_Names_goesOnAs rm_Names_goesOnAs 0 0 5 ∧ (Cond.static y_Names_goesOnAs).before args s = true := va_cwS 5 hts (gW_S hl k_358 k_78 k_359) rfl rfl rfl (by decide +kernel) hR
def m_Reader_readUtf8_l15 (n0 : Nat) : Nat → Int32 → Int32 → Int32 → Int32 → Int32 → Int32 → List Int32 → Int32 → List Int32 → List Int32 × Int32
  | 0, _, _, _, _, _, _, l0, o0, _ => (l0, o0)
  | nf15 + 1, i2, i4, i5, i6, i7, i8, l0, o0, l1 =>
    if i2 ≤ i8 then
      if i4 ≤ 0 then
        (l0, o0)
      else
        match (m_Row_put n0 l0 o0 65533) with
        | (l0_3, o0_3) =>
          (l0_3, o0_3)
    else
      if i4 ≤ 0 then
        if (m_Reader_bytesBehind (m_Row_get l1 i8)) = 0 then
          if 128 ≤ (m_Row_get l1 i8) then
            match (m_Row_put n0 l0 o0 65533) with
            | (l0_12, o0_12) =>
              m_Reader_readUtf8_l15 n0 nf15 i2 (m_Reader_bytesBehind (m_Row_get l1 i8)) ((m_Row_get l1 i8) &&& ((63 : Int32) >>> ((m_Reader_bytesBehind (m_Row_get l1 i8)) &&& 31))) (m_Reader_lowestBehind (m_Row_get l1 i8)) (m_Reader_highestBehind (m_Row_get l1 i8)) (i8 + 1) l0_12 o0_12 l1
          else
            match (m_Row_put n0 l0 o0 (m_Row_get l1 i8)) with
            | (l0_13, o0_13) =>
              m_Reader_readUtf8_l15 n0 nf15 i2 (m_Reader_bytesBehind (m_Row_get l1 i8)) ((m_Row_get l1 i8) &&& ((63 : Int32) >>> ((m_Reader_bytesBehind (m_Row_get l1 i8)) &&& 31))) (m_Reader_lowestBehind (m_Row_get l1 i8)) (m_Reader_highestBehind (m_Row_get l1 i8)) (i8 + 1) l0_13 o0_13 l1
        else
          m_Reader_readUtf8_l15 n0 nf15 i2 (m_Reader_bytesBehind (m_Row_get l1 i8)) ((m_Row_get l1 i8) &&& ((63 : Int32) >>> ((m_Reader_bytesBehind (m_Row_get l1 i8)) &&& 31))) (m_Reader_lowestBehind (m_Row_get l1 i8)) (m_Reader_highestBehind (m_Row_get l1 i8)) (i8 + 1) l0 o0 l1
      else
        if (m_Row_get l1 i8) < i6 then
          match (m_Row_put n0 l0 o0 65533) with
          | (l0_16, o0_16) =>
            if (m_Reader_bytesBehind (m_Row_get l1 i8)) = 0 then
              if 128 ≤ (m_Row_get l1 i8) then
                match (m_Row_put n0 l0_16 o0_16 65533) with
                | (l1_22, o1_22) =>
                  m_Reader_readUtf8_l15 n0 nf15 i2 (m_Reader_bytesBehind (m_Row_get l1 i8)) ((m_Row_get l1 i8) &&& ((63 : Int32) >>> ((m_Reader_bytesBehind (m_Row_get l1 i8)) &&& 31))) (m_Reader_lowestBehind (m_Row_get l1 i8)) (m_Reader_highestBehind (m_Row_get l1 i8)) (i8 + 1) l1_22 o1_22 l1
              else
                match (m_Row_put n0 l0_16 o0_16 (m_Row_get l1 i8)) with
                | (l1_23, o1_23) =>
                  m_Reader_readUtf8_l15 n0 nf15 i2 (m_Reader_bytesBehind (m_Row_get l1 i8)) ((m_Row_get l1 i8) &&& ((63 : Int32) >>> ((m_Reader_bytesBehind (m_Row_get l1 i8)) &&& 31))) (m_Reader_lowestBehind (m_Row_get l1 i8)) (m_Reader_highestBehind (m_Row_get l1 i8)) (i8 + 1) l1_23 o1_23 l1
            else
              m_Reader_readUtf8_l15 n0 nf15 i2 (m_Reader_bytesBehind (m_Row_get l1 i8)) ((m_Row_get l1 i8) &&& ((63 : Int32) >>> ((m_Reader_bytesBehind (m_Row_get l1 i8)) &&& 31))) (m_Reader_lowestBehind (m_Row_get l1 i8)) (m_Reader_highestBehind (m_Row_get l1 i8)) (i8 + 1) l0_16 o0_16 l1
        else
          if i7 < (m_Row_get l1 i8) then
            match (m_Row_put n0 l0 o0 65533) with
            | (l0_26, o0_26) =>
              if (m_Reader_bytesBehind (m_Row_get l1 i8)) = 0 then
                if 128 ≤ (m_Row_get l1 i8) then
                  match (m_Row_put n0 l0_26 o0_26 65533) with
                  | (l1_32, o1_32) =>
                    m_Reader_readUtf8_l15 n0 nf15 i2 (m_Reader_bytesBehind (m_Row_get l1 i8)) ((m_Row_get l1 i8) &&& ((63 : Int32) >>> ((m_Reader_bytesBehind (m_Row_get l1 i8)) &&& 31))) (m_Reader_lowestBehind (m_Row_get l1 i8)) (m_Reader_highestBehind (m_Row_get l1 i8)) (i8 + 1) l1_32 o1_32 l1
                else
                  match (m_Row_put n0 l0_26 o0_26 (m_Row_get l1 i8)) with
                  | (l1_33, o1_33) =>
                    m_Reader_readUtf8_l15 n0 nf15 i2 (m_Reader_bytesBehind (m_Row_get l1 i8)) ((m_Row_get l1 i8) &&& ((63 : Int32) >>> ((m_Reader_bytesBehind (m_Row_get l1 i8)) &&& 31))) (m_Reader_lowestBehind (m_Row_get l1 i8)) (m_Reader_highestBehind (m_Row_get l1 i8)) (i8 + 1) l1_33 o1_33 l1
              else
                m_Reader_readUtf8_l15 n0 nf15 i2 (m_Reader_bytesBehind (m_Row_get l1 i8)) ((m_Row_get l1 i8) &&& ((63 : Int32) >>> ((m_Reader_bytesBehind (m_Row_get l1 i8)) &&& 31))) (m_Reader_lowestBehind (m_Row_get l1 i8)) (m_Reader_highestBehind (m_Row_get l1 i8)) (i8 + 1) l0_26 o0_26 l1
          else
            if (i4 + (-1)) = 0 then
              match (m_Row_put n0 l0 o0 ((i5 <<< ((6 : Int32) &&& 31)) ||| ((m_Row_get l1 i8) &&& 63))) with
              | (l0_35, o0_35) =>
                m_Reader_readUtf8_l15 n0 nf15 i2 (i4 + (-1)) ((i5 <<< ((6 : Int32) &&& 31)) ||| ((m_Row_get l1 i8) &&& 63)) 128 191 (i8 + 1) l0_35 o0_35 l1
            else
              m_Reader_readUtf8_l15 n0 nf15 i2 (i4 + (-1)) ((i5 <<< ((6 : Int32) &&& 31)) ||| ((m_Row_get l1 i8) &&& 63)) 128 191 (i8 + 1) l0 o0 l1
def m_Reader_readUtf8 (n0 : Nat) (l0 : List Int32) (o0 : Int32) (l1 : List Int32) (p1 : Int32) (p2 : Int32) : List Int32 × Int32 :=
  m_Reader_readUtf8_l15 n0 ((p2.toInt - p1.toInt).toNat + 1) p2 0 0 0 0 p1 l0 o0 l1
def rm_Reader_readUtf8 : Room := { frames := 1, cells := 0, slots := 0, locals := 21 }
set_option maxHeartbeats 4000000 in
set_option maxRecDepth 100000 in
theorem c_Reader_readUtf8 (l : Launch) (D : va_G) (Z : gZT) (kI : ClassId) (a0 : Nat) (b0 : Nat) (n0 : Nat) (a1 : Nat) (b1 : Nat) (n1 : Nat) (sz : Nat) (f0 : Nat → Int32) (l0 : List Int32) (o0 : Int32) (f1 : Nat → Int32) (l1 : List Int32) (o1 : Int32) (p1 : Int32) (p2 : Int32) (hr0 : g_rw n0 f0 l0) (hr1 : g_rw n1 f1 l1) : gMv l y_Reader_readUtf8 w_Reader_readUtf8 rm_Reader_readUtf8 D Z kI [.ref a1, .int p1, .int p2, .ref a0] sz [(a0, .inr (4, [.ref b0, .int (nI l0.length), .int o0])), (b0, .inl (kI, n0, .inl f0)), (a1, .inr (4, [.ref b1, .int (nI l1.length), .int o1])), (b1, .inl (kI, n1, .inl f1))] (fun (u : (Nat → Int32) × List Int32 × Int32) => m_Reader_readUtf8 n0 l0 o0 l1 p1 p2 = (u.2.1, u.2.2) ∧ g_rw n0 u.1 u.2.1) (fun (u : (Nat → Int32) × List Int32 × Int32) => ([(a0, .inr (4, [.ref b0, .int (nI u.2.1.length), .int u.2.2])), (b0, .inl (kI, n0, .inl u.1)), (a1, .inr (4, [.ref b1, .int (nI l1.length), .int o1])), (b1, .inl (kI, n1, .inl f1))] : va_W)) := by
  refine g_ofv (cc := b_Reader_readUtf8) (maxL := 10) (by decide) rfl (Nat.le_of_ble_eq_true rfl) ?_
  intro p e s m below meth c A Q H ls hx hb hml hown hts hA hK hZ hP hD hS hl hret
  have hown : s.vm.findClass "MailCharacters$Reader" = some m.cls := hown
  have hl : lv_has ls 10 [(0, .ref a1), (1, .int p1), (2, .int p2), (3, .ref a0)] := hl
  obtain ⟨RES, hRES⟩ : ∃ z, z = m_Reader_readUtf8 n0 l0 o0 l1 p1 p2 := ⟨_, rfl⟩
  have lp15 : ∀ (nf15 : Nat) (i2 : Int32) (i4 : Int32) (i5 : Int32) (i6 : Int32) (i7 : Int32) (i8 : Int32) (f0 : Nat → Int32) (l0 : List Int32) (o0 : Int32) (hr0 : g_rw n0 f0 l0) (H : Heap) (locs : List Loc) (ls : Array Slot), (i2.toInt - i8.toInt).toNat < nf15 → RES = m_Reader_readUtf8_l15 n0 nf15 i2 i4 i5 i6 i7 i8 l0 o0 l1 → va_P D vwCl [(a0, .inr (4, [.ref b0, .int (nI l0.length), .int o0])), (b0, .inl (kI, n0, .inl f0)), (a1, .inr (4, [.ref b1, .int (nI l1.length), .int o1])), (b1, .inl (kI, n1, .inl f1))] H → va_D A [(a0, .inr (4, [.ref b0, .int (nI l0.length), .int o0])), (b0, .inl (kI, n0, .inl f0)), (a1, .inr (4, [.ref b1, .int (nI l1.length), .int o1])), (b1, .inl (kI, n1, .inl f1))] → va_S A s.heap H locs → lv_has ls 10 [(0, .ref a1), (2, .int i2), (3, .ref a0), (4, .int i4), (5, .int i5), (6, .int i6), (7, .int i7), (8, .int i8)] → W p l e rm_Reader_readUtf8 s m ([.ref a1, .int p1, .int p2, .ref a0] : List Value).toArray below meth c H locs 0 0 Q (F0 m 15 ls []) := by
    intro nf15
    induction nf15 with
    | zero => intro i2 i4 i5 i6 i7 i8 f0 l0 o0 hr0 H locs ls hn15; exact absurd hn15 (Nat.not_lt_zero _)
    | succ nf15 ih15 =>
      intro i2 i4 i5 i6 i7 i8 f0 l0 o0 hr0 H locs ls hn15 hF hP hD hS hl
      rw [m_Reader_readUtf8_l15] at hF
      refine lv_iload hx hb d_Reader_readUtf8_15 (lv_at hl 7 rfl) ?_
      refine lv_iload_n hx hb d_Reader_readUtf8_17 rfl (lv_at hl 1 rfl) ?_
      refine lv_icmp_ge (tgt := 160) hx hb d_Reader_readUtf8_18 (by decide) (fun c_1 => ?_) (fun c_1 => ?_)
      · rw [if_pos c_1] at hF
        refine lv_iload hx hb d_Reader_readUtf8_160 (lv_at hl 3 rfl) ?_
        refine lv_if_le (tgt := 171) hx hb d_Reader_readUtf8_162 (by decide) (fun c_2 => ?_) (fun c_2 => ?_)
        · rw [if_pos c_2] at hF
          exact hret (f0, l0, o0) _ _ _ _ d_Reader_readUtf8_171 (⟨hRES.symm.trans hF, hr0⟩) hP hD hS
        · rw [if_neg c_2] at hF
          refine lv_aload_n hx hb d_Reader_readUtf8_165 rfl (lv_at hl 2 rfl) ?_
          refine lv_ldc hx hb hown (hts _ k_410) d_Reader_readUtf8_166 ?_
          refine g_Vv (As := [.int 65533]) (rest := []) (wr := [(a1, .inr (4, [.ref b1, .int (nI l1.length), .int o1])), (b1, .inl (kI, n1, .inl f1))]) ⟨hx, hb, hml, hown, hts⟩ (c_Row_put l D Z kI a0 b0 n0 H.size f0 l0 o0 65533 hr0) (cw_Row_put hts k_409 ⟨Nat.le_of_ble_eq_true rfl, Nat.le_of_ble_eq_true rfl⟩) hK hZ hP hD hS hA [0, 1] [2, 3] (g_recv hK hP (ci := 4) (q0 := 0) rfl rfl) rfl rfl (by decide) (by decide) (by decide) rfl hl.1 rfl (Nat.le_of_ble_eq_true rfl) d_Reader_readUtf8_168 ⟨Nat.zero_le _, Nat.zero_le _⟩ (fun u_3 H locs hw hP hD hS => ?_)
          obtain ⟨f0_3, l0_3, o0_3⟩ := u_3
          have e_3 := hw.1
          have hr0_3 := hw.2
          have hP : va_P D vwCl [(a1, .inr (4, [.ref b1, .int (nI l1.length), .int o1])), (b1, .inl (kI, n1, .inl f1)), (a0, .inr (4, [.ref b0, .int (nI l0_3.length), .int o0_3])), (b0, .inl (kI, n0, .inl f0_3))] H := hP
          have hD : va_D A [(a1, .inr (4, [.ref b1, .int (nI l1.length), .int o1])), (b1, .inl (kI, n1, .inl f1)), (a0, .inr (4, [.ref b0, .int (nI l0_3.length), .int o0_3])), (b0, .inl (kI, n0, .inl f0_3))] := hD
          rw [e_3] at hF; dsimp only at hF
          exact hret (f0_3, l0_3, o0_3) _ _ _ _ d_Reader_readUtf8_171 (⟨hRES.symm.trans hF, hr0_3⟩) (hP.sub [2, 3, 0, 1] rfl) (hD.sub [2, 3, 0, 1] (by decide) rfl) hS
      · rw [if_neg c_1] at hF
        refine lv_aload_n hx hb d_Reader_readUtf8_21 rfl (lv_at hl 0 rfl) ?_
        refine lv_iload hx hb d_Reader_readUtf8_22 (lv_at hl 7 rfl) ?_
        refine g_Vi (As := [.int i8]) (rest := []) (wr := [(a0, .inr (4, [.ref b0, .int (nI l0.length), .int o0])), (b0, .inl (kI, n0, .inl f0))]) ⟨hx, hb, hml, hown, hts⟩ (c_Row_get l D Z kI a1 b1 n1 H.size f1 l1 o1 i8 hr1) (cw_Row_get hts k_408 ⟨Nat.le_of_ble_eq_true rfl, Nat.le_of_ble_eq_true rfl⟩) hK hZ hP hD hS hA [2, 3] [0, 1] (g_recv hK hP (ci := 4) (q0 := 2) rfl rfl) rfl rfl (by decide) (by decide) (by decide) rfl hl.1 rfl (Nat.le_of_ble_eq_true rfl) d_Reader_readUtf8_24 ⟨Nat.zero_le _, Nat.zero_le _⟩ (fun r_4 u_4 H locs hw hP hD hS => ?_)
        have e_4 := hw
        subst e_4
        have hP : va_P D vwCl [(a0, .inr (4, [.ref b0, .int (nI l0.length), .int o0])), (b0, .inl (kI, n0, .inl f0)), (a1, .inr (4, [.ref b1, .int (nI l1.length), .int o1])), (b1, .inl (kI, n1, .inl f1))] H := hP
        have hD : va_D A [(a0, .inr (4, [.ref b0, .int (nI l0.length), .int o0])), (b0, .inl (kI, n0, .inl f0)), (a1, .inr (4, [.ref b1, .int (nI l1.length), .int o1])), (b1, .inl (kI, n1, .inl f1))] := hD
        refine lv_istore (lv' := [(9, .int (m_Row_get l1 i8)), (0, .ref a1), (2, .int i2), (3, .ref a0), (4, .int i4), (5, .int i5), (6, .int i6), (7, .int i7), (8, .int i8)]) hx hb d_Reader_readUtf8_27 hl (by decide) rfl (fun ls hl => ?_)
        refine lv_iload hx hb d_Reader_readUtf8_29 (lv_at hl 4 rfl) ?_
        refine lv_if_le (tgt := 88) hx hb d_Reader_readUtf8_31 (by decide) (fun c_5 => ?_) (fun c_5 => ?_)
        · rw [if_pos c_5] at hF
          refine lv_iload hx hb d_Reader_readUtf8_88 (lv_at hl 4 rfl) ?_
          refine lv_if_le (tgt := 99) hx hb d_Reader_readUtf8_90 (by decide) (fun c_6 => ?_) (fun c_6 => ?_)
          · refine lv_iload hx hb d_Reader_readUtf8_99 (lv_at hl 0 rfl) ?_
            refine g_Si (As := [.int (m_Row_get l1 i8)]) (rest := []) (wr := [(a0, .inr (4, [.ref b0, .int (nI l0.length), .int o0])), (b0, .inl (kI, n0, .inl f0)), (a1, .inr (4, [.ref b1, .int (nI l1.length), .int o1])), (b1, .inl (kI, n1, .inl f1))]) ⟨hx, hb, hml, hown, hts⟩ (c_Reader_bytesBehind l D Z kI H.size (m_Row_get l1 i8)) (cw_Reader_bytesBehind hts k_411 ⟨Nat.le_of_ble_eq_true rfl, Nat.le_of_ble_eq_true rfl⟩) hK hZ hP hD hS hA [] [0, 1, 2, 3] rfl rfl (by decide) (by decide) (by decide) rfl hl.1 rfl (Nat.le_of_ble_eq_true rfl) d_Reader_readUtf8_101 ⟨Nat.zero_le _, Nat.zero_le _⟩ (fun r_7 u_7 H locs hw hP hD hS => ?_)
            have e_7 := hw
            subst e_7
            have hP : va_P D vwCl [(a0, .inr (4, [.ref b0, .int (nI l0.length), .int o0])), (b0, .inl (kI, n0, .inl f0)), (a1, .inr (4, [.ref b1, .int (nI l1.length), .int o1])), (b1, .inl (kI, n1, .inl f1))] H := hP
            have hD : va_D A [(a0, .inr (4, [.ref b0, .int (nI l0.length), .int o0])), (b0, .inl (kI, n0, .inl f0)), (a1, .inr (4, [.ref b1, .int (nI l1.length), .int o1])), (b1, .inl (kI, n1, .inl f1))] := hD
            refine lv_istore (lv' := [(4, .int (m_Reader_bytesBehind (m_Row_get l1 i8))), (9, .int (m_Row_get l1 i8)), (0, .ref a1), (2, .int i2), (3, .ref a0), (5, .int i5), (6, .int i6), (7, .int i7), (8, .int i8)]) hx hb d_Reader_readUtf8_104 hl (by decide) rfl (fun ls hl => ?_)
            refine lv_iload hx hb d_Reader_readUtf8_106 (lv_at hl 1 rfl) ?_
            refine lv_bipush (v := 63) hx hb d_Reader_readUtf8_108 (by decide) ?_
            refine lv_iload hx hb d_Reader_readUtf8_110 (lv_at hl 0 rfl) ?_
            refine lv_ishr hx hb d_Reader_readUtf8_112 ?_
            refine lv_iand hx hb d_Reader_readUtf8_113 ?_
            refine lv_istore (lv' := [(5, .int ((m_Row_get l1 i8) &&& ((63 : Int32) >>> ((m_Reader_bytesBehind (m_Row_get l1 i8)) &&& 31)))), (4, .int (m_Reader_bytesBehind (m_Row_get l1 i8))), (9, .int (m_Row_get l1 i8)), (0, .ref a1), (2, .int i2), (3, .ref a0), (6, .int i6), (7, .int i7), (8, .int i8)]) hx hb d_Reader_readUtf8_114 hl (by decide) rfl (fun ls hl => ?_)
            refine lv_iload hx hb d_Reader_readUtf8_116 (lv_at hl 2 rfl) ?_
            refine g_Si (As := [.int (m_Row_get l1 i8)]) (rest := []) (wr := [(a0, .inr (4, [.ref b0, .int (nI l0.length), .int o0])), (b0, .inl (kI, n0, .inl f0)), (a1, .inr (4, [.ref b1, .int (nI l1.length), .int o1])), (b1, .inl (kI, n1, .inl f1))]) ⟨hx, hb, hml, hown, hts⟩ (c_Reader_lowestBehind l D Z kI H.size (m_Row_get l1 i8)) (cw_Reader_lowestBehind hts k_414 ⟨Nat.le_of_ble_eq_true rfl, Nat.le_of_ble_eq_true rfl⟩) hK hZ hP hD hS hA [] [0, 1, 2, 3] rfl rfl (by decide) (by decide) (by decide) rfl hl.1 rfl (Nat.le_of_ble_eq_true rfl) d_Reader_readUtf8_118 ⟨Nat.zero_le _, Nat.zero_le _⟩ (fun r_8 u_8 H locs hw hP hD hS => ?_)
            have e_8 := hw
            subst e_8
            have hP : va_P D vwCl [(a0, .inr (4, [.ref b0, .int (nI l0.length), .int o0])), (b0, .inl (kI, n0, .inl f0)), (a1, .inr (4, [.ref b1, .int (nI l1.length), .int o1])), (b1, .inl (kI, n1, .inl f1))] H := hP
            have hD : va_D A [(a0, .inr (4, [.ref b0, .int (nI l0.length), .int o0])), (b0, .inl (kI, n0, .inl f0)), (a1, .inr (4, [.ref b1, .int (nI l1.length), .int o1])), (b1, .inl (kI, n1, .inl f1))] := hD
            refine lv_istore (lv' := [(6, .int (m_Reader_lowestBehind (m_Row_get l1 i8))), (5, .int ((m_Row_get l1 i8) &&& ((63 : Int32) >>> ((m_Reader_bytesBehind (m_Row_get l1 i8)) &&& 31)))), (4, .int (m_Reader_bytesBehind (m_Row_get l1 i8))), (9, .int (m_Row_get l1 i8)), (0, .ref a1), (2, .int i2), (3, .ref a0), (7, .int i7), (8, .int i8)]) hx hb d_Reader_readUtf8_121 hl (by decide) rfl (fun ls hl => ?_)
            refine lv_iload hx hb d_Reader_readUtf8_123 (lv_at hl 3 rfl) ?_
            refine g_Si (As := [.int (m_Row_get l1 i8)]) (rest := []) (wr := [(a0, .inr (4, [.ref b0, .int (nI l0.length), .int o0])), (b0, .inl (kI, n0, .inl f0)), (a1, .inr (4, [.ref b1, .int (nI l1.length), .int o1])), (b1, .inl (kI, n1, .inl f1))]) ⟨hx, hb, hml, hown, hts⟩ (c_Reader_highestBehind l D Z kI H.size (m_Row_get l1 i8)) (cw_Reader_highestBehind hts k_417 ⟨Nat.le_of_ble_eq_true rfl, Nat.le_of_ble_eq_true rfl⟩) hK hZ hP hD hS hA [] [0, 1, 2, 3] rfl rfl (by decide) (by decide) (by decide) rfl hl.1 rfl (Nat.le_of_ble_eq_true rfl) d_Reader_readUtf8_125 ⟨Nat.zero_le _, Nat.zero_le _⟩ (fun r_9 u_9 H locs hw hP hD hS => ?_)
            have e_9 := hw
            subst e_9
            have hP : va_P D vwCl [(a0, .inr (4, [.ref b0, .int (nI l0.length), .int o0])), (b0, .inl (kI, n0, .inl f0)), (a1, .inr (4, [.ref b1, .int (nI l1.length), .int o1])), (b1, .inl (kI, n1, .inl f1))] H := hP
            have hD : va_D A [(a0, .inr (4, [.ref b0, .int (nI l0.length), .int o0])), (b0, .inl (kI, n0, .inl f0)), (a1, .inr (4, [.ref b1, .int (nI l1.length), .int o1])), (b1, .inl (kI, n1, .inl f1))] := hD
            refine lv_istore (lv' := [(7, .int (m_Reader_highestBehind (m_Row_get l1 i8))), (6, .int (m_Reader_lowestBehind (m_Row_get l1 i8))), (5, .int ((m_Row_get l1 i8) &&& ((63 : Int32) >>> ((m_Reader_bytesBehind (m_Row_get l1 i8)) &&& 31)))), (4, .int (m_Reader_bytesBehind (m_Row_get l1 i8))), (9, .int (m_Row_get l1 i8)), (0, .ref a1), (2, .int i2), (3, .ref a0), (8, .int i8)]) hx hb d_Reader_readUtf8_128 hl (by decide) rfl (fun ls hl => ?_)
            refine lv_iload hx hb d_Reader_readUtf8_130 (lv_at hl 3 rfl) ?_
            refine lv_if_ne (tgt := 154) hx hb d_Reader_readUtf8_132 (by decide) (fun c_10 => ?_) (fun c_10 => ?_)
            · rw [if_neg c_10] at hF
              refine lv_iinc (v := (i8 + 1)) (lv' := [(8, .int (i8 + 1)), (7, .int (m_Reader_highestBehind (m_Row_get l1 i8))), (6, .int (m_Reader_lowestBehind (m_Row_get l1 i8))), (5, .int ((m_Row_get l1 i8) &&& ((63 : Int32) >>> ((m_Reader_bytesBehind (m_Row_get l1 i8)) &&& 31)))), (4, .int (m_Reader_bytesBehind (m_Row_get l1 i8))), (9, .int (m_Row_get l1 i8)), (0, .ref a1), (2, .int i2), (3, .ref a0)]) hx hb d_Reader_readUtf8_154 hl (k := 8) rfl rfl (by decide) rfl (fun ls hl => ?_)
              refine lv_goto (tgt := 15) hx hb d_Reader_readUtf8_157 (by decide) ?_
              exact ih15 i2 (m_Reader_bytesBehind (m_Row_get l1 i8)) ((m_Row_get l1 i8) &&& ((63 : Int32) >>> ((m_Reader_bytesBehind (m_Row_get l1 i8)) &&& 31))) (m_Reader_lowestBehind (m_Row_get l1 i8)) (m_Reader_highestBehind (m_Row_get l1 i8)) (i8 + 1) f0 l0 o0 hr0 _ _ _  (Nat.lt_of_lt_of_le (g_dec1 c_1) (Nat.le_of_lt_succ hn15)) hF hP hD hS (lv_sub hl [6, 7, 8, 4, 3, 2, 1, 0] rfl)
            · rw [if_pos c_10] at hF
              refine lv_aload_n hx hb d_Reader_readUtf8_135 rfl (lv_at hl 7 rfl) ?_
              refine lv_iload hx hb d_Reader_readUtf8_136 (lv_at hl 4 rfl) ?_
              refine lv_sipush (v := 128) hx hb d_Reader_readUtf8_138 (by decide) ?_
              refine lv_icmp_ge (tgt := 149) hx hb d_Reader_readUtf8_141 (by decide) (fun c_11 => ?_) (fun c_11 => ?_)
              · rw [if_pos c_11] at hF
                refine lv_ldc hx hb hown (hts _ k_410) d_Reader_readUtf8_149 ?_
                refine g_Vv (As := [.int 65533]) (rest := []) (wr := [(a1, .inr (4, [.ref b1, .int (nI l1.length), .int o1])), (b1, .inl (kI, n1, .inl f1))]) ⟨hx, hb, hml, hown, hts⟩ (c_Row_put l D Z kI a0 b0 n0 H.size f0 l0 o0 65533 hr0) (cw_Row_put hts k_409 ⟨Nat.le_of_ble_eq_true rfl, Nat.le_of_ble_eq_true rfl⟩) hK hZ hP hD hS hA [0, 1] [2, 3] (g_recv hK hP (ci := 4) (q0 := 0) rfl rfl) rfl rfl (by decide) (by decide) (by decide) rfl hl.1 rfl (Nat.le_of_ble_eq_true rfl) d_Reader_readUtf8_151 ⟨Nat.zero_le _, Nat.zero_le _⟩ (fun u_12 H locs hw hP hD hS => ?_)
                obtain ⟨f0_12, l0_12, o0_12⟩ := u_12
                have e_12 := hw.1
                have hr0_12 := hw.2
                have hP : va_P D vwCl [(a1, .inr (4, [.ref b1, .int (nI l1.length), .int o1])), (b1, .inl (kI, n1, .inl f1)), (a0, .inr (4, [.ref b0, .int (nI l0_12.length), .int o0_12])), (b0, .inl (kI, n0, .inl f0_12))] H := hP
                have hD : va_D A [(a1, .inr (4, [.ref b1, .int (nI l1.length), .int o1])), (b1, .inl (kI, n1, .inl f1)), (a0, .inr (4, [.ref b0, .int (nI l0_12.length), .int o0_12])), (b0, .inl (kI, n0, .inl f0_12))] := hD
                rw [e_12] at hF; dsimp only at hF
                refine lv_iinc (v := (i8 + 1)) (lv' := [(8, .int (i8 + 1)), (7, .int (m_Reader_highestBehind (m_Row_get l1 i8))), (6, .int (m_Reader_lowestBehind (m_Row_get l1 i8))), (5, .int ((m_Row_get l1 i8) &&& ((63 : Int32) >>> ((m_Reader_bytesBehind (m_Row_get l1 i8)) &&& 31)))), (4, .int (m_Reader_bytesBehind (m_Row_get l1 i8))), (9, .int (m_Row_get l1 i8)), (0, .ref a1), (2, .int i2), (3, .ref a0)]) hx hb d_Reader_readUtf8_154 hl (k := 8) rfl rfl (by decide) rfl (fun ls hl => ?_)
                refine lv_goto (tgt := 15) hx hb d_Reader_readUtf8_157 (by decide) ?_
                exact ih15 i2 (m_Reader_bytesBehind (m_Row_get l1 i8)) ((m_Row_get l1 i8) &&& ((63 : Int32) >>> ((m_Reader_bytesBehind (m_Row_get l1 i8)) &&& 31))) (m_Reader_lowestBehind (m_Row_get l1 i8)) (m_Reader_highestBehind (m_Row_get l1 i8)) (i8 + 1) f0_12 l0_12 o0_12 hr0_12 _ _ _  (Nat.lt_of_lt_of_le (g_dec1 c_1) (Nat.le_of_lt_succ hn15)) hF (hP.sub [2, 3, 0, 1] rfl) (hD.sub [2, 3, 0, 1] (by decide) rfl) hS (lv_sub hl [6, 7, 8, 4, 3, 2, 1, 0] rfl)
              · rw [if_neg c_11] at hF
                refine lv_iload hx hb d_Reader_readUtf8_144 (lv_at hl 4 rfl) ?_
                refine lv_goto (tgt := 151) hx hb d_Reader_readUtf8_146 (by decide) ?_
                refine g_Vv (As := [.int (m_Row_get l1 i8)]) (rest := []) (wr := [(a1, .inr (4, [.ref b1, .int (nI l1.length), .int o1])), (b1, .inl (kI, n1, .inl f1))]) ⟨hx, hb, hml, hown, hts⟩ (c_Row_put l D Z kI a0 b0 n0 H.size f0 l0 o0 (m_Row_get l1 i8) hr0) (cw_Row_put hts k_409 ⟨Nat.le_of_ble_eq_true rfl, Nat.le_of_ble_eq_true rfl⟩) hK hZ hP hD hS hA [0, 1] [2, 3] (g_recv hK hP (ci := 4) (q0 := 0) rfl rfl) rfl rfl (by decide) (by decide) (by decide) rfl hl.1 rfl (Nat.le_of_ble_eq_true rfl) d_Reader_readUtf8_151 ⟨Nat.zero_le _, Nat.zero_le _⟩ (fun u_13 H locs hw hP hD hS => ?_)
                obtain ⟨f0_13, l0_13, o0_13⟩ := u_13
                have e_13 := hw.1
                have hr0_13 := hw.2
                have hP : va_P D vwCl [(a1, .inr (4, [.ref b1, .int (nI l1.length), .int o1])), (b1, .inl (kI, n1, .inl f1)), (a0, .inr (4, [.ref b0, .int (nI l0_13.length), .int o0_13])), (b0, .inl (kI, n0, .inl f0_13))] H := hP
                have hD : va_D A [(a1, .inr (4, [.ref b1, .int (nI l1.length), .int o1])), (b1, .inl (kI, n1, .inl f1)), (a0, .inr (4, [.ref b0, .int (nI l0_13.length), .int o0_13])), (b0, .inl (kI, n0, .inl f0_13))] := hD
                rw [e_13] at hF; dsimp only at hF
                refine lv_iinc (v := (i8 + 1)) (lv' := [(8, .int (i8 + 1)), (7, .int (m_Reader_highestBehind (m_Row_get l1 i8))), (6, .int (m_Reader_lowestBehind (m_Row_get l1 i8))), (5, .int ((m_Row_get l1 i8) &&& ((63 : Int32) >>> ((m_Reader_bytesBehind (m_Row_get l1 i8)) &&& 31)))), (4, .int (m_Reader_bytesBehind (m_Row_get l1 i8))), (9, .int (m_Row_get l1 i8)), (0, .ref a1), (2, .int i2), (3, .ref a0)]) hx hb d_Reader_readUtf8_154 hl (k := 8) rfl rfl (by decide) rfl (fun ls hl => ?_)
                refine lv_goto (tgt := 15) hx hb d_Reader_readUtf8_157 (by decide) ?_
                exact ih15 i2 (m_Reader_bytesBehind (m_Row_get l1 i8)) ((m_Row_get l1 i8) &&& ((63 : Int32) >>> ((m_Reader_bytesBehind (m_Row_get l1 i8)) &&& 31))) (m_Reader_lowestBehind (m_Row_get l1 i8)) (m_Reader_highestBehind (m_Row_get l1 i8)) (i8 + 1) f0_13 l0_13 o0_13 hr0_13 _ _ _  (Nat.lt_of_lt_of_le (g_dec1 c_1) (Nat.le_of_lt_succ hn15)) hF (hP.sub [2, 3, 0, 1] rfl) (hD.sub [2, 3, 0, 1] (by decide) rfl) hS (lv_sub hl [6, 7, 8, 4, 3, 2, 1, 0] rfl)
          · exact absurd c_5 c_6
        · rw [if_neg c_5] at hF
          refine lv_iload hx hb d_Reader_readUtf8_34 (lv_at hl 0 rfl) ?_
          refine lv_iload hx hb d_Reader_readUtf8_36 (lv_at hl 6 rfl) ?_
          refine lv_icmp_lt (tgt := 88) hx hb d_Reader_readUtf8_38 (by decide) (fun c_14 => ?_) (fun c_14 => ?_)
          · rw [if_pos c_14] at hF
            refine lv_iload hx hb d_Reader_readUtf8_88 (lv_at hl 4 rfl) ?_
            refine lv_if_le (tgt := 99) hx hb d_Reader_readUtf8_90 (by decide) (fun c_15 => ?_) (fun c_15 => ?_)
            · exact absurd c_15 c_5
            · refine lv_aload_n hx hb d_Reader_readUtf8_93 rfl (lv_at hl 3 rfl) ?_
              refine lv_ldc hx hb hown (hts _ k_410) d_Reader_readUtf8_94 ?_
              refine g_Vv (As := [.int 65533]) (rest := []) (wr := [(a1, .inr (4, [.ref b1, .int (nI l1.length), .int o1])), (b1, .inl (kI, n1, .inl f1))]) ⟨hx, hb, hml, hown, hts⟩ (c_Row_put l D Z kI a0 b0 n0 H.size f0 l0 o0 65533 hr0) (cw_Row_put hts k_409 ⟨Nat.le_of_ble_eq_true rfl, Nat.le_of_ble_eq_true rfl⟩) hK hZ hP hD hS hA [0, 1] [2, 3] (g_recv hK hP (ci := 4) (q0 := 0) rfl rfl) rfl rfl (by decide) (by decide) (by decide) rfl hl.1 rfl (Nat.le_of_ble_eq_true rfl) d_Reader_readUtf8_96 ⟨Nat.zero_le _, Nat.zero_le _⟩ (fun u_16 H locs hw hP hD hS => ?_)
              obtain ⟨f0_16, l0_16, o0_16⟩ := u_16
              have e_16 := hw.1
              have hr0_16 := hw.2
              have hP : va_P D vwCl [(a1, .inr (4, [.ref b1, .int (nI l1.length), .int o1])), (b1, .inl (kI, n1, .inl f1)), (a0, .inr (4, [.ref b0, .int (nI l0_16.length), .int o0_16])), (b0, .inl (kI, n0, .inl f0_16))] H := hP
              have hD : va_D A [(a1, .inr (4, [.ref b1, .int (nI l1.length), .int o1])), (b1, .inl (kI, n1, .inl f1)), (a0, .inr (4, [.ref b0, .int (nI l0_16.length), .int o0_16])), (b0, .inl (kI, n0, .inl f0_16))] := hD
              rw [e_16] at hF; dsimp only at hF
              refine lv_iload hx hb d_Reader_readUtf8_99 (lv_at hl 0 rfl) ?_
              refine g_Si (As := [.int (m_Row_get l1 i8)]) (rest := []) (wr := [(a1, .inr (4, [.ref b1, .int (nI l1.length), .int o1])), (b1, .inl (kI, n1, .inl f1)), (a0, .inr (4, [.ref b0, .int (nI l0_16.length), .int o0_16])), (b0, .inl (kI, n0, .inl f0_16))]) ⟨hx, hb, hml, hown, hts⟩ (c_Reader_bytesBehind l D Z kI H.size (m_Row_get l1 i8)) (cw_Reader_bytesBehind hts k_411 ⟨Nat.le_of_ble_eq_true rfl, Nat.le_of_ble_eq_true rfl⟩) hK hZ hP hD hS hA [] [0, 1, 2, 3] rfl rfl (by decide) (by decide) (by decide) rfl hl.1 rfl (Nat.le_of_ble_eq_true rfl) d_Reader_readUtf8_101 ⟨Nat.zero_le _, Nat.zero_le _⟩ (fun r_17 u_17 H locs hw hP hD hS => ?_)
              have e_17 := hw
              subst e_17
              have hP : va_P D vwCl [(a1, .inr (4, [.ref b1, .int (nI l1.length), .int o1])), (b1, .inl (kI, n1, .inl f1)), (a0, .inr (4, [.ref b0, .int (nI l0_16.length), .int o0_16])), (b0, .inl (kI, n0, .inl f0_16))] H := hP
              have hD : va_D A [(a1, .inr (4, [.ref b1, .int (nI l1.length), .int o1])), (b1, .inl (kI, n1, .inl f1)), (a0, .inr (4, [.ref b0, .int (nI l0_16.length), .int o0_16])), (b0, .inl (kI, n0, .inl f0_16))] := hD
              refine lv_istore (lv' := [(4, .int (m_Reader_bytesBehind (m_Row_get l1 i8))), (9, .int (m_Row_get l1 i8)), (0, .ref a1), (2, .int i2), (3, .ref a0), (5, .int i5), (6, .int i6), (7, .int i7), (8, .int i8)]) hx hb d_Reader_readUtf8_104 hl (by decide) rfl (fun ls hl => ?_)
              refine lv_iload hx hb d_Reader_readUtf8_106 (lv_at hl 1 rfl) ?_
              refine lv_bipush (v := 63) hx hb d_Reader_readUtf8_108 (by decide) ?_
              refine lv_iload hx hb d_Reader_readUtf8_110 (lv_at hl 0 rfl) ?_
              refine lv_ishr hx hb d_Reader_readUtf8_112 ?_
              refine lv_iand hx hb d_Reader_readUtf8_113 ?_
              refine lv_istore (lv' := [(5, .int ((m_Row_get l1 i8) &&& ((63 : Int32) >>> ((m_Reader_bytesBehind (m_Row_get l1 i8)) &&& 31)))), (4, .int (m_Reader_bytesBehind (m_Row_get l1 i8))), (9, .int (m_Row_get l1 i8)), (0, .ref a1), (2, .int i2), (3, .ref a0), (6, .int i6), (7, .int i7), (8, .int i8)]) hx hb d_Reader_readUtf8_114 hl (by decide) rfl (fun ls hl => ?_)
              refine lv_iload hx hb d_Reader_readUtf8_116 (lv_at hl 2 rfl) ?_
              refine g_Si (As := [.int (m_Row_get l1 i8)]) (rest := []) (wr := [(a1, .inr (4, [.ref b1, .int (nI l1.length), .int o1])), (b1, .inl (kI, n1, .inl f1)), (a0, .inr (4, [.ref b0, .int (nI l0_16.length), .int o0_16])), (b0, .inl (kI, n0, .inl f0_16))]) ⟨hx, hb, hml, hown, hts⟩ (c_Reader_lowestBehind l D Z kI H.size (m_Row_get l1 i8)) (cw_Reader_lowestBehind hts k_414 ⟨Nat.le_of_ble_eq_true rfl, Nat.le_of_ble_eq_true rfl⟩) hK hZ hP hD hS hA [] [0, 1, 2, 3] rfl rfl (by decide) (by decide) (by decide) rfl hl.1 rfl (Nat.le_of_ble_eq_true rfl) d_Reader_readUtf8_118 ⟨Nat.zero_le _, Nat.zero_le _⟩ (fun r_18 u_18 H locs hw hP hD hS => ?_)
              have e_18 := hw
              subst e_18
              have hP : va_P D vwCl [(a1, .inr (4, [.ref b1, .int (nI l1.length), .int o1])), (b1, .inl (kI, n1, .inl f1)), (a0, .inr (4, [.ref b0, .int (nI l0_16.length), .int o0_16])), (b0, .inl (kI, n0, .inl f0_16))] H := hP
              have hD : va_D A [(a1, .inr (4, [.ref b1, .int (nI l1.length), .int o1])), (b1, .inl (kI, n1, .inl f1)), (a0, .inr (4, [.ref b0, .int (nI l0_16.length), .int o0_16])), (b0, .inl (kI, n0, .inl f0_16))] := hD
              refine lv_istore (lv' := [(6, .int (m_Reader_lowestBehind (m_Row_get l1 i8))), (5, .int ((m_Row_get l1 i8) &&& ((63 : Int32) >>> ((m_Reader_bytesBehind (m_Row_get l1 i8)) &&& 31)))), (4, .int (m_Reader_bytesBehind (m_Row_get l1 i8))), (9, .int (m_Row_get l1 i8)), (0, .ref a1), (2, .int i2), (3, .ref a0), (7, .int i7), (8, .int i8)]) hx hb d_Reader_readUtf8_121 hl (by decide) rfl (fun ls hl => ?_)
              refine lv_iload hx hb d_Reader_readUtf8_123 (lv_at hl 3 rfl) ?_
              refine g_Si (As := [.int (m_Row_get l1 i8)]) (rest := []) (wr := [(a1, .inr (4, [.ref b1, .int (nI l1.length), .int o1])), (b1, .inl (kI, n1, .inl f1)), (a0, .inr (4, [.ref b0, .int (nI l0_16.length), .int o0_16])), (b0, .inl (kI, n0, .inl f0_16))]) ⟨hx, hb, hml, hown, hts⟩ (c_Reader_highestBehind l D Z kI H.size (m_Row_get l1 i8)) (cw_Reader_highestBehind hts k_417 ⟨Nat.le_of_ble_eq_true rfl, Nat.le_of_ble_eq_true rfl⟩) hK hZ hP hD hS hA [] [0, 1, 2, 3] rfl rfl (by decide) (by decide) (by decide) rfl hl.1 rfl (Nat.le_of_ble_eq_true rfl) d_Reader_readUtf8_125 ⟨Nat.zero_le _, Nat.zero_le _⟩ (fun r_19 u_19 H locs hw hP hD hS => ?_)
              have e_19 := hw
              subst e_19
              have hP : va_P D vwCl [(a1, .inr (4, [.ref b1, .int (nI l1.length), .int o1])), (b1, .inl (kI, n1, .inl f1)), (a0, .inr (4, [.ref b0, .int (nI l0_16.length), .int o0_16])), (b0, .inl (kI, n0, .inl f0_16))] H := hP
              have hD : va_D A [(a1, .inr (4, [.ref b1, .int (nI l1.length), .int o1])), (b1, .inl (kI, n1, .inl f1)), (a0, .inr (4, [.ref b0, .int (nI l0_16.length), .int o0_16])), (b0, .inl (kI, n0, .inl f0_16))] := hD
              refine lv_istore (lv' := [(7, .int (m_Reader_highestBehind (m_Row_get l1 i8))), (6, .int (m_Reader_lowestBehind (m_Row_get l1 i8))), (5, .int ((m_Row_get l1 i8) &&& ((63 : Int32) >>> ((m_Reader_bytesBehind (m_Row_get l1 i8)) &&& 31)))), (4, .int (m_Reader_bytesBehind (m_Row_get l1 i8))), (9, .int (m_Row_get l1 i8)), (0, .ref a1), (2, .int i2), (3, .ref a0), (8, .int i8)]) hx hb d_Reader_readUtf8_128 hl (by decide) rfl (fun ls hl => ?_)
              refine lv_iload hx hb d_Reader_readUtf8_130 (lv_at hl 3 rfl) ?_
              refine lv_if_ne (tgt := 154) hx hb d_Reader_readUtf8_132 (by decide) (fun c_20 => ?_) (fun c_20 => ?_)
              · rw [if_neg c_20] at hF
                refine lv_iinc (v := (i8 + 1)) (lv' := [(8, .int (i8 + 1)), (7, .int (m_Reader_highestBehind (m_Row_get l1 i8))), (6, .int (m_Reader_lowestBehind (m_Row_get l1 i8))), (5, .int ((m_Row_get l1 i8) &&& ((63 : Int32) >>> ((m_Reader_bytesBehind (m_Row_get l1 i8)) &&& 31)))), (4, .int (m_Reader_bytesBehind (m_Row_get l1 i8))), (9, .int (m_Row_get l1 i8)), (0, .ref a1), (2, .int i2), (3, .ref a0)]) hx hb d_Reader_readUtf8_154 hl (k := 8) rfl rfl (by decide) rfl (fun ls hl => ?_)
                refine lv_goto (tgt := 15) hx hb d_Reader_readUtf8_157 (by decide) ?_
                exact ih15 i2 (m_Reader_bytesBehind (m_Row_get l1 i8)) ((m_Row_get l1 i8) &&& ((63 : Int32) >>> ((m_Reader_bytesBehind (m_Row_get l1 i8)) &&& 31))) (m_Reader_lowestBehind (m_Row_get l1 i8)) (m_Reader_highestBehind (m_Row_get l1 i8)) (i8 + 1) f0_16 l0_16 o0_16 hr0_16 _ _ _  (Nat.lt_of_lt_of_le (g_dec1 c_1) (Nat.le_of_lt_succ hn15)) hF (hP.sub [2, 3, 0, 1] rfl) (hD.sub [2, 3, 0, 1] (by decide) rfl) hS (lv_sub hl [6, 7, 8, 4, 3, 2, 1, 0] rfl)
              · rw [if_pos c_20] at hF
                refine lv_aload_n hx hb d_Reader_readUtf8_135 rfl (lv_at hl 7 rfl) ?_
                refine lv_iload hx hb d_Reader_readUtf8_136 (lv_at hl 4 rfl) ?_
                refine lv_sipush (v := 128) hx hb d_Reader_readUtf8_138 (by decide) ?_
                refine lv_icmp_ge (tgt := 149) hx hb d_Reader_readUtf8_141 (by decide) (fun c_21 => ?_) (fun c_21 => ?_)
                · rw [if_pos c_21] at hF
                  refine lv_ldc hx hb hown (hts _ k_410) d_Reader_readUtf8_149 ?_
                  refine g_Vv (As := [.int 65533]) (rest := []) (wr := [(a1, .inr (4, [.ref b1, .int (nI l1.length), .int o1])), (b1, .inl (kI, n1, .inl f1))]) ⟨hx, hb, hml, hown, hts⟩ (c_Row_put l D Z kI a0 b0 n0 H.size f0_16 l0_16 o0_16 65533 hr0_16) (cw_Row_put hts k_409 ⟨Nat.le_of_ble_eq_true rfl, Nat.le_of_ble_eq_true rfl⟩) hK hZ hP hD hS hA [2, 3] [0, 1] (g_recv hK hP (ci := 4) (q0 := 2) rfl rfl) rfl rfl (by decide) (by decide) (by decide) rfl hl.1 rfl (Nat.le_of_ble_eq_true rfl) d_Reader_readUtf8_151 ⟨Nat.zero_le _, Nat.zero_le _⟩ (fun u_22 H locs hw hP hD hS => ?_)
                  obtain ⟨f1_22, l1_22, o1_22⟩ := u_22
                  have e_22 := hw.1
                  have hr1_22 := hw.2
                  have hP : va_P D vwCl [(a1, .inr (4, [.ref b1, .int (nI l1.length), .int o1])), (b1, .inl (kI, n1, .inl f1)), (a0, .inr (4, [.ref b0, .int (nI l1_22.length), .int o1_22])), (b0, .inl (kI, n0, .inl f1_22))] H := hP
                  have hD : va_D A [(a1, .inr (4, [.ref b1, .int (nI l1.length), .int o1])), (b1, .inl (kI, n1, .inl f1)), (a0, .inr (4, [.ref b0, .int (nI l1_22.length), .int o1_22])), (b0, .inl (kI, n0, .inl f1_22))] := hD
                  rw [e_22] at hF; dsimp only at hF
                  refine lv_iinc (v := (i8 + 1)) (lv' := [(8, .int (i8 + 1)), (7, .int (m_Reader_highestBehind (m_Row_get l1 i8))), (6, .int (m_Reader_lowestBehind (m_Row_get l1 i8))), (5, .int ((m_Row_get l1 i8) &&& ((63 : Int32) >>> ((m_Reader_bytesBehind (m_Row_get l1 i8)) &&& 31)))), (4, .int (m_Reader_bytesBehind (m_Row_get l1 i8))), (9, .int (m_Row_get l1 i8)), (0, .ref a1), (2, .int i2), (3, .ref a0)]) hx hb d_Reader_readUtf8_154 hl (k := 8) rfl rfl (by decide) rfl (fun ls hl => ?_)
                  refine lv_goto (tgt := 15) hx hb d_Reader_readUtf8_157 (by decide) ?_
                  exact ih15 i2 (m_Reader_bytesBehind (m_Row_get l1 i8)) ((m_Row_get l1 i8) &&& ((63 : Int32) >>> ((m_Reader_bytesBehind (m_Row_get l1 i8)) &&& 31))) (m_Reader_lowestBehind (m_Row_get l1 i8)) (m_Reader_highestBehind (m_Row_get l1 i8)) (i8 + 1) f1_22 l1_22 o1_22 hr1_22 _ _ _  (Nat.lt_of_lt_of_le (g_dec1 c_1) (Nat.le_of_lt_succ hn15)) hF (hP.sub [2, 3, 0, 1] rfl) (hD.sub [2, 3, 0, 1] (by decide) rfl) hS (lv_sub hl [6, 7, 8, 4, 3, 2, 1, 0] rfl)
                · rw [if_neg c_21] at hF
                  refine lv_iload hx hb d_Reader_readUtf8_144 (lv_at hl 4 rfl) ?_
                  refine lv_goto (tgt := 151) hx hb d_Reader_readUtf8_146 (by decide) ?_
                  refine g_Vv (As := [.int (m_Row_get l1 i8)]) (rest := []) (wr := [(a1, .inr (4, [.ref b1, .int (nI l1.length), .int o1])), (b1, .inl (kI, n1, .inl f1))]) ⟨hx, hb, hml, hown, hts⟩ (c_Row_put l D Z kI a0 b0 n0 H.size f0_16 l0_16 o0_16 (m_Row_get l1 i8) hr0_16) (cw_Row_put hts k_409 ⟨Nat.le_of_ble_eq_true rfl, Nat.le_of_ble_eq_true rfl⟩) hK hZ hP hD hS hA [2, 3] [0, 1] (g_recv hK hP (ci := 4) (q0 := 2) rfl rfl) rfl rfl (by decide) (by decide) (by decide) rfl hl.1 rfl (Nat.le_of_ble_eq_true rfl) d_Reader_readUtf8_151 ⟨Nat.zero_le _, Nat.zero_le _⟩ (fun u_23 H locs hw hP hD hS => ?_)
                  obtain ⟨f1_23, l1_23, o1_23⟩ := u_23
                  have e_23 := hw.1
                  have hr1_23 := hw.2
                  have hP : va_P D vwCl [(a1, .inr (4, [.ref b1, .int (nI l1.length), .int o1])), (b1, .inl (kI, n1, .inl f1)), (a0, .inr (4, [.ref b0, .int (nI l1_23.length), .int o1_23])), (b0, .inl (kI, n0, .inl f1_23))] H := hP
                  have hD : va_D A [(a1, .inr (4, [.ref b1, .int (nI l1.length), .int o1])), (b1, .inl (kI, n1, .inl f1)), (a0, .inr (4, [.ref b0, .int (nI l1_23.length), .int o1_23])), (b0, .inl (kI, n0, .inl f1_23))] := hD
                  rw [e_23] at hF; dsimp only at hF
                  refine lv_iinc (v := (i8 + 1)) (lv' := [(8, .int (i8 + 1)), (7, .int (m_Reader_highestBehind (m_Row_get l1 i8))), (6, .int (m_Reader_lowestBehind (m_Row_get l1 i8))), (5, .int ((m_Row_get l1 i8) &&& ((63 : Int32) >>> ((m_Reader_bytesBehind (m_Row_get l1 i8)) &&& 31)))), (4, .int (m_Reader_bytesBehind (m_Row_get l1 i8))), (9, .int (m_Row_get l1 i8)), (0, .ref a1), (2, .int i2), (3, .ref a0)]) hx hb d_Reader_readUtf8_154 hl (k := 8) rfl rfl (by decide) rfl (fun ls hl => ?_)
                  refine lv_goto (tgt := 15) hx hb d_Reader_readUtf8_157 (by decide) ?_
                  exact ih15 i2 (m_Reader_bytesBehind (m_Row_get l1 i8)) ((m_Row_get l1 i8) &&& ((63 : Int32) >>> ((m_Reader_bytesBehind (m_Row_get l1 i8)) &&& 31))) (m_Reader_lowestBehind (m_Row_get l1 i8)) (m_Reader_highestBehind (m_Row_get l1 i8)) (i8 + 1) f1_23 l1_23 o1_23 hr1_23 _ _ _  (Nat.lt_of_lt_of_le (g_dec1 c_1) (Nat.le_of_lt_succ hn15)) hF (hP.sub [2, 3, 0, 1] rfl) (hD.sub [2, 3, 0, 1] (by decide) rfl) hS (lv_sub hl [6, 7, 8, 4, 3, 2, 1, 0] rfl)
          · rw [if_neg c_14] at hF
            refine lv_iload hx hb d_Reader_readUtf8_41 (lv_at hl 0 rfl) ?_
            refine lv_iload hx hb d_Reader_readUtf8_43 (lv_at hl 7 rfl) ?_
            refine lv_icmp_gt (tgt := 88) hx hb d_Reader_readUtf8_45 (by decide) (fun c_24 => ?_) (fun c_24 => ?_)
            · rw [if_pos c_24] at hF
              refine lv_iload hx hb d_Reader_readUtf8_88 (lv_at hl 4 rfl) ?_
              refine lv_if_le (tgt := 99) hx hb d_Reader_readUtf8_90 (by decide) (fun c_25 => ?_) (fun c_25 => ?_)
              · exact absurd c_25 c_5
              · refine lv_aload_n hx hb d_Reader_readUtf8_93 rfl (lv_at hl 3 rfl) ?_
                refine lv_ldc hx hb hown (hts _ k_410) d_Reader_readUtf8_94 ?_
                refine g_Vv (As := [.int 65533]) (rest := []) (wr := [(a1, .inr (4, [.ref b1, .int (nI l1.length), .int o1])), (b1, .inl (kI, n1, .inl f1))]) ⟨hx, hb, hml, hown, hts⟩ (c_Row_put l D Z kI a0 b0 n0 H.size f0 l0 o0 65533 hr0) (cw_Row_put hts k_409 ⟨Nat.le_of_ble_eq_true rfl, Nat.le_of_ble_eq_true rfl⟩) hK hZ hP hD hS hA [0, 1] [2, 3] (g_recv hK hP (ci := 4) (q0 := 0) rfl rfl) rfl rfl (by decide) (by decide) (by decide) rfl hl.1 rfl (Nat.le_of_ble_eq_true rfl) d_Reader_readUtf8_96 ⟨Nat.zero_le _, Nat.zero_le _⟩ (fun u_26 H locs hw hP hD hS => ?_)
                obtain ⟨f0_26, l0_26, o0_26⟩ := u_26
                have e_26 := hw.1
                have hr0_26 := hw.2
                have hP : va_P D vwCl [(a1, .inr (4, [.ref b1, .int (nI l1.length), .int o1])), (b1, .inl (kI, n1, .inl f1)), (a0, .inr (4, [.ref b0, .int (nI l0_26.length), .int o0_26])), (b0, .inl (kI, n0, .inl f0_26))] H := hP
                have hD : va_D A [(a1, .inr (4, [.ref b1, .int (nI l1.length), .int o1])), (b1, .inl (kI, n1, .inl f1)), (a0, .inr (4, [.ref b0, .int (nI l0_26.length), .int o0_26])), (b0, .inl (kI, n0, .inl f0_26))] := hD
                rw [e_26] at hF; dsimp only at hF
                refine lv_iload hx hb d_Reader_readUtf8_99 (lv_at hl 0 rfl) ?_
                refine g_Si (As := [.int (m_Row_get l1 i8)]) (rest := []) (wr := [(a1, .inr (4, [.ref b1, .int (nI l1.length), .int o1])), (b1, .inl (kI, n1, .inl f1)), (a0, .inr (4, [.ref b0, .int (nI l0_26.length), .int o0_26])), (b0, .inl (kI, n0, .inl f0_26))]) ⟨hx, hb, hml, hown, hts⟩ (c_Reader_bytesBehind l D Z kI H.size (m_Row_get l1 i8)) (cw_Reader_bytesBehind hts k_411 ⟨Nat.le_of_ble_eq_true rfl, Nat.le_of_ble_eq_true rfl⟩) hK hZ hP hD hS hA [] [0, 1, 2, 3] rfl rfl (by decide) (by decide) (by decide) rfl hl.1 rfl (Nat.le_of_ble_eq_true rfl) d_Reader_readUtf8_101 ⟨Nat.zero_le _, Nat.zero_le _⟩ (fun r_27 u_27 H locs hw hP hD hS => ?_)
                have e_27 := hw
                subst e_27
                have hP : va_P D vwCl [(a1, .inr (4, [.ref b1, .int (nI l1.length), .int o1])), (b1, .inl (kI, n1, .inl f1)), (a0, .inr (4, [.ref b0, .int (nI l0_26.length), .int o0_26])), (b0, .inl (kI, n0, .inl f0_26))] H := hP
                have hD : va_D A [(a1, .inr (4, [.ref b1, .int (nI l1.length), .int o1])), (b1, .inl (kI, n1, .inl f1)), (a0, .inr (4, [.ref b0, .int (nI l0_26.length), .int o0_26])), (b0, .inl (kI, n0, .inl f0_26))] := hD
                refine lv_istore (lv' := [(4, .int (m_Reader_bytesBehind (m_Row_get l1 i8))), (9, .int (m_Row_get l1 i8)), (0, .ref a1), (2, .int i2), (3, .ref a0), (5, .int i5), (6, .int i6), (7, .int i7), (8, .int i8)]) hx hb d_Reader_readUtf8_104 hl (by decide) rfl (fun ls hl => ?_)
                refine lv_iload hx hb d_Reader_readUtf8_106 (lv_at hl 1 rfl) ?_
                refine lv_bipush (v := 63) hx hb d_Reader_readUtf8_108 (by decide) ?_
                refine lv_iload hx hb d_Reader_readUtf8_110 (lv_at hl 0 rfl) ?_
                refine lv_ishr hx hb d_Reader_readUtf8_112 ?_
                refine lv_iand hx hb d_Reader_readUtf8_113 ?_
                refine lv_istore (lv' := [(5, .int ((m_Row_get l1 i8) &&& ((63 : Int32) >>> ((m_Reader_bytesBehind (m_Row_get l1 i8)) &&& 31)))), (4, .int (m_Reader_bytesBehind (m_Row_get l1 i8))), (9, .int (m_Row_get l1 i8)), (0, .ref a1), (2, .int i2), (3, .ref a0), (6, .int i6), (7, .int i7), (8, .int i8)]) hx hb d_Reader_readUtf8_114 hl (by decide) rfl (fun ls hl => ?_)
                refine lv_iload hx hb d_Reader_readUtf8_116 (lv_at hl 2 rfl) ?_
                refine g_Si (As := [.int (m_Row_get l1 i8)]) (rest := []) (wr := [(a1, .inr (4, [.ref b1, .int (nI l1.length), .int o1])), (b1, .inl (kI, n1, .inl f1)), (a0, .inr (4, [.ref b0, .int (nI l0_26.length), .int o0_26])), (b0, .inl (kI, n0, .inl f0_26))]) ⟨hx, hb, hml, hown, hts⟩ (c_Reader_lowestBehind l D Z kI H.size (m_Row_get l1 i8)) (cw_Reader_lowestBehind hts k_414 ⟨Nat.le_of_ble_eq_true rfl, Nat.le_of_ble_eq_true rfl⟩) hK hZ hP hD hS hA [] [0, 1, 2, 3] rfl rfl (by decide) (by decide) (by decide) rfl hl.1 rfl (Nat.le_of_ble_eq_true rfl) d_Reader_readUtf8_118 ⟨Nat.zero_le _, Nat.zero_le _⟩ (fun r_28 u_28 H locs hw hP hD hS => ?_)
                have e_28 := hw
                subst e_28
                have hP : va_P D vwCl [(a1, .inr (4, [.ref b1, .int (nI l1.length), .int o1])), (b1, .inl (kI, n1, .inl f1)), (a0, .inr (4, [.ref b0, .int (nI l0_26.length), .int o0_26])), (b0, .inl (kI, n0, .inl f0_26))] H := hP
                have hD : va_D A [(a1, .inr (4, [.ref b1, .int (nI l1.length), .int o1])), (b1, .inl (kI, n1, .inl f1)), (a0, .inr (4, [.ref b0, .int (nI l0_26.length), .int o0_26])), (b0, .inl (kI, n0, .inl f0_26))] := hD
                refine lv_istore (lv' := [(6, .int (m_Reader_lowestBehind (m_Row_get l1 i8))), (5, .int ((m_Row_get l1 i8) &&& ((63 : Int32) >>> ((m_Reader_bytesBehind (m_Row_get l1 i8)) &&& 31)))), (4, .int (m_Reader_bytesBehind (m_Row_get l1 i8))), (9, .int (m_Row_get l1 i8)), (0, .ref a1), (2, .int i2), (3, .ref a0), (7, .int i7), (8, .int i8)]) hx hb d_Reader_readUtf8_121 hl (by decide) rfl (fun ls hl => ?_)
                refine lv_iload hx hb d_Reader_readUtf8_123 (lv_at hl 3 rfl) ?_
                refine g_Si (As := [.int (m_Row_get l1 i8)]) (rest := []) (wr := [(a1, .inr (4, [.ref b1, .int (nI l1.length), .int o1])), (b1, .inl (kI, n1, .inl f1)), (a0, .inr (4, [.ref b0, .int (nI l0_26.length), .int o0_26])), (b0, .inl (kI, n0, .inl f0_26))]) ⟨hx, hb, hml, hown, hts⟩ (c_Reader_highestBehind l D Z kI H.size (m_Row_get l1 i8)) (cw_Reader_highestBehind hts k_417 ⟨Nat.le_of_ble_eq_true rfl, Nat.le_of_ble_eq_true rfl⟩) hK hZ hP hD hS hA [] [0, 1, 2, 3] rfl rfl (by decide) (by decide) (by decide) rfl hl.1 rfl (Nat.le_of_ble_eq_true rfl) d_Reader_readUtf8_125 ⟨Nat.zero_le _, Nat.zero_le _⟩ (fun r_29 u_29 H locs hw hP hD hS => ?_)
                have e_29 := hw
                subst e_29
                have hP : va_P D vwCl [(a1, .inr (4, [.ref b1, .int (nI l1.length), .int o1])), (b1, .inl (kI, n1, .inl f1)), (a0, .inr (4, [.ref b0, .int (nI l0_26.length), .int o0_26])), (b0, .inl (kI, n0, .inl f0_26))] H := hP
                have hD : va_D A [(a1, .inr (4, [.ref b1, .int (nI l1.length), .int o1])), (b1, .inl (kI, n1, .inl f1)), (a0, .inr (4, [.ref b0, .int (nI l0_26.length), .int o0_26])), (b0, .inl (kI, n0, .inl f0_26))] := hD
                refine lv_istore (lv' := [(7, .int (m_Reader_highestBehind (m_Row_get l1 i8))), (6, .int (m_Reader_lowestBehind (m_Row_get l1 i8))), (5, .int ((m_Row_get l1 i8) &&& ((63 : Int32) >>> ((m_Reader_bytesBehind (m_Row_get l1 i8)) &&& 31)))), (4, .int (m_Reader_bytesBehind (m_Row_get l1 i8))), (9, .int (m_Row_get l1 i8)), (0, .ref a1), (2, .int i2), (3, .ref a0), (8, .int i8)]) hx hb d_Reader_readUtf8_128 hl (by decide) rfl (fun ls hl => ?_)
                refine lv_iload hx hb d_Reader_readUtf8_130 (lv_at hl 3 rfl) ?_
                refine lv_if_ne (tgt := 154) hx hb d_Reader_readUtf8_132 (by decide) (fun c_30 => ?_) (fun c_30 => ?_)
                · rw [if_neg c_30] at hF
                  refine lv_iinc (v := (i8 + 1)) (lv' := [(8, .int (i8 + 1)), (7, .int (m_Reader_highestBehind (m_Row_get l1 i8))), (6, .int (m_Reader_lowestBehind (m_Row_get l1 i8))), (5, .int ((m_Row_get l1 i8) &&& ((63 : Int32) >>> ((m_Reader_bytesBehind (m_Row_get l1 i8)) &&& 31)))), (4, .int (m_Reader_bytesBehind (m_Row_get l1 i8))), (9, .int (m_Row_get l1 i8)), (0, .ref a1), (2, .int i2), (3, .ref a0)]) hx hb d_Reader_readUtf8_154 hl (k := 8) rfl rfl (by decide) rfl (fun ls hl => ?_)
                  refine lv_goto (tgt := 15) hx hb d_Reader_readUtf8_157 (by decide) ?_
                  exact ih15 i2 (m_Reader_bytesBehind (m_Row_get l1 i8)) ((m_Row_get l1 i8) &&& ((63 : Int32) >>> ((m_Reader_bytesBehind (m_Row_get l1 i8)) &&& 31))) (m_Reader_lowestBehind (m_Row_get l1 i8)) (m_Reader_highestBehind (m_Row_get l1 i8)) (i8 + 1) f0_26 l0_26 o0_26 hr0_26 _ _ _  (Nat.lt_of_lt_of_le (g_dec1 c_1) (Nat.le_of_lt_succ hn15)) hF (hP.sub [2, 3, 0, 1] rfl) (hD.sub [2, 3, 0, 1] (by decide) rfl) hS (lv_sub hl [6, 7, 8, 4, 3, 2, 1, 0] rfl)
                · rw [if_pos c_30] at hF
                  refine lv_aload_n hx hb d_Reader_readUtf8_135 rfl (lv_at hl 7 rfl) ?_
                  refine lv_iload hx hb d_Reader_readUtf8_136 (lv_at hl 4 rfl) ?_
                  refine lv_sipush (v := 128) hx hb d_Reader_readUtf8_138 (by decide) ?_
                  refine lv_icmp_ge (tgt := 149) hx hb d_Reader_readUtf8_141 (by decide) (fun c_31 => ?_) (fun c_31 => ?_)
                  · rw [if_pos c_31] at hF
                    refine lv_ldc hx hb hown (hts _ k_410) d_Reader_readUtf8_149 ?_
                    refine g_Vv (As := [.int 65533]) (rest := []) (wr := [(a1, .inr (4, [.ref b1, .int (nI l1.length), .int o1])), (b1, .inl (kI, n1, .inl f1))]) ⟨hx, hb, hml, hown, hts⟩ (c_Row_put l D Z kI a0 b0 n0 H.size f0_26 l0_26 o0_26 65533 hr0_26) (cw_Row_put hts k_409 ⟨Nat.le_of_ble_eq_true rfl, Nat.le_of_ble_eq_true rfl⟩) hK hZ hP hD hS hA [2, 3] [0, 1] (g_recv hK hP (ci := 4) (q0 := 2) rfl rfl) rfl rfl (by decide) (by decide) (by decide) rfl hl.1 rfl (Nat.le_of_ble_eq_true rfl) d_Reader_readUtf8_151 ⟨Nat.zero_le _, Nat.zero_le _⟩ (fun u_32 H locs hw hP hD hS => ?_)
                    obtain ⟨f1_32, l1_32, o1_32⟩ := u_32
                    have e_32 := hw.1
                    have hr1_32 := hw.2
                    have hP : va_P D vwCl [(a1, .inr (4, [.ref b1, .int (nI l1.length), .int o1])), (b1, .inl (kI, n1, .inl f1)), (a0, .inr (4, [.ref b0, .int (nI l1_32.length), .int o1_32])), (b0, .inl (kI, n0, .inl f1_32))] H := hP
                    have hD : va_D A [(a1, .inr (4, [.ref b1, .int (nI l1.length), .int o1])), (b1, .inl (kI, n1, .inl f1)), (a0, .inr (4, [.ref b0, .int (nI l1_32.length), .int o1_32])), (b0, .inl (kI, n0, .inl f1_32))] := hD
                    rw [e_32] at hF; dsimp only at hF
                    refine lv_iinc (v := (i8 + 1)) (lv' := [(8, .int (i8 + 1)), (7, .int (m_Reader_highestBehind (m_Row_get l1 i8))), (6, .int (m_Reader_lowestBehind (m_Row_get l1 i8))), (5, .int ((m_Row_get l1 i8) &&& ((63 : Int32) >>> ((m_Reader_bytesBehind (m_Row_get l1 i8)) &&& 31)))), (4, .int (m_Reader_bytesBehind (m_Row_get l1 i8))), (9, .int (m_Row_get l1 i8)), (0, .ref a1), (2, .int i2), (3, .ref a0)]) hx hb d_Reader_readUtf8_154 hl (k := 8) rfl rfl (by decide) rfl (fun ls hl => ?_)
                    refine lv_goto (tgt := 15) hx hb d_Reader_readUtf8_157 (by decide) ?_
                    exact ih15 i2 (m_Reader_bytesBehind (m_Row_get l1 i8)) ((m_Row_get l1 i8) &&& ((63 : Int32) >>> ((m_Reader_bytesBehind (m_Row_get l1 i8)) &&& 31))) (m_Reader_lowestBehind (m_Row_get l1 i8)) (m_Reader_highestBehind (m_Row_get l1 i8)) (i8 + 1) f1_32 l1_32 o1_32 hr1_32 _ _ _  (Nat.lt_of_lt_of_le (g_dec1 c_1) (Nat.le_of_lt_succ hn15)) hF (hP.sub [2, 3, 0, 1] rfl) (hD.sub [2, 3, 0, 1] (by decide) rfl) hS (lv_sub hl [6, 7, 8, 4, 3, 2, 1, 0] rfl)
                  · rw [if_neg c_31] at hF
                    refine lv_iload hx hb d_Reader_readUtf8_144 (lv_at hl 4 rfl) ?_
                    refine lv_goto (tgt := 151) hx hb d_Reader_readUtf8_146 (by decide) ?_
                    refine g_Vv (As := [.int (m_Row_get l1 i8)]) (rest := []) (wr := [(a1, .inr (4, [.ref b1, .int (nI l1.length), .int o1])), (b1, .inl (kI, n1, .inl f1))]) ⟨hx, hb, hml, hown, hts⟩ (c_Row_put l D Z kI a0 b0 n0 H.size f0_26 l0_26 o0_26 (m_Row_get l1 i8) hr0_26) (cw_Row_put hts k_409 ⟨Nat.le_of_ble_eq_true rfl, Nat.le_of_ble_eq_true rfl⟩) hK hZ hP hD hS hA [2, 3] [0, 1] (g_recv hK hP (ci := 4) (q0 := 2) rfl rfl) rfl rfl (by decide) (by decide) (by decide) rfl hl.1 rfl (Nat.le_of_ble_eq_true rfl) d_Reader_readUtf8_151 ⟨Nat.zero_le _, Nat.zero_le _⟩ (fun u_33 H locs hw hP hD hS => ?_)
                    obtain ⟨f1_33, l1_33, o1_33⟩ := u_33
                    have e_33 := hw.1
                    have hr1_33 := hw.2
                    have hP : va_P D vwCl [(a1, .inr (4, [.ref b1, .int (nI l1.length), .int o1])), (b1, .inl (kI, n1, .inl f1)), (a0, .inr (4, [.ref b0, .int (nI l1_33.length), .int o1_33])), (b0, .inl (kI, n0, .inl f1_33))] H := hP
                    have hD : va_D A [(a1, .inr (4, [.ref b1, .int (nI l1.length), .int o1])), (b1, .inl (kI, n1, .inl f1)), (a0, .inr (4, [.ref b0, .int (nI l1_33.length), .int o1_33])), (b0, .inl (kI, n0, .inl f1_33))] := hD
                    rw [e_33] at hF; dsimp only at hF
                    refine lv_iinc (v := (i8 + 1)) (lv' := [(8, .int (i8 + 1)), (7, .int (m_Reader_highestBehind (m_Row_get l1 i8))), (6, .int (m_Reader_lowestBehind (m_Row_get l1 i8))), (5, .int ((m_Row_get l1 i8) &&& ((63 : Int32) >>> ((m_Reader_bytesBehind (m_Row_get l1 i8)) &&& 31)))), (4, .int (m_Reader_bytesBehind (m_Row_get l1 i8))), (9, .int (m_Row_get l1 i8)), (0, .ref a1), (2, .int i2), (3, .ref a0)]) hx hb d_Reader_readUtf8_154 hl (k := 8) rfl rfl (by decide) rfl (fun ls hl => ?_)
                    refine lv_goto (tgt := 15) hx hb d_Reader_readUtf8_157 (by decide) ?_
                    exact ih15 i2 (m_Reader_bytesBehind (m_Row_get l1 i8)) ((m_Row_get l1 i8) &&& ((63 : Int32) >>> ((m_Reader_bytesBehind (m_Row_get l1 i8)) &&& 31))) (m_Reader_lowestBehind (m_Row_get l1 i8)) (m_Reader_highestBehind (m_Row_get l1 i8)) (i8 + 1) f1_33 l1_33 o1_33 hr1_33 _ _ _  (Nat.lt_of_lt_of_le (g_dec1 c_1) (Nat.le_of_lt_succ hn15)) hF (hP.sub [2, 3, 0, 1] rfl) (hD.sub [2, 3, 0, 1] (by decide) rfl) hS (lv_sub hl [6, 7, 8, 4, 3, 2, 1, 0] rfl)
            · rw [if_neg c_24] at hF
              refine lv_iload hx hb d_Reader_readUtf8_48 (lv_at hl 5 rfl) ?_
              refine lv_bipush (v := 6) hx hb d_Reader_readUtf8_50 (by decide) ?_
              refine lv_ishl hx hb d_Reader_readUtf8_52 ?_
              refine lv_iload hx hb d_Reader_readUtf8_53 (lv_at hl 0 rfl) ?_
              refine lv_bipush (v := 63) hx hb d_Reader_readUtf8_55 (by decide) ?_
              refine lv_iand hx hb d_Reader_readUtf8_57 ?_
              refine lv_ior hx hb d_Reader_readUtf8_58 ?_
              refine lv_istore (lv' := [(5, .int ((i5 <<< ((6 : Int32) &&& 31)) ||| ((m_Row_get l1 i8) &&& 63))), (9, .int (m_Row_get l1 i8)), (0, .ref a1), (2, .int i2), (3, .ref a0), (4, .int i4), (6, .int i6), (7, .int i7), (8, .int i8)]) hx hb d_Reader_readUtf8_59 hl (by decide) rfl (fun ls hl => ?_)
              refine lv_sipush (v := 128) hx hb d_Reader_readUtf8_61 (by decide) ?_
              refine lv_istore (lv' := [(6, .int 128), (5, .int ((i5 <<< ((6 : Int32) &&& 31)) ||| ((m_Row_get l1 i8) &&& 63))), (9, .int (m_Row_get l1 i8)), (0, .ref a1), (2, .int i2), (3, .ref a0), (4, .int i4), (7, .int i7), (8, .int i8)]) hx hb d_Reader_readUtf8_64 hl (by decide) rfl (fun ls hl => ?_)
              refine lv_sipush (v := 191) hx hb d_Reader_readUtf8_66 (by decide) ?_
              refine lv_istore (lv' := [(7, .int 191), (6, .int 128), (5, .int ((i5 <<< ((6 : Int32) &&& 31)) ||| ((m_Row_get l1 i8) &&& 63))), (9, .int (m_Row_get l1 i8)), (0, .ref a1), (2, .int i2), (3, .ref a0), (4, .int i4), (8, .int i8)]) hx hb d_Reader_readUtf8_69 hl (by decide) rfl (fun ls hl => ?_)
              refine lv_iinc (v := (i4 + (-1))) (lv' := [(4, .int (i4 + (-1))), (7, .int 191), (6, .int 128), (5, .int ((i5 <<< ((6 : Int32) &&& 31)) ||| ((m_Row_get l1 i8) &&& 63))), (9, .int (m_Row_get l1 i8)), (0, .ref a1), (2, .int i2), (3, .ref a0), (8, .int i8)]) hx hb d_Reader_readUtf8_71 hl (k := 7) rfl rfl (by decide) rfl (fun ls hl => ?_)
              refine lv_iload hx hb d_Reader_readUtf8_74 (lv_at hl 0 rfl) ?_
              refine lv_if_ne (tgt := 154) hx hb d_Reader_readUtf8_76 (by decide) (fun c_34 => ?_) (fun c_34 => ?_)
              · rw [if_neg c_34] at hF
                refine lv_iinc (v := (i8 + 1)) (lv' := [(8, .int (i8 + 1)), (4, .int (i4 + (-1))), (7, .int 191), (6, .int 128), (5, .int ((i5 <<< ((6 : Int32) &&& 31)) ||| ((m_Row_get l1 i8) &&& 63))), (9, .int (m_Row_get l1 i8)), (0, .ref a1), (2, .int i2), (3, .ref a0)]) hx hb d_Reader_readUtf8_154 hl (k := 8) rfl rfl (by decide) rfl (fun ls hl => ?_)
                refine lv_goto (tgt := 15) hx hb d_Reader_readUtf8_157 (by decide) ?_
                exact ih15 i2 (i4 + (-1)) ((i5 <<< ((6 : Int32) &&& 31)) ||| ((m_Row_get l1 i8) &&& 63)) 128 191 (i8 + 1) f0 l0 o0 hr0 _ _ _  (Nat.lt_of_lt_of_le (g_dec1 c_1) (Nat.le_of_lt_succ hn15)) hF hP hD hS (lv_sub hl [6, 7, 8, 1, 4, 3, 2, 0] rfl)
              · rw [if_pos c_34] at hF
                refine lv_aload_n hx hb d_Reader_readUtf8_79 rfl (lv_at hl 7 rfl) ?_
                refine lv_iload hx hb d_Reader_readUtf8_80 (lv_at hl 3 rfl) ?_
                refine g_Vv (As := [.int ((i5 <<< ((6 : Int32) &&& 31)) ||| ((m_Row_get l1 i8) &&& 63))]) (rest := []) (wr := [(a1, .inr (4, [.ref b1, .int (nI l1.length), .int o1])), (b1, .inl (kI, n1, .inl f1))]) ⟨hx, hb, hml, hown, hts⟩ (c_Row_put l D Z kI a0 b0 n0 H.size f0 l0 o0 ((i5 <<< ((6 : Int32) &&& 31)) ||| ((m_Row_get l1 i8) &&& 63)) hr0) (cw_Row_put hts k_409 ⟨Nat.le_of_ble_eq_true rfl, Nat.le_of_ble_eq_true rfl⟩) hK hZ hP hD hS hA [0, 1] [2, 3] (g_recv hK hP (ci := 4) (q0 := 0) rfl rfl) rfl rfl (by decide) (by decide) (by decide) rfl hl.1 rfl (Nat.le_of_ble_eq_true rfl) d_Reader_readUtf8_82 ⟨Nat.zero_le _, Nat.zero_le _⟩ (fun u_35 H locs hw hP hD hS => ?_)
                obtain ⟨f0_35, l0_35, o0_35⟩ := u_35
                have e_35 := hw.1
                have hr0_35 := hw.2
                have hP : va_P D vwCl [(a1, .inr (4, [.ref b1, .int (nI l1.length), .int o1])), (b1, .inl (kI, n1, .inl f1)), (a0, .inr (4, [.ref b0, .int (nI l0_35.length), .int o0_35])), (b0, .inl (kI, n0, .inl f0_35))] H := hP
                have hD : va_D A [(a1, .inr (4, [.ref b1, .int (nI l1.length), .int o1])), (b1, .inl (kI, n1, .inl f1)), (a0, .inr (4, [.ref b0, .int (nI l0_35.length), .int o0_35])), (b0, .inl (kI, n0, .inl f0_35))] := hD
                rw [e_35] at hF; dsimp only at hF
                refine lv_goto (tgt := 154) hx hb d_Reader_readUtf8_85 (by decide) ?_
                refine lv_iinc (v := (i8 + 1)) (lv' := [(8, .int (i8 + 1)), (4, .int (i4 + (-1))), (7, .int 191), (6, .int 128), (5, .int ((i5 <<< ((6 : Int32) &&& 31)) ||| ((m_Row_get l1 i8) &&& 63))), (9, .int (m_Row_get l1 i8)), (0, .ref a1), (2, .int i2), (3, .ref a0)]) hx hb d_Reader_readUtf8_154 hl (k := 8) rfl rfl (by decide) rfl (fun ls hl => ?_)
                refine lv_goto (tgt := 15) hx hb d_Reader_readUtf8_157 (by decide) ?_
                exact ih15 i2 (i4 + (-1)) ((i5 <<< ((6 : Int32) &&& 31)) ||| ((m_Row_get l1 i8) &&& 63)) 128 191 (i8 + 1) f0_35 l0_35 o0_35 hr0_35 _ _ _  (Nat.lt_of_lt_of_le (g_dec1 c_1) (Nat.le_of_lt_succ hn15)) hF (hP.sub [2, 3, 0, 1] rfl) (hD.sub [2, 3, 0, 1] (by decide) rfl) hS (lv_sub hl [6, 7, 8, 1, 4, 3, 2, 0] rfl)
  have hF := hRES
  rw [m_Reader_readUtf8] at hF
  refine lv_iconst (v := 0) hx hb d_Reader_readUtf8_0 (by decide) ?_
  refine lv_istore (lv' := [(4, .int 0), (0, .ref a1), (1, .int p1), (2, .int p2), (3, .ref a0)]) hx hb d_Reader_readUtf8_1 hl (by decide) rfl (fun ls hl => ?_)
  refine lv_iconst (v := 0) hx hb d_Reader_readUtf8_3 (by decide) ?_
  refine lv_istore (lv' := [(5, .int 0), (4, .int 0), (0, .ref a1), (1, .int p1), (2, .int p2), (3, .ref a0)]) hx hb d_Reader_readUtf8_4 hl (by decide) rfl (fun ls hl => ?_)
  refine lv_iconst (v := 0) hx hb d_Reader_readUtf8_6 (by decide) ?_
  refine lv_istore (lv' := [(6, .int 0), (5, .int 0), (4, .int 0), (0, .ref a1), (1, .int p1), (2, .int p2), (3, .ref a0)]) hx hb d_Reader_readUtf8_7 hl (by decide) rfl (fun ls hl => ?_)
  refine lv_iconst (v := 0) hx hb d_Reader_readUtf8_9 (by decide) ?_
  refine lv_istore (lv' := [(7, .int 0), (6, .int 0), (5, .int 0), (4, .int 0), (0, .ref a1), (1, .int p1), (2, .int p2), (3, .ref a0)]) hx hb d_Reader_readUtf8_10 hl (by decide) rfl (fun ls hl => ?_)
  refine lv_iload_n hx hb d_Reader_readUtf8_12 rfl (lv_at hl 5 rfl) ?_
  refine lv_istore (lv' := [(8, .int p1), (7, .int 0), (6, .int 0), (5, .int 0), (4, .int 0), (0, .ref a1), (1, .int p1), (2, .int p2), (3, .ref a0)]) hx hb d_Reader_readUtf8_13 hl (by decide) rfl (fun ls hl => ?_)
  exact lp15 ((p2.toInt - p1.toInt).toNat + 1) p2 0 0 0 0 p1 f0 l0 o0 hr0 _ _ _  (Nat.lt_succ_self _) hF hP hD hS (lv_sub hl [5, 7, 8, 4, 3, 2, 1, 0] rfl)
theorem cw_Reader_readUtf8 {R : Room} {s : State} {args : Array Value} {own : String} {idx : Nat} (hts : ∀ w ∈ gW, w.before args s = true) (hl : Cond.methodLink own idx y_Reader_readUtf8 ∈ gW) (hR : rm_Reader_readUtf8.frames + 1 ≤ R.frames ∧ 8 + (10 + 11) + rm_Reader_readUtf8.locals ≤ R.locals) : CallB R s args own idx y_Reader_readUtf8 b_Reader_readUtf8 10 none w_Reader_readUtf8 rm_Reader_readUtf8 0 0 4 ∧ (Cond.static y_Reader_readUtf8).before args s = true := va_cwS 4 hts (gW_S hl k_406 k_74 k_407) rfl rfl rfl (by decide +kernel) hR
