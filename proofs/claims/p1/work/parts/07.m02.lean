def m_Uncoder_withoutBlanks_l2 : Nat → Int32 → Int32 → List Int32 → Int32
  | 0, _, _, _ => 0
  | nf2 + 1, i1, i3, l0 =>
    if i3 ≤ i1 then
      i1
    else
      if (m_Row_get l0 (i3 - 1)) = 32 then
        m_Uncoder_withoutBlanks_l2 nf2 i1 (i3 + (-1)) l0
      else
        if (m_Row_get l0 (i3 - 1)) = 9 then
          m_Uncoder_withoutBlanks_l2 nf2 i1 (i3 + (-1)) l0
        else
          i3
def m_Uncoder_withoutBlanks (l0 : List Int32) (p1 : Int32) (p2 : Int32) : Int32 :=
  m_Uncoder_withoutBlanks_l2 ((p2.toInt - p1.toInt).toNat + 1) p1 p2 l0
def rm_Uncoder_withoutBlanks : Room := { frames := 1, cells := 0, slots := 0, locals := 21 }
set_option maxHeartbeats 4000000 in
set_option maxRecDepth 100000 in
theorem c_Uncoder_withoutBlanks (l : Launch) (D : va_G) (Z : gZT) (kI : ClassId) (a0 : Nat) (b0 : Nat) (n0 : Nat) (sz : Nat) (f0 : Nat → Int32) (l0 : List Int32) (o0 : Int32) (p1 : Int32) (p2 : Int32) (hr0 : g_rw n0 f0 l0) : gMi l y_Uncoder_withoutBlanks w_Uncoder_withoutBlanks rm_Uncoder_withoutBlanks D Z kI [.ref a0, .int p1, .int p2] sz [(a0, .inr (4, [.ref b0, .int (nI l0.length), .int o0])), (b0, .inl (kI, n0, .inl f0))] (fun (r : Int32) (_u : Unit) => m_Uncoder_withoutBlanks l0 p1 p2 = r) (fun (_u : Unit) => ([(a0, .inr (4, [.ref b0, .int (nI l0.length), .int o0])), (b0, .inl (kI, n0, .inl f0))] : va_W)) := by
  refine g_ofi (cc := b_Uncoder_withoutBlanks) (maxL := 5) (ty := .int) (by decide) rfl (Nat.le_of_ble_eq_true rfl) ?_
  intro p e s m below meth c A Q H ls hx hb hml hown hts hA hK hZ hP hD hS hl hret
  have hown : s.vm.findClass "MailCharacters$Uncoder" = some m.cls := hown
  have hl : lv_has ls 5 [(0, .ref a0), (1, .int p1), (2, .int p2)] := hl
  obtain ⟨RES, hRES⟩ : ∃ z, z = m_Uncoder_withoutBlanks l0 p1 p2 := ⟨_, rfl⟩
  have lp2 : ∀ (nf2 : Nat) (i1 : Int32) (i3 : Int32) (H : Heap) (locs : List Loc) (ls : Array Slot), (i3.toInt - i1.toInt).toNat < nf2 → RES = m_Uncoder_withoutBlanks_l2 nf2 i1 i3 l0 → va_P D vwCl [(a0, .inr (4, [.ref b0, .int (nI l0.length), .int o0])), (b0, .inl (kI, n0, .inl f0))] H → va_D A [(a0, .inr (4, [.ref b0, .int (nI l0.length), .int o0])), (b0, .inl (kI, n0, .inl f0))] → va_S A s.heap H locs → lv_has ls 5 [(0, .ref a0), (1, .int i1), (3, .int i3)] → W p l e rm_Uncoder_withoutBlanks s m ([.ref a0, .int p1, .int p2] : List Value).toArray below meth c H locs 0 0 Q (F0 m 2 ls []) := by
    intro nf2
    induction nf2 with
    | zero => intro i1 i3 H locs ls hn2; exact absurd hn2 (Nat.not_lt_zero _)
    | succ nf2 ih2 =>
      intro i1 i3 H locs ls hn2 hF hP hD hS hl
      rw [m_Uncoder_withoutBlanks_l2] at hF
      refine lv_iload_n hx hb d_Uncoder_withoutBlanks_2 rfl (lv_at hl 2 rfl) ?_
      refine lv_iload_n hx hb d_Uncoder_withoutBlanks_3 rfl (lv_at hl 1 rfl) ?_
      refine lv_icmp_le (tgt := 38) hx hb d_Uncoder_withoutBlanks_4 (by decide) (fun c_1 => ?_) (fun c_1 => ?_)
      · rw [if_pos c_1] at hF
        refine lv_iload_n hx hb d_Uncoder_withoutBlanks_38 rfl (lv_at hl 1 rfl) ?_
        exact hret i1 () _ _ _ _ d_Uncoder_withoutBlanks_39 rfl (hRES.symm.trans hF) hP hD hS
      · rw [if_neg c_1] at hF
        refine lv_aload_n hx hb d_Uncoder_withoutBlanks_7 rfl (lv_at hl 0 rfl) ?_
        refine lv_iload_n hx hb d_Uncoder_withoutBlanks_8 rfl (lv_at hl 2 rfl) ?_
        refine lv_iconst (v := 1) hx hb d_Uncoder_withoutBlanks_9 (by decide) ?_
        refine lv_isub hx hb d_Uncoder_withoutBlanks_10 ?_
        refine g_Vi (As := [.int (i3 - 1)]) (rest := []) (wr := []) ⟨hx, hb, hml, hown, hts⟩ (c_Row_get l D Z kI a0 b0 n0 H.size f0 l0 o0 (i3 - 1) hr0) (cw_Row_get hts k_503 ⟨Nat.le_of_ble_eq_true rfl, Nat.le_of_ble_eq_true rfl⟩) hK hZ hP hD hS hA [0, 1] [] (g_recv hK hP (ci := 4) (q0 := 0) rfl rfl) rfl rfl (by decide) (by decide) (by decide) rfl hl.1 rfl (Nat.le_of_ble_eq_true rfl) d_Uncoder_withoutBlanks_11 ⟨Nat.zero_le _, Nat.zero_le _⟩ (fun r_2 u_2 H locs hw hP hD hS => ?_)
        have e_2 := hw
        subst e_2
        have hP : va_P D vwCl [(a0, .inr (4, [.ref b0, .int (nI l0.length), .int o0])), (b0, .inl (kI, n0, .inl f0))] H := hP
        have hD : va_D A [(a0, .inr (4, [.ref b0, .int (nI l0.length), .int o0])), (b0, .inl (kI, n0, .inl f0))] := hD
        refine lv_istore (lv' := [(4, .int (m_Row_get l0 (i3 - 1))), (0, .ref a0), (1, .int i1), (3, .int i3)]) hx hb d_Uncoder_withoutBlanks_14 hl (by decide) rfl (fun ls hl => ?_)
        refine lv_iload hx hb d_Uncoder_withoutBlanks_16 (lv_at hl 0 rfl) ?_
        refine lv_bipush (v := 32) hx hb d_Uncoder_withoutBlanks_18 (by decide) ?_
        refine lv_icmp_eq (tgt := 32) hx hb d_Uncoder_withoutBlanks_20 (by decide) (fun c_3 => ?_) (fun c_3 => ?_)
        · rw [if_pos c_3] at hF
          refine lv_iinc (v := (i3 + (-1))) (lv' := [(3, .int (i3 + (-1))), (4, .int (m_Row_get l0 (i3 - 1))), (0, .ref a0), (1, .int i1)]) hx hb d_Uncoder_withoutBlanks_32 hl (k := 3) rfl rfl (by decide) rfl (fun ls hl => ?_)
          refine lv_goto (tgt := 2) hx hb d_Uncoder_withoutBlanks_35 (by decide) ?_
          exact ih2 i1 (i3 + (-1))  _ _ _  (Nat.lt_of_lt_of_le (g_dec1d c_1) (Nat.le_of_lt_succ hn2)) hF hP hD hS (lv_sub hl [2, 3, 0] rfl)
        · rw [if_neg c_3] at hF
          refine lv_iload hx hb d_Uncoder_withoutBlanks_23 (lv_at hl 0 rfl) ?_
          refine lv_bipush (v := 9) hx hb d_Uncoder_withoutBlanks_25 (by decide) ?_
          refine lv_icmp_eq (tgt := 32) hx hb d_Uncoder_withoutBlanks_27 (by decide) (fun c_4 => ?_) (fun c_4 => ?_)
          · rw [if_pos c_4] at hF
            refine lv_iinc (v := (i3 + (-1))) (lv' := [(3, .int (i3 + (-1))), (4, .int (m_Row_get l0 (i3 - 1))), (0, .ref a0), (1, .int i1)]) hx hb d_Uncoder_withoutBlanks_32 hl (k := 3) rfl rfl (by decide) rfl (fun ls hl => ?_)
            refine lv_goto (tgt := 2) hx hb d_Uncoder_withoutBlanks_35 (by decide) ?_
            exact ih2 i1 (i3 + (-1))  _ _ _  (Nat.lt_of_lt_of_le (g_dec1d c_1) (Nat.le_of_lt_succ hn2)) hF hP hD hS (lv_sub hl [2, 3, 0] rfl)
          · rw [if_neg c_4] at hF
            refine lv_iload_n hx hb d_Uncoder_withoutBlanks_30 rfl (lv_at hl 3 rfl) ?_
            exact hret i3 () _ _ _ _ d_Uncoder_withoutBlanks_31 rfl (hRES.symm.trans hF) hP hD hS
  have hF := hRES
  rw [m_Uncoder_withoutBlanks] at hF
  refine lv_iload_n hx hb d_Uncoder_withoutBlanks_0 rfl (lv_at hl 2 rfl) ?_
  refine lv_istore_n (lv' := [(3, .int p2), (0, .ref a0), (1, .int p1), (2, .int p2)]) hx hb d_Uncoder_withoutBlanks_1 rfl hl (by decide) rfl (fun ls hl => ?_)
  exact lp2 ((p2.toInt - p1.toInt).toNat + 1) p1 p2  _ _ _  (Nat.lt_succ_self _) hF hP hD hS (lv_sub hl [1, 2, 0] rfl)
theorem cw_Uncoder_withoutBlanks {R : Room} {s : State} {args : Array Value} {own : String} {idx : Nat} (hts : ∀ w ∈ gW, w.before args s = true) (hl : Cond.methodLink own idx y_Uncoder_withoutBlanks ∈ gW) (hR : rm_Uncoder_withoutBlanks.frames + 1 ≤ R.frames ∧ 8 + (5 + 11) + rm_Uncoder_withoutBlanks.locals ≤ R.locals) : CallB R s args own idx y_Uncoder_withoutBlanks b_Uncoder_withoutBlanks 5 (some .int) w_Uncoder_withoutBlanks rm_Uncoder_withoutBlanks 0 0 3 ∧ (Cond.static y_Uncoder_withoutBlanks).before args s = true := va_cwS 3 hts (gW_S hl k_627 k_70 k_628) rfl rfl rfl (by decide +kernel) hR
def m_Line_length (v0_from : Int32) (v0_to : Int32) : Int32 :=
  (v0_to - v0_from)
def rm_Line_length : Room := { frames := 0, cells := 0, slots := 0, locals := 0 }
set_option maxHeartbeats 4000000 in
set_option maxRecDepth 100000 in
theorem c_Line_length (l : Launch) (D : va_G) (Z : gZT) (kI : ClassId) (a0 : Nat) (sz : Nat) (v0_from : Int32) (v0_to : Int32) (v0_ended : Int32) (v0_next : Int32) : gMi l y_Line_length w_Line_length rm_Line_length D Z kI [.ref a0] sz [(a0, .inr (2, [.int v0_from, .int v0_to, .int v0_ended, .int v0_next]))] (fun (r : Int32) (_u : Unit) => m_Line_length v0_from v0_to = r) (fun (_u : Unit) => ([(a0, .inr (2, [.int v0_from, .int v0_to, .int v0_ended, .int v0_next]))] : va_W)) := by
  refine g_ofi (cc := b_Line_length) (maxL := 1) (ty := .int) (by decide) rfl (Nat.le_of_ble_eq_true rfl) ?_
  intro p e s m below meth c A Q H ls hx hb hml hown hts hA hK hZ hP hD hS hl hret
  have hown : s.vm.findClass "MailCharacters$Line" = some m.cls := hown
  have hl : lv_has ls 1 [(0, .ref a0)] := hl
  obtain ⟨RES, hRES⟩ : ∃ z, z = m_Line_length v0_from v0_to := ⟨_, rfl⟩
  have hF := hRES
  rw [m_Line_length] at hF
  refine lv_aload_n hx hb d_Line_length_0 rfl (lv_at hl 0 rfl) ?_
  refine va_get (D := D) (ci := 2) (v := .int v0_to) (C := "MailCharacters$Line") (T := F_Line) (N := 4) hx hb hts i_Line hown hK hP 0 rfl rfl 1 (by decide) (hts _ k_146) (fun _ h9 => h9) rfl d_Line_length_1 ?_
  refine lv_aload_n hx hb d_Line_length_4 rfl (lv_at hl 0 rfl) ?_
  refine va_get (D := D) (ci := 2) (v := .int v0_from) (C := "MailCharacters$Line") (T := F_Line) (N := 4) hx hb hts i_Line hown hK hP 0 rfl rfl 0 (by decide) (hts _ k_144) (fun _ h9 => h9) rfl d_Line_length_5 ?_
  refine lv_isub hx hb d_Line_length_8 ?_
  exact hret (v0_to - v0_from) () _ _ _ _ d_Line_length_9 rfl (hRES.symm.trans hF) hP hD hS
theorem cw_Line_length {R : Room} {s : State} {args : Array Value} {own : String} {idx : Nat} (hts : ∀ w ∈ gW, w.before args s = true) (hl : Cond.methodLink own idx y_Line_length ∈ gW) (hR : rm_Line_length.frames + 1 ≤ R.frames ∧ 8 + (1 + 11) + rm_Line_length.locals ≤ R.locals) : CallW R s args own "MailCharacters$Line" idx y_Line_length b_Line_length 1 (some .int) w_Line_length rm_Line_length 0 0 0 := cwV 0 hts (gW_V hl k_634 k_635 k_72 k_636) rfl rfl rfl (by decide +kernel) hR
def m_Line_begins_l2 (s2 : Nat) : Nat → Int32 → Int32 → List Int32 → Int32
  | 0, _, _, _ => 0
  | nf2 + 1, i3, v0_from, l1 =>
    if (m_String_length s2) ≤ i3 then
      1
    else
      if (m_Row_get l1 (v0_from + i3)) = (m_String_charAt s2 i3) then
        m_Line_begins_l2 s2 nf2 (i3 + 1) v0_from l1
      else
        0
def m_Line_begins (v0_from : Int32) (l1 : List Int32) (s2 : Nat) : Int32 :=
  m_Line_begins_l2 s2 (((m_String_length s2).toInt - (0 : Int32).toInt).toNat + 1) 0 v0_from l1
def rm_Line_begins : Room := { frames := 4, cells := 0, slots := 0, locals := 85 }
set_option maxHeartbeats 4000000 in
set_option maxRecDepth 100000 in
theorem c_Line_begins (l : Launch) (D : va_G) (Z : gZT) (kI : ClassId) (a0 : Nat) (a1 : Nat) (b1 : Nat) (n1 : Nat) (sz : Nat) (v0_from : Int32) (v0_to : Int32) (v0_ended : Int32) (v0_next : Int32) (f1 : Nat → Int32) (l1 : List Int32) (o1 : Int32) (s2 : Nat) (hr1 : g_rw n1 f1 l1) (hs2 : s2 < gnS) : gMi l y_Line_begins w_Line_begins rm_Line_begins D Z kI [.ref a0, .ref a1, .ref (Z.1 s2)] sz [(a0, .inr (2, [.int v0_from, .int v0_to, .int v0_ended, .int v0_next])), (a1, .inr (4, [.ref b1, .int (nI l1.length), .int o1])), (b1, .inl (kI, n1, .inl f1))] (fun (r : Int32) (_u : Unit) => m_Line_begins v0_from l1 s2 = r) (fun (_u : Unit) => ([(a0, .inr (2, [.int v0_from, .int v0_to, .int v0_ended, .int v0_next])), (a1, .inr (4, [.ref b1, .int (nI l1.length), .int o1])), (b1, .inl (kI, n1, .inl f1))] : va_W)) := by
  refine g_ofi (cc := b_Line_begins) (maxL := 4) (ty := .boolean) (by decide) rfl (Nat.le_of_ble_eq_true rfl) ?_
  intro p e s m below meth c A Q H ls hx hb hml hown hts hA hK hZ hP hD hS hl hret
  have hown : s.vm.findClass "MailCharacters$Line" = some m.cls := hown
  have hl : lv_has ls 4 [(0, .ref a0), (1, .ref a1), (2, .ref (Z.1 s2))] := hl
  obtain ⟨RES, hRES⟩ : ∃ z, z = m_Line_begins v0_from l1 s2 := ⟨_, rfl⟩
  have lp2 : ∀ (nf2 : Nat) (i3 : Int32) (H : Heap) (locs : List Loc) (ls : Array Slot), ¬ i3 < 0 → ((m_String_length s2).toInt - i3.toInt).toNat < nf2 → RES = m_Line_begins_l2 s2 nf2 i3 v0_from l1 → va_P D vwCl [(a0, .inr (2, [.int v0_from, .int v0_to, .int v0_ended, .int v0_next])), (a1, .inr (4, [.ref b1, .int (nI l1.length), .int o1])), (b1, .inl (kI, n1, .inl f1))] H → va_D A [(a0, .inr (2, [.int v0_from, .int v0_to, .int v0_ended, .int v0_next])), (a1, .inr (4, [.ref b1, .int (nI l1.length), .int o1])), (b1, .inl (kI, n1, .inl f1))] → va_S A s.heap H locs → lv_has ls 4 [(0, .ref a0), (1, .ref a1), (2, .ref (Z.1 s2)), (3, .int i3)] → W p l e rm_Line_begins s m ([.ref a0, .ref a1, .ref (Z.1 s2)] : List Value).toArray below meth c H locs 0 0 Q (F0 m 2 ls []) := by
    intro nf2
    induction nf2 with
    | zero => intro i3 H locs ls hi2_0 hn2; exact absurd hn2 (Nat.not_lt_zero _)
    | succ nf2 ih2 =>
      intro i3 H locs ls hi2_0 hn2 hF hP hD hS hl
      rw [m_Line_begins_l2] at hF
      refine lv_iload_n hx hb d_Line_begins_2 rfl (lv_at hl 3 rfl) ?_
      refine lv_aload_n hx hb d_Line_begins_3 rfl (lv_at hl 2 rfl) ?_
      refine g_Vi (As := []) (rest := [.int i3]) (wr := [(a0, .inr (2, [.int v0_from, .int v0_to, .int v0_ended, .int v0_next])), (a1, .inr (4, [.ref b1, .int (nI l1.length), .int o1])), (b1, .inl (kI, n1, .inl f1))]) ⟨hx, hb, hml, hown, hts⟩ (c_String_length l D Z kI H.size s2 hs2) (cw_String_length hts k_643 ⟨Nat.le_of_ble_eq_true rfl, Nat.le_of_ble_eq_true rfl⟩) hK hZ hP hD hS hA [] [0, 1, 2] (gZ_recv hZ hS hs2) rfl rfl (by decide) (by decide) (by decide) rfl hl.1 rfl (Nat.le_of_ble_eq_true rfl) d_Line_begins_4 ⟨Nat.zero_le _, Nat.zero_le _⟩ (fun r_2 u_2 H locs hw hP hD hS => ?_)
      have e_2 := hw
      subst e_2
      have hP : va_P D vwCl [(a0, .inr (2, [.int v0_from, .int v0_to, .int v0_ended, .int v0_next])), (a1, .inr (4, [.ref b1, .int (nI l1.length), .int o1])), (b1, .inl (kI, n1, .inl f1))] H := hP
      have hD : va_D A [(a0, .inr (2, [.int v0_from, .int v0_to, .int v0_ended, .int v0_next])), (a1, .inr (4, [.ref b1, .int (nI l1.length), .int o1])), (b1, .inl (kI, n1, .inl f1))] := hD
      refine lv_icmp_ge (tgt := 36) hx hb d_Line_begins_7 (by decide) (fun c_3 => ?_) (fun c_3 => ?_)
      · rw [if_pos c_3] at hF
        refine lv_iconst (v := 1) hx hb d_Line_begins_36 (by decide) ?_
        exact hret 1 () _ _ _ _ d_Line_begins_37 rfl (hRES.symm.trans hF) hP hD hS
      · rw [if_neg c_3] at hF
        refine lv_aload_n hx hb d_Line_begins_10 rfl (lv_at hl 1 rfl) ?_
        refine lv_aload_n hx hb d_Line_begins_11 rfl (lv_at hl 0 rfl) ?_
        refine va_get (D := D) (ci := 2) (v := .int v0_from) (C := "MailCharacters$Line") (T := F_Line) (N := 4) hx hb hts i_Line hown hK hP 0 rfl rfl 0 (by decide) (hts _ k_144) (fun _ h9 => h9) rfl d_Line_begins_12 ?_
        refine lv_iload_n hx hb d_Line_begins_15 rfl (lv_at hl 3 rfl) ?_
        refine lv_iadd hx hb d_Line_begins_16 ?_
        refine g_Vi (As := [.int (v0_from + i3)]) (rest := []) (wr := [(a0, .inr (2, [.int v0_from, .int v0_to, .int v0_ended, .int v0_next]))]) ⟨hx, hb, hml, hown, hts⟩ (c_Row_get l D Z kI a1 b1 n1 H.size f1 l1 o1 (v0_from + i3) hr1) (cw_Row_get hts k_625 ⟨Nat.le_of_ble_eq_true rfl, Nat.le_of_ble_eq_true rfl⟩) hK hZ hP hD hS hA [1, 2] [0] (g_recv hK hP (ci := 4) (q0 := 1) rfl rfl) rfl rfl (by decide) (by decide) (by decide) rfl hl.1 rfl (Nat.le_of_ble_eq_true rfl) d_Line_begins_17 ⟨Nat.zero_le _, Nat.zero_le _⟩ (fun r_4 u_4 H locs hw hP hD hS => ?_)
        have e_4 := hw
        subst e_4
        have hP : va_P D vwCl [(a0, .inr (2, [.int v0_from, .int v0_to, .int v0_ended, .int v0_next])), (a1, .inr (4, [.ref b1, .int (nI l1.length), .int o1])), (b1, .inl (kI, n1, .inl f1))] H := hP
        have hD : va_D A [(a0, .inr (2, [.int v0_from, .int v0_to, .int v0_ended, .int v0_next])), (a1, .inr (4, [.ref b1, .int (nI l1.length), .int o1])), (b1, .inl (kI, n1, .inl f1))] := hD
        refine lv_aload_n hx hb d_Line_begins_20 rfl (lv_at hl 2 rfl) ?_
        refine lv_iload_n hx hb d_Line_begins_21 rfl (lv_at hl 3 rfl) ?_
        refine g_Vi (As := [.int i3]) (rest := [.int (m_Row_get l1 (v0_from + i3))]) (wr := [(a0, .inr (2, [.int v0_from, .int v0_to, .int v0_ended, .int v0_next])), (a1, .inr (4, [.ref b1, .int (nI l1.length), .int o1])), (b1, .inl (kI, n1, .inl f1))]) ⟨hx, hb, hml, hown, hts⟩ (c_String_charAt l D Z kI H.size s2 i3 hi2_0 c_3 hs2) (cw_String_charAt hts k_644 ⟨Nat.le_of_ble_eq_true rfl, Nat.le_of_ble_eq_true rfl⟩) hK hZ hP hD hS hA [] [0, 1, 2] (gZ_recv hZ hS hs2) rfl rfl (by decide) (by decide) (by decide) rfl hl.1 rfl (Nat.le_of_ble_eq_true rfl) d_Line_begins_22 ⟨Nat.zero_le _, Nat.zero_le _⟩ (fun r_5 u_5 H locs hw hP hD hS => ?_)
        have e_5 := hw
        subst e_5
        have hP : va_P D vwCl [(a0, .inr (2, [.int v0_from, .int v0_to, .int v0_ended, .int v0_next])), (a1, .inr (4, [.ref b1, .int (nI l1.length), .int o1])), (b1, .inl (kI, n1, .inl f1))] H := hP
        have hD : va_D A [(a0, .inr (2, [.int v0_from, .int v0_to, .int v0_ended, .int v0_next])), (a1, .inr (4, [.ref b1, .int (nI l1.length), .int o1])), (b1, .inl (kI, n1, .inl f1))] := hD
        refine lv_icmp_eq (tgt := 30) hx hb d_Line_begins_25 (by decide) (fun c_6 => ?_) (fun c_6 => ?_)
        · rw [if_pos c_6] at hF
          refine lv_iinc (v := (i3 + 1)) (lv' := [(3, .int (i3 + 1)), (0, .ref a0), (1, .ref a1), (2, .ref (Z.1 s2))]) hx hb d_Line_begins_30 hl (k := 3) rfl rfl (by decide) rfl (fun ls hl => ?_)
          refine lv_goto (tgt := 2) hx hb d_Line_begins_33 (by decide) ?_
          exact ih2 (i3 + 1)  _ _ _ (g_nn c_3 hi2_0) (Nat.lt_of_lt_of_le (g_dec1 c_3) (Nat.le_of_lt_succ hn2)) hF hP hD hS (lv_sub hl [1, 2, 3, 0] rfl)
        · rw [if_neg c_6] at hF
          refine lv_iconst (v := 0) hx hb d_Line_begins_28 (by decide) ?_
          exact hret 0 () _ _ _ _ d_Line_begins_29 rfl (hRES.symm.trans hF) hP hD hS
  have hF := hRES
  rw [m_Line_begins] at hF
  refine lv_iconst (v := 0) hx hb d_Line_begins_0 (by decide) ?_
  refine lv_istore_n (lv' := [(3, .int 0), (0, .ref a0), (1, .ref a1), (2, .ref (Z.1 s2))]) hx hb d_Line_begins_1 rfl hl (by decide) rfl (fun ls hl => ?_)
  exact lp2 (((m_String_length s2).toInt - (0 : Int32).toInt).toNat + 1) 0  _ _ _ (by decide) (Nat.lt_succ_self _) hF hP hD hS (lv_sub hl [1, 2, 3, 0] rfl)
theorem cw_Line_begins {R : Room} {s : State} {args : Array Value} {own : String} {idx : Nat} (hts : ∀ w ∈ gW, w.before args s = true) (hl : Cond.methodLink own idx y_Line_begins ∈ gW) (hR : rm_Line_begins.frames + 1 ≤ R.frames ∧ 8 + (4 + 11) + rm_Line_begins.locals ≤ R.locals) : CallW R s args own "MailCharacters$Line" idx y_Line_begins b_Line_begins 4 (some .boolean) w_Line_begins rm_Line_begins 0 0 2 := cwV 2 hts (gW_V hl k_640 k_641 k_72 k_642) rfl rfl rfl (by decide +kernel) hR
def m_Uncoder_hexValue (p0 : Int32) : Int32 :=
  ((p0 - 32) &&& 63)
def rm_Uncoder_hexValue : Room := { frames := 0, cells := 0, slots := 0, locals := 0 }
set_option maxHeartbeats 4000000 in
set_option maxRecDepth 100000 in
theorem c_Uncoder_hexValue (l : Launch) (D : va_G) (Z : gZT) (kI : ClassId) (sz : Nat) (p0 : Int32) : gMi l y_Uncoder_hexValue w_Uncoder_hexValue rm_Uncoder_hexValue D Z kI [.int p0] sz [] (fun (r : Int32) (_u : Unit) => m_Uncoder_hexValue p0 = r) (fun (_u : Unit) => ([] : va_W)) := by
  refine g_ofi (cc := b_Uncoder_hexValue) (maxL := 1) (ty := .int) (by decide) rfl (Nat.le_of_ble_eq_true rfl) ?_
  intro p e s m below meth c A Q H ls hx hb hml hown hts hA hK hZ hP hD hS hl hret
  have hown : s.vm.findClass "MailCharacters$Uncoder" = some m.cls := hown
  have hl : lv_has ls 1 [(0, .int p0)] := hl
  obtain ⟨RES, hRES⟩ : ∃ z, z = m_Uncoder_hexValue p0 := ⟨_, rfl⟩
  have hF := hRES
  rw [m_Uncoder_hexValue] at hF
  refine lv_iload_n hx hb d_Uncoder_hexValue_0 rfl (lv_at hl 0 rfl) ?_
  refine lv_bipush (v := 32) hx hb d_Uncoder_hexValue_1 (by decide) ?_
  refine lv_isub hx hb d_Uncoder_hexValue_3 ?_
  refine lv_bipush (v := 63) hx hb d_Uncoder_hexValue_4 (by decide) ?_
  refine lv_iand hx hb d_Uncoder_hexValue_6 ?_
  exact hret ((p0 - 32) &&& 63) () _ _ _ _ d_Uncoder_hexValue_7 rfl (hRES.symm.trans hF) hP hD hS
theorem cw_Uncoder_hexValue {R : Room} {s : State} {args : Array Value} {own : String} {idx : Nat} (hts : ∀ w ∈ gW, w.before args s = true) (hl : Cond.methodLink own idx y_Uncoder_hexValue ∈ gW) (hR : rm_Uncoder_hexValue.frames + 1 ≤ R.frames ∧ 8 + (1 + 11) + rm_Uncoder_hexValue.locals ≤ R.locals) : CallB R s args own idx y_Uncoder_hexValue b_Uncoder_hexValue 1 (some .int) w_Uncoder_hexValue rm_Uncoder_hexValue 0 0 1 ∧ (Cond.static y_Uncoder_hexValue).before args s = true := va_cwS 1 hts (gW_S hl k_651 k_70 k_652) rfl rfl rfl (by decide +kernel) hR
def m_Uncoder_unhexLine_l46 (n2 : Nat) : Nat → Int32 → Int32 → Int32 → Int32 → Int32 → Int32 → List Int32 → Int32 → Int32 → List Int32 → Int32 × Int32 × List Int32 × Int32
  | 0, _, _, _, _, v1_value, v1_held, l2, o2, _, _ => (v1_value, v1_held, l2, o2)
  | nf46 + 1, i3, i4, i5, i6, v1_value, v1_held, l2, o2, v3_from, l4 =>
    if i5 ≤ i6 then
      (v1_value, v1_held, l2, o2)
    else
      if i3 ≤ 0 then
        (v1_value, v1_held, l2, o2)
      else
        if i4 ≤ i6 then
          match (m_Bits_add v1_value v1_held 0 6) with
          | (v1_value_4, v1_held_4) =>
            if (m_Bits_has v1_held_4 8) = 0 then
              m_Uncoder_unhexLine_l46 n2 nf46 i3 i4 i5 (i6 + 1) v1_value_4 v1_held_4 l2 o2 v3_from l4
            else
              match (m_Bits_take v1_value_4 v1_held_4 8) with
              | (r_7, v4_held_7) =>
                match (m_Row_put n2 l2 o2 r_7) with
                | (l1_8, o1_8) =>
                  m_Uncoder_unhexLine_l46 n2 nf46 (i3 + (-1)) i4 i5 (i6 + 1) v1_value_4 v4_held_7 l1_8 o1_8 v3_from l4
        else
          match (m_Bits_add v1_value v1_held (m_Uncoder_hexValue (m_Row_get l4 ((v3_from + 1) + i6))) 6) with
          | (v1_value_11, v1_held_11) =>
            if (m_Bits_has v1_held_11 8) = 0 then
              m_Uncoder_unhexLine_l46 n2 nf46 i3 i4 i5 (i6 + 1) v1_value_11 v1_held_11 l2 o2 v3_from l4
            else
              match (m_Bits_take v1_value_11 v1_held_11 8) with
              | (r_14, v4_held_14) =>
                match (m_Row_put n2 l2 o2 r_14) with
                | (l1_15, o1_15) =>
                  m_Uncoder_unhexLine_l46 n2 nf46 (i3 + (-1)) i4 i5 (i6 + 1) v1_value_11 v4_held_14 l1_15 o1_15 v3_from l4
def m_Uncoder_unhexLine (n2 : Nat) (l2 : List Int32) (o2 : Int32) (v3_from : Int32) (v3_to : Int32) (l4 : List Int32) : Int32 × Int32 × List Int32 × Int32 :=
  match m_Bits_clear with
  | (v1_value_19, v1_held_19) =>
    m_Uncoder_unhexLine_l46 n2 (((((((m_Line_length v3_from v3_to) - 1) + 3) / 4) * 4).toInt - (0 : Int32).toInt).toNat + 1) (m_Uncoder_hexValue (m_Row_get l4 v3_from)) ((m_Line_length v3_from v3_to) - 1) (((((m_Line_length v3_from v3_to) - 1) + 3) / 4) * 4) 0 v1_value_19 v1_held_19 l2 o2 v3_from l4
def rm_Uncoder_unhexLine : Room := { frames := 1, cells := 0, slots := 0, locals := 22 }
set_option maxHeartbeats 4000000 in
set_option maxRecDepth 100000 in
theorem c_Uncoder_unhexLine (l : Launch) (D : va_G) (Z : gZT) (kI : ClassId) (a0 : Nat) (a1 : Nat) (a2 : Nat) (b2 : Nat) (n2 : Nat) (a3 : Nat) (a4 : Nat) (b4 : Nat) (n4 : Nat) (sz : Nat) (v1_value : Int32) (v1_held : Int32) (f2 : Nat → Int32) (l2 : List Int32) (o2 : Int32) (v3_from : Int32) (v3_to : Int32) (v3_ended : Int32) (v3_next : Int32) (f4 : Nat → Int32) (l4 : List Int32) (o4 : Int32) (hr2 : g_rw n2 f2 l2) (hr4 : g_rw n4 f4 l4) : gMv l y_Uncoder_unhexLine w_Uncoder_unhexLine rm_Uncoder_unhexLine D Z kI [.ref a0, .ref a4, .ref a2] sz [(a0, .inr (5, [.ref a1, .ref a3])), (a1, .inr (0, [.int v1_value, .int v1_held])), (a2, .inr (4, [.ref b2, .int (nI l2.length), .int o2])), (b2, .inl (kI, n2, .inl f2)), (a3, .inr (2, [.int v3_from, .int v3_to, .int v3_ended, .int v3_next])), (a4, .inr (4, [.ref b4, .int (nI l4.length), .int o4])), (b4, .inl (kI, n4, .inl f4))] (fun (u : Int32 × Int32 × (Nat → Int32) × List Int32 × Int32) => m_Uncoder_unhexLine n2 l2 o2 v3_from v3_to l4 = (u.1, u.2.1, u.2.2.2.1, u.2.2.2.2) ∧ g_rw n2 u.2.2.1 u.2.2.2.1) (fun (u : Int32 × Int32 × (Nat → Int32) × List Int32 × Int32) => ([(a0, .inr (5, [.ref a1, .ref a3])), (a1, .inr (0, [.int u.1, .int u.2.1])), (a2, .inr (4, [.ref b2, .int (nI u.2.2.2.1.length), .int u.2.2.2.2])), (b2, .inl (kI, n2, .inl u.2.2.1)), (a3, .inr (2, [.int v3_from, .int v3_to, .int v3_ended, .int v3_next])), (a4, .inr (4, [.ref b4, .int (nI l4.length), .int o4])), (b4, .inl (kI, n4, .inl f4))] : va_W)) := by
  refine g_ofv (cc := b_Uncoder_unhexLine) (maxL := 7) (by decide) rfl (Nat.le_of_ble_eq_true rfl) ?_
  intro p e s m below meth c A Q H ls hx hb hml hown hts hA hK hZ hP hD hS hl hret
  have hown : s.vm.findClass "MailCharacters$Uncoder" = some m.cls := hown
  have hl : lv_has ls 7 [(0, .ref a0), (1, .ref a4), (2, .ref a2)] := hl
  obtain ⟨RES, hRES⟩ : ∃ z, z = m_Uncoder_unhexLine n2 l2 o2 v3_from v3_to l4 := ⟨_, rfl⟩
  have lp46 : ∀ (nf46 : Nat) (i3 : Int32) (i4 : Int32) (i5 : Int32) (i6 : Int32) (v1_value : Int32) (v1_held : Int32) (f2 : Nat → Int32) (l2 : List Int32) (o2 : Int32) (hr2 : g_rw n2 f2 l2) (H : Heap) (locs : List Loc) (ls : Array Slot), (i5.toInt - i6.toInt).toNat < nf46 → RES = m_Uncoder_unhexLine_l46 n2 nf46 i3 i4 i5 i6 v1_value v1_held l2 o2 v3_from l4 → va_P D vwCl [(a0, .inr (5, [.ref a1, .ref a3])), (a1, .inr (0, [.int v1_value, .int v1_held])), (a2, .inr (4, [.ref b2, .int (nI l2.length), .int o2])), (b2, .inl (kI, n2, .inl f2)), (a3, .inr (2, [.int v3_from, .int v3_to, .int v3_ended, .int v3_next])), (a4, .inr (4, [.ref b4, .int (nI l4.length), .int o4])), (b4, .inl (kI, n4, .inl f4))] H → va_D A [(a0, .inr (5, [.ref a1, .ref a3])), (a1, .inr (0, [.int v1_value, .int v1_held])), (a2, .inr (4, [.ref b2, .int (nI l2.length), .int o2])), (b2, .inl (kI, n2, .inl f2)), (a3, .inr (2, [.int v3_from, .int v3_to, .int v3_ended, .int v3_next])), (a4, .inr (4, [.ref b4, .int (nI l4.length), .int o4])), (b4, .inl (kI, n4, .inl f4))] → va_S A s.heap H locs → lv_has ls 7 [(0, .ref a0), (1, .ref a4), (2, .ref a2), (3, .int i3), (4, .int i4), (5, .int i5), (6, .int i6)] → W p l e rm_Uncoder_unhexLine s m ([.ref a0, .ref a4, .ref a2] : List Value).toArray below meth c H locs 0 0 Q (F0 m 46 ls []) := by
    intro nf46
    induction nf46 with
    | zero => intro i3 i4 i5 i6 v1_value v1_held f2 l2 o2 hr2 H locs ls hn46; exact absurd hn46 (Nat.not_lt_zero _)
    | succ nf46 ih46 =>
      intro i3 i4 i5 i6 v1_value v1_held f2 l2 o2 hr2 H locs ls hn46 hF hP hD hS hl
      rw [m_Uncoder_unhexLine_l46] at hF
      refine lv_iload hx hb d_Uncoder_unhexLine_46 (lv_at hl 6 rfl) ?_
      refine lv_iload hx hb d_Uncoder_unhexLine_48 (lv_at hl 5 rfl) ?_
      refine lv_icmp_ge (tgt := 130) hx hb d_Uncoder_unhexLine_50 (by decide) (fun c_1 => ?_) (fun c_1 => ?_)
      · rw [if_pos c_1] at hF
        exact hret (v1_value, v1_held, f2, l2, o2) _ _ _ _ d_Uncoder_unhexLine_130 (⟨hRES.symm.trans hF, hr2⟩) hP hD hS
      · rw [if_neg c_1] at hF
        refine lv_iload_n hx hb d_Uncoder_unhexLine_53 rfl (lv_at hl 3 rfl) ?_
        refine lv_if_le (tgt := 130) hx hb d_Uncoder_unhexLine_54 (by decide) (fun c_2 => ?_) (fun c_2 => ?_)
        · rw [if_pos c_2] at hF
          exact hret (v1_value, v1_held, f2, l2, o2) _ _ _ _ d_Uncoder_unhexLine_130 (⟨hRES.symm.trans hF, hr2⟩) hP hD hS
        · rw [if_neg c_2] at hF
          refine lv_aload_n hx hb d_Uncoder_unhexLine_57 rfl (lv_at hl 0 rfl) ?_
          refine va_get (D := D) (ci := 5) (v := .ref a1) (C := "MailCharacters$Uncoder") (T := F_Uncoder) (N := 2) hx hb hts i_Uncoder hown hK hP 0 rfl rfl 0 (by decide) (hts _ k_160) (fun _ h9 => h9) rfl d_Uncoder_unhexLine_58 ?_
          refine lv_iload hx hb d_Uncoder_unhexLine_61 (lv_at hl 6 rfl) ?_
          refine lv_iload hx hb d_Uncoder_unhexLine_63 (lv_at hl 4 rfl) ?_
          refine lv_icmp_ge (tgt := 90) hx hb d_Uncoder_unhexLine_65 (by decide) (fun c_3 => ?_) (fun c_3 => ?_)
          · rw [if_pos c_3] at hF
            refine lv_iconst (v := 0) hx hb d_Uncoder_unhexLine_90 (by decide) ?_
            refine lv_bipush (v := 6) hx hb d_Uncoder_unhexLine_91 (by decide) ?_
            refine g_Vv (As := [.int 0, .int 6]) (rest := []) (wr := [(a0, .inr (5, [.ref a1, .ref a3])), (a2, .inr (4, [.ref b2, .int (nI l2.length), .int o2])), (b2, .inl (kI, n2, .inl f2)), (a3, .inr (2, [.int v3_from, .int v3_to, .int v3_ended, .int v3_next])), (a4, .inr (4, [.ref b4, .int (nI l4.length), .int o4])), (b4, .inl (kI, n4, .inl f4))]) ⟨hx, hb, hml, hown, hts⟩ (c_Bits_add l D Z kI a1 H.size v1_value v1_held 0 6) (cw_Bits_add hts k_505 ⟨Nat.le_of_ble_eq_true rfl, Nat.le_of_ble_eq_true rfl⟩) hK hZ hP hD hS hA [1] [0, 2, 3, 4, 5, 6] (g_recv hK hP (ci := 0) (q0 := 1) rfl rfl) rfl rfl (by decide) (by decide) (by decide) rfl hl.1 rfl (Nat.le_of_ble_eq_true rfl) d_Uncoder_unhexLine_93 ⟨Nat.zero_le _, Nat.zero_le _⟩ (fun u_4 H locs hw hP hD hS => ?_)
            obtain ⟨v1_value_4, v1_held_4⟩ := u_4
            have e_4 := hw
            have hP : va_P D vwCl [(a0, .inr (5, [.ref a1, .ref a3])), (a2, .inr (4, [.ref b2, .int (nI l2.length), .int o2])), (b2, .inl (kI, n2, .inl f2)), (a3, .inr (2, [.int v3_from, .int v3_to, .int v3_ended, .int v3_next])), (a4, .inr (4, [.ref b4, .int (nI l4.length), .int o4])), (b4, .inl (kI, n4, .inl f4)), (a1, .inr (0, [.int v1_value_4, .int v1_held_4]))] H := hP
            have hD : va_D A [(a0, .inr (5, [.ref a1, .ref a3])), (a2, .inr (4, [.ref b2, .int (nI l2.length), .int o2])), (b2, .inl (kI, n2, .inl f2)), (a3, .inr (2, [.int v3_from, .int v3_to, .int v3_ended, .int v3_next])), (a4, .inr (4, [.ref b4, .int (nI l4.length), .int o4])), (b4, .inl (kI, n4, .inl f4)), (a1, .inr (0, [.int v1_value_4, .int v1_held_4]))] := hD
            rw [e_4] at hF; dsimp only at hF
            refine lv_aload_n hx hb d_Uncoder_unhexLine_96 rfl (lv_at hl 0 rfl) ?_
            refine va_get (D := D) (ci := 5) (v := .ref a1) (C := "MailCharacters$Uncoder") (T := F_Uncoder) (N := 2) hx hb hts i_Uncoder hown hK hP 0 rfl rfl 0 (by decide) (hts _ k_160) (fun _ h9 => h9) rfl d_Uncoder_unhexLine_97 ?_
            refine lv_bipush (v := 8) hx hb d_Uncoder_unhexLine_100 (by decide) ?_
            refine g_Vi (As := [.int 8]) (rest := []) (wr := [(a0, .inr (5, [.ref a1, .ref a3])), (a2, .inr (4, [.ref b2, .int (nI l2.length), .int o2])), (b2, .inl (kI, n2, .inl f2)), (a3, .inr (2, [.int v3_from, .int v3_to, .int v3_ended, .int v3_next])), (a4, .inr (4, [.ref b4, .int (nI l4.length), .int o4])), (b4, .inl (kI, n4, .inl f4))]) ⟨hx, hb, hml, hown, hts⟩ (c_Bits_has l D Z kI a1 H.size v1_value_4 v1_held_4 8) (cw_Bits_has hts k_506 ⟨Nat.le_of_ble_eq_true rfl, Nat.le_of_ble_eq_true rfl⟩) hK hZ hP hD hS hA [6] [0, 1, 2, 3, 4, 5] (g_recv hK hP (ci := 0) (q0 := 6) rfl rfl) rfl rfl (by decide) (by decide) (by decide) rfl hl.1 rfl (Nat.le_of_ble_eq_true rfl) d_Uncoder_unhexLine_102 ⟨Nat.zero_le _, Nat.zero_le _⟩ (fun r_5 u_5 H locs hw hP hD hS => ?_)
            have e_5 := hw
            subst e_5
            have hP : va_P D vwCl [(a0, .inr (5, [.ref a1, .ref a3])), (a2, .inr (4, [.ref b2, .int (nI l2.length), .int o2])), (b2, .inl (kI, n2, .inl f2)), (a3, .inr (2, [.int v3_from, .int v3_to, .int v3_ended, .int v3_next])), (a4, .inr (4, [.ref b4, .int (nI l4.length), .int o4])), (b4, .inl (kI, n4, .inl f4)), (a1, .inr (0, [.int v1_value_4, .int v1_held_4]))] H := hP
            have hD : va_D A [(a0, .inr (5, [.ref a1, .ref a3])), (a2, .inr (4, [.ref b2, .int (nI l2.length), .int o2])), (b2, .inl (kI, n2, .inl f2)), (a3, .inr (2, [.int v3_from, .int v3_to, .int v3_ended, .int v3_next])), (a4, .inr (4, [.ref b4, .int (nI l4.length), .int o4])), (b4, .inl (kI, n4, .inl f4)), (a1, .inr (0, [.int v1_value_4, .int v1_held_4]))] := hD
            refine lv_if_eq (tgt := 124) hx hb d_Uncoder_unhexLine_105 (by decide) (fun c_6 => ?_) (fun c_6 => ?_)
            · rw [if_pos c_6] at hF
              refine lv_iinc (v := (i6 + 1)) (lv' := [(6, .int (i6 + 1)), (0, .ref a0), (1, .ref a4), (2, .ref a2), (3, .int i3), (4, .int i4), (5, .int i5)]) hx hb d_Uncoder_unhexLine_124 hl (k := 6) rfl rfl (by decide) rfl (fun ls hl => ?_)
              refine lv_goto (tgt := 46) hx hb d_Uncoder_unhexLine_127 (by decide) ?_
              exact ih46 i3 i4 i5 (i6 + 1) v1_value_4 v1_held_4 f2 l2 o2 hr2 _ _ _  (Nat.lt_of_lt_of_le (g_dec1 c_1) (Nat.le_of_lt_succ hn46)) hF (hP.sub [0, 6, 1, 2, 3, 4, 5] rfl) (hD.sub [0, 6, 1, 2, 3, 4, 5] (by decide) rfl) hS (lv_sub hl [1, 2, 3, 4, 5, 6, 0] rfl)
            · rw [if_neg c_6] at hF
              refine lv_aload_n hx hb d_Uncoder_unhexLine_108 rfl (lv_at hl 2 rfl) ?_
              refine lv_aload_n hx hb d_Uncoder_unhexLine_109 rfl (lv_at hl 0 rfl) ?_
              refine va_get (D := D) (ci := 5) (v := .ref a1) (C := "MailCharacters$Uncoder") (T := F_Uncoder) (N := 2) hx hb hts i_Uncoder hown hK hP 0 rfl rfl 0 (by decide) (hts _ k_160) (fun _ h9 => h9) rfl d_Uncoder_unhexLine_110 ?_
              refine lv_bipush (v := 8) hx hb d_Uncoder_unhexLine_113 (by decide) ?_
              refine g_Vi (As := [.int 8]) (rest := [.ref a2]) (wr := [(a0, .inr (5, [.ref a1, .ref a3])), (a2, .inr (4, [.ref b2, .int (nI l2.length), .int o2])), (b2, .inl (kI, n2, .inl f2)), (a3, .inr (2, [.int v3_from, .int v3_to, .int v3_ended, .int v3_next])), (a4, .inr (4, [.ref b4, .int (nI l4.length), .int o4])), (b4, .inl (kI, n4, .inl f4))]) ⟨hx, hb, hml, hown, hts⟩ (c_Bits_take l D Z kI a1 H.size v1_value_4 v1_held_4 8) (cw_Bits_take hts k_507 ⟨Nat.le_of_ble_eq_true rfl, Nat.le_of_ble_eq_true rfl⟩) hK hZ hP hD hS hA [6] [0, 1, 2, 3, 4, 5] (g_recv hK hP (ci := 0) (q0 := 6) rfl rfl) rfl rfl (by decide) (by decide) (by decide) rfl hl.1 rfl (Nat.le_of_ble_eq_true rfl) d_Uncoder_unhexLine_115 ⟨Nat.zero_le _, Nat.zero_le _⟩ (fun r_7 v4_held_7 H locs hw hP hD hS => ?_)
              have e_7 := hw
              have hP : va_P D vwCl [(a0, .inr (5, [.ref a1, .ref a3])), (a2, .inr (4, [.ref b2, .int (nI l2.length), .int o2])), (b2, .inl (kI, n2, .inl f2)), (a3, .inr (2, [.int v3_from, .int v3_to, .int v3_ended, .int v3_next])), (a4, .inr (4, [.ref b4, .int (nI l4.length), .int o4])), (b4, .inl (kI, n4, .inl f4)), (a1, .inr (0, [.int v1_value_4, .int v4_held_7]))] H := hP
              have hD : va_D A [(a0, .inr (5, [.ref a1, .ref a3])), (a2, .inr (4, [.ref b2, .int (nI l2.length), .int o2])), (b2, .inl (kI, n2, .inl f2)), (a3, .inr (2, [.int v3_from, .int v3_to, .int v3_ended, .int v3_next])), (a4, .inr (4, [.ref b4, .int (nI l4.length), .int o4])), (b4, .inl (kI, n4, .inl f4)), (a1, .inr (0, [.int v1_value_4, .int v4_held_7]))] := hD
              rw [e_7] at hF; dsimp only at hF
              refine g_Vv (As := [.int r_7]) (rest := []) (wr := [(a0, .inr (5, [.ref a1, .ref a3])), (a3, .inr (2, [.int v3_from, .int v3_to, .int v3_ended, .int v3_next])), (a4, .inr (4, [.ref b4, .int (nI l4.length), .int o4])), (b4, .inl (kI, n4, .inl f4)), (a1, .inr (0, [.int v1_value_4, .int v4_held_7]))]) ⟨hx, hb, hml, hown, hts⟩ (c_Row_put l D Z kI a2 b2 n2 H.size f2 l2 o2 r_7 hr2) (cw_Row_put hts k_508 ⟨Nat.le_of_ble_eq_true rfl, Nat.le_of_ble_eq_true rfl⟩) hK hZ hP hD hS hA [1, 2] [0, 3, 4, 5, 6] (g_recv hK hP (ci := 4) (q0 := 1) rfl rfl) rfl rfl (by decide) (by decide) (by decide) rfl hl.1 rfl (Nat.le_of_ble_eq_true rfl) d_Uncoder_unhexLine_118 ⟨Nat.zero_le _, Nat.zero_le _⟩ (fun u_8 H locs hw hP hD hS => ?_)
              obtain ⟨f1_8, l1_8, o1_8⟩ := u_8
              have e_8 := hw.1
              have hr1_8 := hw.2
              have hP : va_P D vwCl [(a0, .inr (5, [.ref a1, .ref a3])), (a3, .inr (2, [.int v3_from, .int v3_to, .int v3_ended, .int v3_next])), (a4, .inr (4, [.ref b4, .int (nI l4.length), .int o4])), (b4, .inl (kI, n4, .inl f4)), (a1, .inr (0, [.int v1_value_4, .int v4_held_7])), (a2, .inr (4, [.ref b2, .int (nI l1_8.length), .int o1_8])), (b2, .inl (kI, n2, .inl f1_8))] H := hP
              have hD : va_D A [(a0, .inr (5, [.ref a1, .ref a3])), (a3, .inr (2, [.int v3_from, .int v3_to, .int v3_ended, .int v3_next])), (a4, .inr (4, [.ref b4, .int (nI l4.length), .int o4])), (b4, .inl (kI, n4, .inl f4)), (a1, .inr (0, [.int v1_value_4, .int v4_held_7])), (a2, .inr (4, [.ref b2, .int (nI l1_8.length), .int o1_8])), (b2, .inl (kI, n2, .inl f1_8))] := hD
              rw [e_8] at hF; dsimp only at hF
              refine lv_iinc (v := (i3 + (-1))) (lv' := [(3, .int (i3 + (-1))), (0, .ref a0), (1, .ref a4), (2, .ref a2), (4, .int i4), (5, .int i5), (6, .int i6)]) hx hb d_Uncoder_unhexLine_121 hl (k := 3) rfl rfl (by decide) rfl (fun ls hl => ?_)
              refine lv_iinc (v := (i6 + 1)) (lv' := [(6, .int (i6 + 1)), (3, .int (i3 + (-1))), (0, .ref a0), (1, .ref a4), (2, .ref a2), (4, .int i4), (5, .int i5)]) hx hb d_Uncoder_unhexLine_124 hl (k := 6) rfl rfl (by decide) rfl (fun ls hl => ?_)
              refine lv_goto (tgt := 46) hx hb d_Uncoder_unhexLine_127 (by decide) ?_
              exact ih46 (i3 + (-1)) i4 i5 (i6 + 1) v1_value_4 v4_held_7 f1_8 l1_8 o1_8 hr1_8 _ _ _  (Nat.lt_of_lt_of_le (g_dec1 c_1) (Nat.le_of_lt_succ hn46)) hF (hP.sub [0, 4, 5, 6, 1, 2, 3] rfl) (hD.sub [0, 4, 5, 6, 1, 2, 3] (by decide) rfl) hS (lv_sub hl [2, 3, 4, 1, 5, 6, 0] rfl)
          · rw [if_neg c_3] at hF
            refine lv_aload_n hx hb d_Uncoder_unhexLine_68 rfl (lv_at hl 1 rfl) ?_
            refine lv_aload_n hx hb d_Uncoder_unhexLine_69 rfl (lv_at hl 0 rfl) ?_
            refine va_get (D := D) (ci := 5) (v := .ref a3) (C := "MailCharacters$Uncoder") (T := F_Uncoder) (N := 2) hx hb hts i_Uncoder hown hK hP 0 rfl rfl 1 (by decide) (hts _ k_161) (fun _ h9 => h9) rfl d_Uncoder_unhexLine_70 ?_
            refine va_getN (D := D) (ci := 2) (v := .int v3_from) (C := "MailCharacters$Line") (T := F_Line) (N := 4) hx hb hts i_Line hown hK hP 4 rfl rfl 0 (by decide) (gZ_nf hZ 6 (q := ("MailCharacters$Uncoder", 93, "MailCharacters$Line", "from", "I")) rfl) (fun _ h9 => h9) rfl d_Uncoder_unhexLine_73 ?_
            refine lv_iconst (v := 1) hx hb d_Uncoder_unhexLine_76 (by decide) ?_
            refine lv_iadd hx hb d_Uncoder_unhexLine_77 ?_
            refine lv_iload hx hb d_Uncoder_unhexLine_78 (lv_at hl 6 rfl) ?_
            refine lv_iadd hx hb d_Uncoder_unhexLine_80 ?_
            refine g_Vi (As := [.int ((v3_from + 1) + i6)]) (rest := [.ref a1]) (wr := [(a0, .inr (5, [.ref a1, .ref a3])), (a1, .inr (0, [.int v1_value, .int v1_held])), (a2, .inr (4, [.ref b2, .int (nI l2.length), .int o2])), (b2, .inl (kI, n2, .inl f2)), (a3, .inr (2, [.int v3_from, .int v3_to, .int v3_ended, .int v3_next]))]) ⟨hx, hb, hml, hown, hts⟩ (c_Row_get l D Z kI a4 b4 n4 H.size f4 l4 o4 ((v3_from + 1) + i6) hr4) (cw_Row_get hts k_503 ⟨Nat.le_of_ble_eq_true rfl, Nat.le_of_ble_eq_true rfl⟩) hK hZ hP hD hS hA [5, 6] [0, 1, 2, 3, 4] (g_recv hK hP (ci := 4) (q0 := 5) rfl rfl) rfl rfl (by decide) (by decide) (by decide) rfl hl.1 rfl (Nat.le_of_ble_eq_true rfl) d_Uncoder_unhexLine_81 ⟨Nat.zero_le _, Nat.zero_le _⟩ (fun r_9 u_9 H locs hw hP hD hS => ?_)
            have e_9 := hw
            subst e_9
            have hP : va_P D vwCl [(a0, .inr (5, [.ref a1, .ref a3])), (a1, .inr (0, [.int v1_value, .int v1_held])), (a2, .inr (4, [.ref b2, .int (nI l2.length), .int o2])), (b2, .inl (kI, n2, .inl f2)), (a3, .inr (2, [.int v3_from, .int v3_to, .int v3_ended, .int v3_next])), (a4, .inr (4, [.ref b4, .int (nI l4.length), .int o4])), (b4, .inl (kI, n4, .inl f4))] H := hP
            have hD : va_D A [(a0, .inr (5, [.ref a1, .ref a3])), (a1, .inr (0, [.int v1_value, .int v1_held])), (a2, .inr (4, [.ref b2, .int (nI l2.length), .int o2])), (b2, .inl (kI, n2, .inl f2)), (a3, .inr (2, [.int v3_from, .int v3_to, .int v3_ended, .int v3_next])), (a4, .inr (4, [.ref b4, .int (nI l4.length), .int o4])), (b4, .inl (kI, n4, .inl f4))] := hD
            refine g_Si (As := [.int (m_Row_get l4 ((v3_from + 1) + i6))]) (rest := [.ref a1]) (wr := [(a0, .inr (5, [.ref a1, .ref a3])), (a1, .inr (0, [.int v1_value, .int v1_held])), (a2, .inr (4, [.ref b2, .int (nI l2.length), .int o2])), (b2, .inl (kI, n2, .inl f2)), (a3, .inr (2, [.int v3_from, .int v3_to, .int v3_ended, .int v3_next])), (a4, .inr (4, [.ref b4, .int (nI l4.length), .int o4])), (b4, .inl (kI, n4, .inl f4))]) ⟨hx, hb, hml, hown, hts⟩ (c_Uncoder_hexValue l D Z kI H.size (m_Row_get l4 ((v3_from + 1) + i6))) (cw_Uncoder_hexValue hts k_650 ⟨Nat.le_of_ble_eq_true rfl, Nat.le_of_ble_eq_true rfl⟩) hK hZ hP hD hS hA [] [0, 1, 2, 3, 4, 5, 6] rfl rfl (by decide) (by decide) (by decide) rfl hl.1 rfl (Nat.le_of_ble_eq_true rfl) d_Uncoder_unhexLine_84 ⟨Nat.zero_le _, Nat.zero_le _⟩ (fun r_10 u_10 H locs hw hP hD hS => ?_)
            have e_10 := hw
            subst e_10
            have hP : va_P D vwCl [(a0, .inr (5, [.ref a1, .ref a3])), (a1, .inr (0, [.int v1_value, .int v1_held])), (a2, .inr (4, [.ref b2, .int (nI l2.length), .int o2])), (b2, .inl (kI, n2, .inl f2)), (a3, .inr (2, [.int v3_from, .int v3_to, .int v3_ended, .int v3_next])), (a4, .inr (4, [.ref b4, .int (nI l4.length), .int o4])), (b4, .inl (kI, n4, .inl f4))] H := hP
            have hD : va_D A [(a0, .inr (5, [.ref a1, .ref a3])), (a1, .inr (0, [.int v1_value, .int v1_held])), (a2, .inr (4, [.ref b2, .int (nI l2.length), .int o2])), (b2, .inl (kI, n2, .inl f2)), (a3, .inr (2, [.int v3_from, .int v3_to, .int v3_ended, .int v3_next])), (a4, .inr (4, [.ref b4, .int (nI l4.length), .int o4])), (b4, .inl (kI, n4, .inl f4))] := hD
            refine lv_goto (tgt := 91) hx hb d_Uncoder_unhexLine_87 (by decide) ?_
            refine lv_bipush (v := 6) hx hb d_Uncoder_unhexLine_91 (by decide) ?_
            refine g_Vv (As := [.int (m_Uncoder_hexValue (m_Row_get l4 ((v3_from + 1) + i6))), .int 6]) (rest := []) (wr := [(a0, .inr (5, [.ref a1, .ref a3])), (a2, .inr (4, [.ref b2, .int (nI l2.length), .int o2])), (b2, .inl (kI, n2, .inl f2)), (a3, .inr (2, [.int v3_from, .int v3_to, .int v3_ended, .int v3_next])), (a4, .inr (4, [.ref b4, .int (nI l4.length), .int o4])), (b4, .inl (kI, n4, .inl f4))]) ⟨hx, hb, hml, hown, hts⟩ (c_Bits_add l D Z kI a1 H.size v1_value v1_held (m_Uncoder_hexValue (m_Row_get l4 ((v3_from + 1) + i6))) 6) (cw_Bits_add hts k_505 ⟨Nat.le_of_ble_eq_true rfl, Nat.le_of_ble_eq_true rfl⟩) hK hZ hP hD hS hA [1] [0, 2, 3, 4, 5, 6] (g_recv hK hP (ci := 0) (q0 := 1) rfl rfl) rfl rfl (by decide) (by decide) (by decide) rfl hl.1 rfl (Nat.le_of_ble_eq_true rfl) d_Uncoder_unhexLine_93 ⟨Nat.zero_le _, Nat.zero_le _⟩ (fun u_11 H locs hw hP hD hS => ?_)
            obtain ⟨v1_value_11, v1_held_11⟩ := u_11
            have e_11 := hw
            have hP : va_P D vwCl [(a0, .inr (5, [.ref a1, .ref a3])), (a2, .inr (4, [.ref b2, .int (nI l2.length), .int o2])), (b2, .inl (kI, n2, .inl f2)), (a3, .inr (2, [.int v3_from, .int v3_to, .int v3_ended, .int v3_next])), (a4, .inr (4, [.ref b4, .int (nI l4.length), .int o4])), (b4, .inl (kI, n4, .inl f4)), (a1, .inr (0, [.int v1_value_11, .int v1_held_11]))] H := hP
            have hD : va_D A [(a0, .inr (5, [.ref a1, .ref a3])), (a2, .inr (4, [.ref b2, .int (nI l2.length), .int o2])), (b2, .inl (kI, n2, .inl f2)), (a3, .inr (2, [.int v3_from, .int v3_to, .int v3_ended, .int v3_next])), (a4, .inr (4, [.ref b4, .int (nI l4.length), .int o4])), (b4, .inl (kI, n4, .inl f4)), (a1, .inr (0, [.int v1_value_11, .int v1_held_11]))] := hD
            rw [e_11] at hF; dsimp only at hF
            refine lv_aload_n hx hb d_Uncoder_unhexLine_96 rfl (lv_at hl 0 rfl) ?_
            refine va_get (D := D) (ci := 5) (v := .ref a1) (C := "MailCharacters$Uncoder") (T := F_Uncoder) (N := 2) hx hb hts i_Uncoder hown hK hP 0 rfl rfl 0 (by decide) (hts _ k_160) (fun _ h9 => h9) rfl d_Uncoder_unhexLine_97 ?_
            refine lv_bipush (v := 8) hx hb d_Uncoder_unhexLine_100 (by decide) ?_
            refine g_Vi (As := [.int 8]) (rest := []) (wr := [(a0, .inr (5, [.ref a1, .ref a3])), (a2, .inr (4, [.ref b2, .int (nI l2.length), .int o2])), (b2, .inl (kI, n2, .inl f2)), (a3, .inr (2, [.int v3_from, .int v3_to, .int v3_ended, .int v3_next])), (a4, .inr (4, [.ref b4, .int (nI l4.length), .int o4])), (b4, .inl (kI, n4, .inl f4))]) ⟨hx, hb, hml, hown, hts⟩ (c_Bits_has l D Z kI a1 H.size v1_value_11 v1_held_11 8) (cw_Bits_has hts k_506 ⟨Nat.le_of_ble_eq_true rfl, Nat.le_of_ble_eq_true rfl⟩) hK hZ hP hD hS hA [6] [0, 1, 2, 3, 4, 5] (g_recv hK hP (ci := 0) (q0 := 6) rfl rfl) rfl rfl (by decide) (by decide) (by decide) rfl hl.1 rfl (Nat.le_of_ble_eq_true rfl) d_Uncoder_unhexLine_102 ⟨Nat.zero_le _, Nat.zero_le _⟩ (fun r_12 u_12 H locs hw hP hD hS => ?_)
            have e_12 := hw
            subst e_12
            have hP : va_P D vwCl [(a0, .inr (5, [.ref a1, .ref a3])), (a2, .inr (4, [.ref b2, .int (nI l2.length), .int o2])), (b2, .inl (kI, n2, .inl f2)), (a3, .inr (2, [.int v3_from, .int v3_to, .int v3_ended, .int v3_next])), (a4, .inr (4, [.ref b4, .int (nI l4.length), .int o4])), (b4, .inl (kI, n4, .inl f4)), (a1, .inr (0, [.int v1_value_11, .int v1_held_11]))] H := hP
            have hD : va_D A [(a0, .inr (5, [.ref a1, .ref a3])), (a2, .inr (4, [.ref b2, .int (nI l2.length), .int o2])), (b2, .inl (kI, n2, .inl f2)), (a3, .inr (2, [.int v3_from, .int v3_to, .int v3_ended, .int v3_next])), (a4, .inr (4, [.ref b4, .int (nI l4.length), .int o4])), (b4, .inl (kI, n4, .inl f4)), (a1, .inr (0, [.int v1_value_11, .int v1_held_11]))] := hD
            refine lv_if_eq (tgt := 124) hx hb d_Uncoder_unhexLine_105 (by decide) (fun c_13 => ?_) (fun c_13 => ?_)
            · rw [if_pos c_13] at hF
              refine lv_iinc (v := (i6 + 1)) (lv' := [(6, .int (i6 + 1)), (0, .ref a0), (1, .ref a4), (2, .ref a2), (3, .int i3), (4, .int i4), (5, .int i5)]) hx hb d_Uncoder_unhexLine_124 hl (k := 6) rfl rfl (by decide) rfl (fun ls hl => ?_)
              refine lv_goto (tgt := 46) hx hb d_Uncoder_unhexLine_127 (by decide) ?_
              exact ih46 i3 i4 i5 (i6 + 1) v1_value_11 v1_held_11 f2 l2 o2 hr2 _ _ _  (Nat.lt_of_lt_of_le (g_dec1 c_1) (Nat.le_of_lt_succ hn46)) hF (hP.sub [0, 6, 1, 2, 3, 4, 5] rfl) (hD.sub [0, 6, 1, 2, 3, 4, 5] (by decide) rfl) hS (lv_sub hl [1, 2, 3, 4, 5, 6, 0] rfl)
            · rw [if_neg c_13] at hF
              refine lv_aload_n hx hb d_Uncoder_unhexLine_108 rfl (lv_at hl 2 rfl) ?_
              refine lv_aload_n hx hb d_Uncoder_unhexLine_109 rfl (lv_at hl 0 rfl) ?_
              refine va_get (D := D) (ci := 5) (v := .ref a1) (C := "MailCharacters$Uncoder") (T := F_Uncoder) (N := 2) hx hb hts i_Uncoder hown hK hP 0 rfl rfl 0 (by decide) (hts _ k_160) (fun _ h9 => h9) rfl d_Uncoder_unhexLine_110 ?_
              refine lv_bipush (v := 8) hx hb d_Uncoder_unhexLine_113 (by decide) ?_
              refine g_Vi (As := [.int 8]) (rest := [.ref a2]) (wr := [(a0, .inr (5, [.ref a1, .ref a3])), (a2, .inr (4, [.ref b2, .int (nI l2.length), .int o2])), (b2, .inl (kI, n2, .inl f2)), (a3, .inr (2, [.int v3_from, .int v3_to, .int v3_ended, .int v3_next])), (a4, .inr (4, [.ref b4, .int (nI l4.length), .int o4])), (b4, .inl (kI, n4, .inl f4))]) ⟨hx, hb, hml, hown, hts⟩ (c_Bits_take l D Z kI a1 H.size v1_value_11 v1_held_11 8) (cw_Bits_take hts k_507 ⟨Nat.le_of_ble_eq_true rfl, Nat.le_of_ble_eq_true rfl⟩) hK hZ hP hD hS hA [6] [0, 1, 2, 3, 4, 5] (g_recv hK hP (ci := 0) (q0 := 6) rfl rfl) rfl rfl (by decide) (by decide) (by decide) rfl hl.1 rfl (Nat.le_of_ble_eq_true rfl) d_Uncoder_unhexLine_115 ⟨Nat.zero_le _, Nat.zero_le _⟩ (fun r_14 v4_held_14 H locs hw hP hD hS => ?_)
              have e_14 := hw
              have hP : va_P D vwCl [(a0, .inr (5, [.ref a1, .ref a3])), (a2, .inr (4, [.ref b2, .int (nI l2.length), .int o2])), (b2, .inl (kI, n2, .inl f2)), (a3, .inr (2, [.int v3_from, .int v3_to, .int v3_ended, .int v3_next])), (a4, .inr (4, [.ref b4, .int (nI l4.length), .int o4])), (b4, .inl (kI, n4, .inl f4)), (a1, .inr (0, [.int v1_value_11, .int v4_held_14]))] H := hP
              have hD : va_D A [(a0, .inr (5, [.ref a1, .ref a3])), (a2, .inr (4, [.ref b2, .int (nI l2.length), .int o2])), (b2, .inl (kI, n2, .inl f2)), (a3, .inr (2, [.int v3_from, .int v3_to, .int v3_ended, .int v3_next])), (a4, .inr (4, [.ref b4, .int (nI l4.length), .int o4])), (b4, .inl (kI, n4, .inl f4)), (a1, .inr (0, [.int v1_value_11, .int v4_held_14]))] := hD
              rw [e_14] at hF; dsimp only at hF
              refine g_Vv (As := [.int r_14]) (rest := []) (wr := [(a0, .inr (5, [.ref a1, .ref a3])), (a3, .inr (2, [.int v3_from, .int v3_to, .int v3_ended, .int v3_next])), (a4, .inr (4, [.ref b4, .int (nI l4.length), .int o4])), (b4, .inl (kI, n4, .inl f4)), (a1, .inr (0, [.int v1_value_11, .int v4_held_14]))]) ⟨hx, hb, hml, hown, hts⟩ (c_Row_put l D Z kI a2 b2 n2 H.size f2 l2 o2 r_14 hr2) (cw_Row_put hts k_508 ⟨Nat.le_of_ble_eq_true rfl, Nat.le_of_ble_eq_true rfl⟩) hK hZ hP hD hS hA [1, 2] [0, 3, 4, 5, 6] (g_recv hK hP (ci := 4) (q0 := 1) rfl rfl) rfl rfl (by decide) (by decide) (by decide) rfl hl.1 rfl (Nat.le_of_ble_eq_true rfl) d_Uncoder_unhexLine_118 ⟨Nat.zero_le _, Nat.zero_le _⟩ (fun u_15 H locs hw hP hD hS => ?_)
              obtain ⟨f1_15, l1_15, o1_15⟩ := u_15
              have e_15 := hw.1
              have hr1_15 := hw.2
              have hP : va_P D vwCl [(a0, .inr (5, [.ref a1, .ref a3])), (a3, .inr (2, [.int v3_from, .int v3_to, .int v3_ended, .int v3_next])), (a4, .inr (4, [.ref b4, .int (nI l4.length), .int o4])), (b4, .inl (kI, n4, .inl f4)), (a1, .inr (0, [.int v1_value_11, .int v4_held_14])), (a2, .inr (4, [.ref b2, .int (nI l1_15.length), .int o1_15])), (b2, .inl (kI, n2, .inl f1_15))] H := hP
              have hD : va_D A [(a0, .inr (5, [.ref a1, .ref a3])), (a3, .inr (2, [.int v3_from, .int v3_to, .int v3_ended, .int v3_next])), (a4, .inr (4, [.ref b4, .int (nI l4.length), .int o4])), (b4, .inl (kI, n4, .inl f4)), (a1, .inr (0, [.int v1_value_11, .int v4_held_14])), (a2, .inr (4, [.ref b2, .int (nI l1_15.length), .int o1_15])), (b2, .inl (kI, n2, .inl f1_15))] := hD
              rw [e_15] at hF; dsimp only at hF
              refine lv_iinc (v := (i3 + (-1))) (lv' := [(3, .int (i3 + (-1))), (0, .ref a0), (1, .ref a4), (2, .ref a2), (4, .int i4), (5, .int i5), (6, .int i6)]) hx hb d_Uncoder_unhexLine_121 hl (k := 3) rfl rfl (by decide) rfl (fun ls hl => ?_)
              refine lv_iinc (v := (i6 + 1)) (lv' := [(6, .int (i6 + 1)), (3, .int (i3 + (-1))), (0, .ref a0), (1, .ref a4), (2, .ref a2), (4, .int i4), (5, .int i5)]) hx hb d_Uncoder_unhexLine_124 hl (k := 6) rfl rfl (by decide) rfl (fun ls hl => ?_)
              refine lv_goto (tgt := 46) hx hb d_Uncoder_unhexLine_127 (by decide) ?_
              exact ih46 (i3 + (-1)) i4 i5 (i6 + 1) v1_value_11 v4_held_14 f1_15 l1_15 o1_15 hr1_15 _ _ _  (Nat.lt_of_lt_of_le (g_dec1 c_1) (Nat.le_of_lt_succ hn46)) hF (hP.sub [0, 4, 5, 6, 1, 2, 3] rfl) (hD.sub [0, 4, 5, 6, 1, 2, 3] (by decide) rfl) hS (lv_sub hl [2, 3, 4, 1, 5, 6, 0] rfl)
  have hF := hRES
  rw [m_Uncoder_unhexLine] at hF
  refine lv_aload_n hx hb d_Uncoder_unhexLine_0 rfl (lv_at hl 1 rfl) ?_
  refine lv_aload_n hx hb d_Uncoder_unhexLine_1 rfl (lv_at hl 0 rfl) ?_
  refine va_get (D := D) (ci := 5) (v := .ref a3) (C := "MailCharacters$Uncoder") (T := F_Uncoder) (N := 2) hx hb hts i_Uncoder hown hK hP 0 rfl rfl 1 (by decide) (hts _ k_161) (fun _ h9 => h9) rfl d_Uncoder_unhexLine_2 ?_
  refine va_getN (D := D) (ci := 2) (v := .int v3_from) (C := "MailCharacters$Line") (T := F_Line) (N := 4) hx hb hts i_Line hown hK hP 4 rfl rfl 0 (by decide) (gZ_nf hZ 6 (q := ("MailCharacters$Uncoder", 93, "MailCharacters$Line", "from", "I")) rfl) (fun _ h9 => h9) rfl d_Uncoder_unhexLine_5 ?_
  refine g_Vi (As := [.int v3_from]) (rest := []) (wr := [(a0, .inr (5, [.ref a1, .ref a3])), (a1, .inr (0, [.int v1_value, .int v1_held])), (a2, .inr (4, [.ref b2, .int (nI l2.length), .int o2])), (b2, .inl (kI, n2, .inl f2)), (a3, .inr (2, [.int v3_from, .int v3_to, .int v3_ended, .int v3_next]))]) ⟨hx, hb, hml, hown, hts⟩ (c_Row_get l D Z kI a4 b4 n4 H.size f4 l4 o4 v3_from hr4) (cw_Row_get hts k_503 ⟨Nat.le_of_ble_eq_true rfl, Nat.le_of_ble_eq_true rfl⟩) hK hZ hP hD hS hA [5, 6] [0, 1, 2, 3, 4] (g_recv hK hP (ci := 4) (q0 := 5) rfl rfl) rfl rfl (by decide) (by decide) (by decide) rfl hl.1 rfl (Nat.le_of_ble_eq_true rfl) d_Uncoder_unhexLine_8 ⟨Nat.zero_le _, Nat.zero_le _⟩ (fun r_16 u_16 H locs hw hP hD hS => ?_)
  have e_16 := hw
  subst e_16
  have hP : va_P D vwCl [(a0, .inr (5, [.ref a1, .ref a3])), (a1, .inr (0, [.int v1_value, .int v1_held])), (a2, .inr (4, [.ref b2, .int (nI l2.length), .int o2])), (b2, .inl (kI, n2, .inl f2)), (a3, .inr (2, [.int v3_from, .int v3_to, .int v3_ended, .int v3_next])), (a4, .inr (4, [.ref b4, .int (nI l4.length), .int o4])), (b4, .inl (kI, n4, .inl f4))] H := hP
  have hD : va_D A [(a0, .inr (5, [.ref a1, .ref a3])), (a1, .inr (0, [.int v1_value, .int v1_held])), (a2, .inr (4, [.ref b2, .int (nI l2.length), .int o2])), (b2, .inl (kI, n2, .inl f2)), (a3, .inr (2, [.int v3_from, .int v3_to, .int v3_ended, .int v3_next])), (a4, .inr (4, [.ref b4, .int (nI l4.length), .int o4])), (b4, .inl (kI, n4, .inl f4))] := hD
  refine g_Si (As := [.int (m_Row_get l4 v3_from)]) (rest := []) (wr := [(a0, .inr (5, [.ref a1, .ref a3])), (a1, .inr (0, [.int v1_value, .int v1_held])), (a2, .inr (4, [.ref b2, .int (nI l2.length), .int o2])), (b2, .inl (kI, n2, .inl f2)), (a3, .inr (2, [.int v3_from, .int v3_to, .int v3_ended, .int v3_next])), (a4, .inr (4, [.ref b4, .int (nI l4.length), .int o4])), (b4, .inl (kI, n4, .inl f4))]) ⟨hx, hb, hml, hown, hts⟩ (c_Uncoder_hexValue l D Z kI H.size (m_Row_get l4 v3_from)) (cw_Uncoder_hexValue hts k_650 ⟨Nat.le_of_ble_eq_true rfl, Nat.le_of_ble_eq_true rfl⟩) hK hZ hP hD hS hA [] [0, 1, 2, 3, 4, 5, 6] rfl rfl (by decide) (by decide) (by decide) rfl hl.1 rfl (Nat.le_of_ble_eq_true rfl) d_Uncoder_unhexLine_11 ⟨Nat.zero_le _, Nat.zero_le _⟩ (fun r_17 u_17 H locs hw hP hD hS => ?_)
  have e_17 := hw
  subst e_17
  have hP : va_P D vwCl [(a0, .inr (5, [.ref a1, .ref a3])), (a1, .inr (0, [.int v1_value, .int v1_held])), (a2, .inr (4, [.ref b2, .int (nI l2.length), .int o2])), (b2, .inl (kI, n2, .inl f2)), (a3, .inr (2, [.int v3_from, .int v3_to, .int v3_ended, .int v3_next])), (a4, .inr (4, [.ref b4, .int (nI l4.length), .int o4])), (b4, .inl (kI, n4, .inl f4))] H := hP
  have hD : va_D A [(a0, .inr (5, [.ref a1, .ref a3])), (a1, .inr (0, [.int v1_value, .int v1_held])), (a2, .inr (4, [.ref b2, .int (nI l2.length), .int o2])), (b2, .inl (kI, n2, .inl f2)), (a3, .inr (2, [.int v3_from, .int v3_to, .int v3_ended, .int v3_next])), (a4, .inr (4, [.ref b4, .int (nI l4.length), .int o4])), (b4, .inl (kI, n4, .inl f4))] := hD
  refine lv_istore_n (lv' := [(3, .int (m_Uncoder_hexValue (m_Row_get l4 v3_from))), (0, .ref a0), (1, .ref a4), (2, .ref a2)]) hx hb d_Uncoder_unhexLine_14 rfl hl (by decide) rfl (fun ls hl => ?_)
  refine lv_aload_n hx hb d_Uncoder_unhexLine_15 rfl (lv_at hl 1 rfl) ?_
  refine va_get (D := D) (ci := 5) (v := .ref a3) (C := "MailCharacters$Uncoder") (T := F_Uncoder) (N := 2) hx hb hts i_Uncoder hown hK hP 0 rfl rfl 1 (by decide) (hts _ k_161) (fun _ h9 => h9) rfl d_Uncoder_unhexLine_16 ?_
  refine g_Vi (As := []) (rest := []) (wr := [(a0, .inr (5, [.ref a1, .ref a3])), (a1, .inr (0, [.int v1_value, .int v1_held])), (a2, .inr (4, [.ref b2, .int (nI l2.length), .int o2])), (b2, .inl (kI, n2, .inl f2)), (a4, .inr (4, [.ref b4, .int (nI l4.length), .int o4])), (b4, .inl (kI, n4, .inl f4))]) ⟨hx, hb, hml, hown, hts⟩ (c_Line_length l D Z kI a3 H.size v3_from v3_to v3_ended v3_next) (cw_Line_length hts k_633 ⟨Nat.le_of_ble_eq_true rfl, Nat.le_of_ble_eq_true rfl⟩) hK hZ hP hD hS hA [4] [0, 1, 2, 3, 5, 6] (g_recv hK hP (ci := 2) (q0 := 4) rfl rfl) rfl rfl (by decide) (by decide) (by decide) rfl hl.1 rfl (Nat.le_of_ble_eq_true rfl) d_Uncoder_unhexLine_19 ⟨Nat.zero_le _, Nat.zero_le _⟩ (fun r_18 u_18 H locs hw hP hD hS => ?_)
  have e_18 := hw
  subst e_18
  have hP : va_P D vwCl [(a0, .inr (5, [.ref a1, .ref a3])), (a1, .inr (0, [.int v1_value, .int v1_held])), (a2, .inr (4, [.ref b2, .int (nI l2.length), .int o2])), (b2, .inl (kI, n2, .inl f2)), (a4, .inr (4, [.ref b4, .int (nI l4.length), .int o4])), (b4, .inl (kI, n4, .inl f4)), (a3, .inr (2, [.int v3_from, .int v3_to, .int v3_ended, .int v3_next]))] H := hP
  have hD : va_D A [(a0, .inr (5, [.ref a1, .ref a3])), (a1, .inr (0, [.int v1_value, .int v1_held])), (a2, .inr (4, [.ref b2, .int (nI l2.length), .int o2])), (b2, .inl (kI, n2, .inl f2)), (a4, .inr (4, [.ref b4, .int (nI l4.length), .int o4])), (b4, .inl (kI, n4, .inl f4)), (a3, .inr (2, [.int v3_from, .int v3_to, .int v3_ended, .int v3_next]))] := hD
  refine lv_iconst (v := 1) hx hb d_Uncoder_unhexLine_22 (by decide) ?_
  refine lv_isub hx hb d_Uncoder_unhexLine_23 ?_
  refine lv_istore (lv' := [(4, .int ((m_Line_length v3_from v3_to) - 1)), (3, .int (m_Uncoder_hexValue (m_Row_get l4 v3_from))), (0, .ref a0), (1, .ref a4), (2, .ref a2)]) hx hb d_Uncoder_unhexLine_24 hl (by decide) rfl (fun ls hl => ?_)
  refine lv_iload hx hb d_Uncoder_unhexLine_26 (lv_at hl 0 rfl) ?_
  refine lv_iconst (v := 3) hx hb d_Uncoder_unhexLine_28 (by decide) ?_
  refine lv_iadd hx hb d_Uncoder_unhexLine_29 ?_
  refine lv_iconst (v := 4) hx hb d_Uncoder_unhexLine_30 (by decide) ?_
  refine lv_idiv hx hb d_Uncoder_unhexLine_31 (by decide) ?_
  refine lv_iconst (v := 4) hx hb d_Uncoder_unhexLine_32 (by decide) ?_
  refine lv_imul hx hb d_Uncoder_unhexLine_33 ?_
  refine lv_istore (lv' := [(5, .int (((((m_Line_length v3_from v3_to) - 1) + 3) / 4) * 4)), (4, .int ((m_Line_length v3_from v3_to) - 1)), (3, .int (m_Uncoder_hexValue (m_Row_get l4 v3_from))), (0, .ref a0), (1, .ref a4), (2, .ref a2)]) hx hb d_Uncoder_unhexLine_34 hl (by decide) rfl (fun ls hl => ?_)
  refine lv_aload_n hx hb d_Uncoder_unhexLine_36 rfl (lv_at hl 3 rfl) ?_
  refine va_get (D := D) (ci := 5) (v := .ref a1) (C := "MailCharacters$Uncoder") (T := F_Uncoder) (N := 2) hx hb hts i_Uncoder hown hK hP 0 rfl rfl 0 (by decide) (hts _ k_160) (fun _ h9 => h9) rfl d_Uncoder_unhexLine_37 ?_
  refine g_Vv (As := []) (rest := []) (wr := [(a0, .inr (5, [.ref a1, .ref a3])), (a2, .inr (4, [.ref b2, .int (nI l2.length), .int o2])), (b2, .inl (kI, n2, .inl f2)), (a4, .inr (4, [.ref b4, .int (nI l4.length), .int o4])), (b4, .inl (kI, n4, .inl f4)), (a3, .inr (2, [.int v3_from, .int v3_to, .int v3_ended, .int v3_next]))]) ⟨hx, hb, hml, hown, hts⟩ (c_Bits_clear l D Z kI a1 H.size v1_value v1_held) (cw_Bits_clear hts k_502 ⟨Nat.le_of_ble_eq_true rfl, Nat.le_of_ble_eq_true rfl⟩) hK hZ hP hD hS hA [1] [0, 2, 3, 4, 5, 6] (g_recv hK hP (ci := 0) (q0 := 1) rfl rfl) rfl rfl (by decide) (by decide) (by decide) rfl hl.1 rfl (Nat.le_of_ble_eq_true rfl) d_Uncoder_unhexLine_40 ⟨Nat.zero_le _, Nat.zero_le _⟩ (fun u_19 H locs hw hP hD hS => ?_)
  obtain ⟨v1_value_19, v1_held_19⟩ := u_19
  have e_19 := hw
  have hP : va_P D vwCl [(a0, .inr (5, [.ref a1, .ref a3])), (a2, .inr (4, [.ref b2, .int (nI l2.length), .int o2])), (b2, .inl (kI, n2, .inl f2)), (a4, .inr (4, [.ref b4, .int (nI l4.length), .int o4])), (b4, .inl (kI, n4, .inl f4)), (a3, .inr (2, [.int v3_from, .int v3_to, .int v3_ended, .int v3_next])), (a1, .inr (0, [.int v1_value_19, .int v1_held_19]))] H := hP
  have hD : va_D A [(a0, .inr (5, [.ref a1, .ref a3])), (a2, .inr (4, [.ref b2, .int (nI l2.length), .int o2])), (b2, .inl (kI, n2, .inl f2)), (a4, .inr (4, [.ref b4, .int (nI l4.length), .int o4])), (b4, .inl (kI, n4, .inl f4)), (a3, .inr (2, [.int v3_from, .int v3_to, .int v3_ended, .int v3_next])), (a1, .inr (0, [.int v1_value_19, .int v1_held_19]))] := hD
  rw [e_19] at hF; dsimp only at hF
  refine lv_iconst (v := 0) hx hb d_Uncoder_unhexLine_43 (by decide) ?_
  refine lv_istore (lv' := [(6, .int 0), (5, .int (((((m_Line_length v3_from v3_to) - 1) + 3) / 4) * 4)), (4, .int ((m_Line_length v3_from v3_to) - 1)), (3, .int (m_Uncoder_hexValue (m_Row_get l4 v3_from))), (0, .ref a0), (1, .ref a4), (2, .ref a2)]) hx hb d_Uncoder_unhexLine_44 hl (by decide) rfl (fun ls hl => ?_)
  exact lp46 (((((((m_Line_length v3_from v3_to) - 1) + 3) / 4) * 4).toInt - (0 : Int32).toInt).toNat + 1) (m_Uncoder_hexValue (m_Row_get l4 v3_from)) ((m_Line_length v3_from v3_to) - 1) (((((m_Line_length v3_from v3_to) - 1) + 3) / 4) * 4) 0 v1_value_19 v1_held_19 f2 l2 o2 hr2 _ _ _  (Nat.lt_succ_self _) hF (hP.sub [0, 6, 1, 2, 5, 3, 4] rfl) (hD.sub [0, 6, 1, 2, 5, 3, 4] (by decide) rfl) hS (lv_sub hl [4, 5, 6, 3, 2, 1, 0] rfl)
theorem cw_Uncoder_unhexLine {R : Room} {s : State} {args : Array Value} {own : String} {idx : Nat} (hts : ∀ w ∈ gW, w.before args s = true) (hl : Cond.methodLink own idx y_Uncoder_unhexLine ∈ gW) (hR : rm_Uncoder_unhexLine.frames + 1 ≤ R.frames ∧ 8 + (7 + 11) + rm_Uncoder_unhexLine.locals ≤ R.locals) : CallW R s args own "MailCharacters$Uncoder" idx y_Uncoder_unhexLine b_Uncoder_unhexLine 7 none w_Uncoder_unhexLine rm_Uncoder_unhexLine 0 0 2 := cwV 2 hts (gW_V hl k_655 k_14 k_70 k_656) rfl rfl rfl (by decide +kernel) hR
def m_MC_swapTapes : Unit :=
  ()
def rm_MC_swapTapes : Room := { frames := 0, cells := 0, slots := 0, locals := 0 }
set_option maxHeartbeats 4000000 in
set_option maxRecDepth 100000 in
theorem c_MC_swapTapes (l : Launch) (D : va_G) (Z : gZT) (kI : ClassId) (a0 : Nat) (x0_ready : Nat) (x0_text : Nat) (x0_uncoder : Nat) (x0_coder : Nat) (x0_reader : Nat) (x0_writer : Nat) (x0_word : Nat) (x0_tape : Nat) (x0_spare : Nat) (sz : Nat) : gMv l y_MC_swapTapes w_MC_swapTapes rm_MC_swapTapes D Z kI [.ref a0] sz [(a0, .inr (8, [.ref x0_ready, .ref x0_text, .ref x0_uncoder, .ref x0_coder, .ref x0_reader, .ref x0_writer, .ref x0_word, .ref x0_tape, .ref x0_spare]))] (fun (_u : Unit) => m_MC_swapTapes = ()) (fun (_u : Unit) => ([(a0, .inr (8, [.ref x0_ready, .ref x0_text, .ref x0_uncoder, .ref x0_coder, .ref x0_reader, .ref x0_writer, .ref x0_word, .ref x0_spare, .ref x0_tape]))] : va_W)) := by
  refine g_ofv (cc := b_MC_swapTapes) (maxL := 2) (by decide) rfl (Nat.le_of_ble_eq_true rfl) ?_
  intro p e s m below meth c A Q H ls hx hb hml hown hts hA hK hZ hP hD hS hl hret
  have hown : s.vm.findClass "MailCharacters" = some m.cls := hown
  have hl : lv_has ls 2 [(0, .ref a0)] := hl
  obtain ⟨RES, hRES⟩ : ∃ z, z = m_MC_swapTapes := ⟨_, rfl⟩
  have hF := hRES
  rw [m_MC_swapTapes] at hF
  refine lv_aload_n hx hb d_MC_swapTapes_0 rfl (lv_at hl 0 rfl) ?_
  refine va_get (D := D) (ci := 8) (v := .ref x0_tape) (C := "MailCharacters") (T := F_MC) (N := 9) hx hb hts i_MC hown hK hP 0 rfl rfl 7 (by decide) (hts _ k_243) (fun _ h9 => h9) rfl d_MC_swapTapes_1 ?_
  refine lv_astore_n (lv' := [(1, .ref x0_tape), (0, .ref a0)]) hx hb d_MC_swapTapes_4 rfl hl (by decide) rfl (fun ls hl => ?_)
  refine lv_aload_n hx hb d_MC_swapTapes_5 rfl (lv_at hl 1 rfl) ?_
  refine lv_aload_n hx hb d_MC_swapTapes_6 rfl (lv_at hl 1 rfl) ?_
  refine va_get (D := D) (ci := 8) (v := .ref x0_spare) (C := "MailCharacters") (T := F_MC) (N := 9) hx hb hts i_MC hown hK hP 0 rfl rfl 8 (by decide) (hts _ k_244) (fun _ h9 => h9) rfl d_MC_swapTapes_7 ?_
  refine va_put (D := D) (ci := 8) (v := .ref x0_spare) (ty := .object "MailCharacters$Row") (C := "MailCharacters") (T := F_MC) (N := 9) hx hb hts i_MC t_MC t_MC_ok n_MC hown hK hP hD hS 0 rfl rfl 7 (by decide) (hts _ k_243) (fun _ h9 => h9) rfl (by decide +kernel) rfl rfl (Nat.le_of_ble_eq_true rfl) d_MC_swapTapes_10 (fun H locs hP hD hS => ?_)
  have hP : va_P D vwCl [(a0, .inr (8, [.ref x0_ready, .ref x0_text, .ref x0_uncoder, .ref x0_coder, .ref x0_reader, .ref x0_writer, .ref x0_word, .ref x0_spare, .ref x0_spare]))] H := hP
  have hD : va_D A [(a0, .inr (8, [.ref x0_ready, .ref x0_text, .ref x0_uncoder, .ref x0_coder, .ref x0_reader, .ref x0_writer, .ref x0_word, .ref x0_spare, .ref x0_spare]))] := hD
  refine lv_aload_n hx hb d_MC_swapTapes_13 rfl (lv_at hl 1 rfl) ?_
  refine lv_aload_n hx hb d_MC_swapTapes_14 rfl (lv_at hl 0 rfl) ?_
  refine va_put (D := D) (ci := 8) (v := .ref x0_tape) (ty := .object "MailCharacters$Row") (C := "MailCharacters") (T := F_MC) (N := 9) hx hb hts i_MC t_MC t_MC_ok n_MC hown hK hP hD hS 0 rfl rfl 8 (by decide) (hts _ k_244) (fun _ h9 => h9) rfl (by decide +kernel) rfl rfl (Nat.le_of_ble_eq_true rfl) d_MC_swapTapes_15 (fun H locs hP hD hS => ?_)
  have hP : va_P D vwCl [(a0, .inr (8, [.ref x0_ready, .ref x0_text, .ref x0_uncoder, .ref x0_coder, .ref x0_reader, .ref x0_writer, .ref x0_word, .ref x0_spare, .ref x0_tape]))] H := hP
  have hD : va_D A [(a0, .inr (8, [.ref x0_ready, .ref x0_text, .ref x0_uncoder, .ref x0_coder, .ref x0_reader, .ref x0_writer, .ref x0_word, .ref x0_spare, .ref x0_tape]))] := hD
  exact hret () _ _ _ _ d_MC_swapTapes_18 (hRES.symm.trans hF) hP hD hS
theorem cw_MC_swapTapes {R : Room} {s : State} {args : Array Value} {own : String} {idx : Nat} (hts : ∀ w ∈ gW, w.before args s = true) (hl : Cond.methodLink own idx y_MC_swapTapes ∈ gW) (hR : rm_MC_swapTapes.frames + 1 ≤ R.frames ∧ 8 + (2 + 11) + rm_MC_swapTapes.locals ≤ R.locals) : CallW R s args own "MailCharacters" idx y_MC_swapTapes b_MC_swapTapes 2 none w_MC_swapTapes rm_MC_swapTapes 0 0 0 := cwV 0 hts (gW_V hl k_659 k_15 k_67 k_660) rfl rfl rfl (by decide +kernel) hR
def m_MC_isCharset (p0 : Int32) : Int32 :=
  if p0 < 0 then
    0
  else
    if 9 < p0 then
      0
    else
      1
def rm_MC_isCharset : Room := { frames := 0, cells := 0, slots := 0, locals := 0 }
set_option maxHeartbeats 4000000 in
set_option maxRecDepth 100000 in
theorem c_MC_isCharset (l : Launch) (D : va_G) (Z : gZT) (kI : ClassId) (sz : Nat) (p0 : Int32) : gMi l y_MC_isCharset w_MC_isCharset rm_MC_isCharset D Z kI [.int p0] sz [] (fun (r : Int32) (_u : Unit) => m_MC_isCharset p0 = r) (fun (_u : Unit) => ([] : va_W)) := by
  refine g_ofi (cc := b_MC_isCharset) (maxL := 1) (ty := .boolean) (by decide) rfl (Nat.le_of_ble_eq_true rfl) ?_
  intro p e s m below meth c A Q H ls hx hb hml hown hts hA hK hZ hP hD hS hl hret
  have hown : s.vm.findClass "MailCharacters" = some m.cls := hown
  have hl : lv_has ls 1 [(0, .int p0)] := hl
  obtain ⟨RES, hRES⟩ : ∃ z, z = m_MC_isCharset p0 := ⟨_, rfl⟩
  have hF := hRES
  rw [m_MC_isCharset] at hF
  refine lv_iload_n hx hb d_MC_isCharset_0 rfl (lv_at hl 0 rfl) ?_
  refine lv_if_lt (tgt := 14) hx hb d_MC_isCharset_1 (by decide) (fun c_1 => ?_) (fun c_1 => ?_)
  · rw [if_pos c_1] at hF
    refine lv_iconst (v := 0) hx hb d_MC_isCharset_14 (by decide) ?_
    exact hret 0 () _ _ _ _ d_MC_isCharset_15 rfl (hRES.symm.trans hF) hP hD hS
  · rw [if_neg c_1] at hF
    refine lv_iload_n hx hb d_MC_isCharset_4 rfl (lv_at hl 0 rfl) ?_
    refine lv_bipush (v := 9) hx hb d_MC_isCharset_5 (by decide) ?_
    refine lv_icmp_gt (tgt := 14) hx hb d_MC_isCharset_7 (by decide) (fun c_2 => ?_) (fun c_2 => ?_)
    · rw [if_pos c_2] at hF
      refine lv_iconst (v := 0) hx hb d_MC_isCharset_14 (by decide) ?_
      exact hret 0 () _ _ _ _ d_MC_isCharset_15 rfl (hRES.symm.trans hF) hP hD hS
    · rw [if_neg c_2] at hF
      refine lv_iconst (v := 1) hx hb d_MC_isCharset_10 (by decide) ?_
      refine lv_goto (tgt := 15) hx hb d_MC_isCharset_11 (by decide) ?_
      exact hret 1 () _ _ _ _ d_MC_isCharset_15 rfl (hRES.symm.trans hF) hP hD hS
theorem cw_MC_isCharset {R : Room} {s : State} {args : Array Value} {own : String} {idx : Nat} (hts : ∀ w ∈ gW, w.before args s = true) (hl : Cond.methodLink own idx y_MC_isCharset ∈ gW) (hR : rm_MC_isCharset.frames + 1 ≤ R.frames ∧ 8 + (1 + 11) + rm_MC_isCharset.locals ≤ R.locals) : CallB R s args own idx y_MC_isCharset b_MC_isCharset 1 (some .boolean) w_MC_isCharset rm_MC_isCharset 0 0 1 ∧ (Cond.static y_MC_isCharset).before args s = true := va_cwS 1 hts (gW_S hl k_669 k_67 k_670) rfl rfl rfl (by decide +kernel) hR
def m_Writer_goesInRun (p0 : Int32) : Int32 :=
  if p0 = 9 then
    0
  else
    if p0 = 10 then
      0
    else
      if p0 = 13 then
        0
      else
        if p0 < 32 then
          1
        else
          if 126 < p0 then
            1
          else
            if p0 = 92 then
              1
            else
              if p0 = 126 then
                1
              else
                0
def rm_Writer_goesInRun : Room := { frames := 0, cells := 0, slots := 0, locals := 0 }
set_option maxHeartbeats 4000000 in
set_option maxRecDepth 100000 in
theorem c_Writer_goesInRun (l : Launch) (D : va_G) (Z : gZT) (kI : ClassId) (sz : Nat) (p0 : Int32) : gMi l y_Writer_goesInRun w_Writer_goesInRun rm_Writer_goesInRun D Z kI [.int p0] sz [] (fun (r : Int32) (_u : Unit) => m_Writer_goesInRun p0 = r) (fun (_u : Unit) => ([] : va_W)) := by
  refine g_ofi (cc := b_Writer_goesInRun) (maxL := 1) (ty := .boolean) (by decide) rfl (Nat.le_of_ble_eq_true rfl) ?_
  intro p e s m below meth c A Q H ls hx hb hml hown hts hA hK hZ hP hD hS hl hret
  have hown : s.vm.findClass "MailCharacters$Writer" = some m.cls := hown
  have hl : lv_has ls 1 [(0, .int p0)] := hl
  obtain ⟨RES, hRES⟩ : ∃ z, z = m_Writer_goesInRun p0 := ⟨_, rfl⟩
  have hF := hRES
  rw [m_Writer_goesInRun] at hF
  refine lv_iload_n hx hb d_Writer_goesInRun_0 rfl (lv_at hl 0 rfl) ?_
  refine lv_bipush (v := 9) hx hb d_Writer_goesInRun_1 (by decide) ?_
  refine lv_icmp_eq (tgt := 18) hx hb d_Writer_goesInRun_3 (by decide) (fun c_1 => ?_) (fun c_1 => ?_)
  · rw [if_pos c_1] at hF
    refine lv_iconst (v := 0) hx hb d_Writer_goesInRun_18 (by decide) ?_
    exact hret 0 () _ _ _ _ d_Writer_goesInRun_19 rfl (hRES.symm.trans hF) hP hD hS
  · rw [if_neg c_1] at hF
    refine lv_iload_n hx hb d_Writer_goesInRun_6 rfl (lv_at hl 0 rfl) ?_
    refine lv_bipush (v := 10) hx hb d_Writer_goesInRun_7 (by decide) ?_
    refine lv_icmp_eq (tgt := 18) hx hb d_Writer_goesInRun_9 (by decide) (fun c_2 => ?_) (fun c_2 => ?_)
    · rw [if_pos c_2] at hF
      refine lv_iconst (v := 0) hx hb d_Writer_goesInRun_18 (by decide) ?_
      exact hret 0 () _ _ _ _ d_Writer_goesInRun_19 rfl (hRES.symm.trans hF) hP hD hS
    · rw [if_neg c_2] at hF
      refine lv_iload_n hx hb d_Writer_goesInRun_12 rfl (lv_at hl 0 rfl) ?_
      refine lv_bipush (v := 13) hx hb d_Writer_goesInRun_13 (by decide) ?_
      refine lv_icmp_ne (tgt := 20) hx hb d_Writer_goesInRun_15 (by decide) (fun c_3 => ?_) (fun c_3 => ?_)
      · rw [if_neg c_3] at hF
        refine lv_iload_n hx hb d_Writer_goesInRun_20 rfl (lv_at hl 0 rfl) ?_
        refine lv_bipush (v := 32) hx hb d_Writer_goesInRun_21 (by decide) ?_
        refine lv_icmp_lt (tgt := 44) hx hb d_Writer_goesInRun_23 (by decide) (fun c_4 => ?_) (fun c_4 => ?_)
        · rw [if_pos c_4] at hF
          refine lv_iconst (v := 1) hx hb d_Writer_goesInRun_44 (by decide) ?_
          refine lv_goto (tgt := 49) hx hb d_Writer_goesInRun_45 (by decide) ?_
          exact hret 1 () _ _ _ _ d_Writer_goesInRun_49 rfl (hRES.symm.trans hF) hP hD hS
        · rw [if_neg c_4] at hF
          refine lv_iload_n hx hb d_Writer_goesInRun_26 rfl (lv_at hl 0 rfl) ?_
          refine lv_bipush (v := 126) hx hb d_Writer_goesInRun_27 (by decide) ?_
          refine lv_icmp_gt (tgt := 44) hx hb d_Writer_goesInRun_29 (by decide) (fun c_5 => ?_) (fun c_5 => ?_)
          · rw [if_pos c_5] at hF
            refine lv_iconst (v := 1) hx hb d_Writer_goesInRun_44 (by decide) ?_
            refine lv_goto (tgt := 49) hx hb d_Writer_goesInRun_45 (by decide) ?_
            exact hret 1 () _ _ _ _ d_Writer_goesInRun_49 rfl (hRES.symm.trans hF) hP hD hS
          · rw [if_neg c_5] at hF
            refine lv_iload_n hx hb d_Writer_goesInRun_32 rfl (lv_at hl 0 rfl) ?_
            refine lv_bipush (v := 92) hx hb d_Writer_goesInRun_33 (by decide) ?_
            refine lv_icmp_eq (tgt := 44) hx hb d_Writer_goesInRun_35 (by decide) (fun c_6 => ?_) (fun c_6 => ?_)
            · rw [if_pos c_6] at hF
              refine lv_iconst (v := 1) hx hb d_Writer_goesInRun_44 (by decide) ?_
              refine lv_goto (tgt := 49) hx hb d_Writer_goesInRun_45 (by decide) ?_
              exact hret 1 () _ _ _ _ d_Writer_goesInRun_49 rfl (hRES.symm.trans hF) hP hD hS
            · rw [if_neg c_6] at hF
              refine lv_iload_n hx hb d_Writer_goesInRun_38 rfl (lv_at hl 0 rfl) ?_
              refine lv_bipush (v := 126) hx hb d_Writer_goesInRun_39 (by decide) ?_
              refine lv_icmp_ne (tgt := 48) hx hb d_Writer_goesInRun_41 (by decide) (fun c_7 => ?_) (fun c_7 => ?_)
              · rw [if_neg c_7] at hF
                refine lv_iconst (v := 0) hx hb d_Writer_goesInRun_48 (by decide) ?_
                exact hret 0 () _ _ _ _ d_Writer_goesInRun_49 rfl (hRES.symm.trans hF) hP hD hS
              · rw [if_pos c_7] at hF
                refine lv_iconst (v := 1) hx hb d_Writer_goesInRun_44 (by decide) ?_
                refine lv_goto (tgt := 49) hx hb d_Writer_goesInRun_45 (by decide) ?_
                exact hret 1 () _ _ _ _ d_Writer_goesInRun_49 rfl (hRES.symm.trans hF) hP hD hS
      · rw [if_pos c_3] at hF
        refine lv_iconst (v := 0) hx hb d_Writer_goesInRun_18 (by decide) ?_
        exact hret 0 () _ _ _ _ d_Writer_goesInRun_19 rfl (hRES.symm.trans hF) hP hD hS
theorem cw_Writer_goesInRun {R : Room} {s : State} {args : Array Value} {own : String} {idx : Nat} (hts : ∀ w ∈ gW, w.before args s = true) (hl : Cond.methodLink own idx y_Writer_goesInRun ∈ gW) (hR : rm_Writer_goesInRun.frames + 1 ≤ R.frames ∧ 8 + (1 + 11) + rm_Writer_goesInRun.locals ≤ R.locals) : CallB R s args own idx y_Writer_goesInRun b_Writer_goesInRun 1 (some .boolean) w_Writer_goesInRun rm_Writer_goesInRun 0 0 1 ∧ (Cond.static y_Writer_goesInRun).before args s = true := va_cwS 1 hts (gW_S hl k_693 k_75 k_694) rfl rfl rfl (by decide +kernel) hR
def m_Writer_unitsOf (p0 : Int32) : Int32 :=
  if 65536 ≤ p0 then
    2
  else
    1
def rm_Writer_unitsOf : Room := { frames := 0, cells := 0, slots := 0, locals := 0 }
set_option maxHeartbeats 4000000 in
set_option maxRecDepth 100000 in
theorem c_Writer_unitsOf (l : Launch) (D : va_G) (Z : gZT) (kI : ClassId) (sz : Nat) (p0 : Int32) : gMi l y_Writer_unitsOf w_Writer_unitsOf rm_Writer_unitsOf D Z kI [.int p0] sz [] (fun (r : Int32) (_u : Unit) => m_Writer_unitsOf p0 = r) (fun (_u : Unit) => ([] : va_W)) := by
  refine g_ofi (cc := b_Writer_unitsOf) (maxL := 1) (ty := .int) (by decide) rfl (Nat.le_of_ble_eq_true rfl) ?_
  intro p e s m below meth c A Q H ls hx hb hml hown hts hA hK hZ hP hD hS hl hret
  have hown : s.vm.findClass "MailCharacters$Writer" = some m.cls := hown
  have hl : lv_has ls 1 [(0, .int p0)] := hl
  obtain ⟨RES, hRES⟩ : ∃ z, z = m_Writer_unitsOf p0 := ⟨_, rfl⟩
  have hF := hRES
  rw [m_Writer_unitsOf] at hF
  refine lv_iload_n hx hb d_Writer_unitsOf_0 rfl (lv_at hl 0 rfl) ?_
  refine lv_ldc hx hb hown (hts _ k_702) d_Writer_unitsOf_1 ?_
  refine lv_icmp_ge (tgt := 10) hx hb d_Writer_unitsOf_3 (by decide) (fun c_1 => ?_) (fun c_1 => ?_)
  · rw [if_pos c_1] at hF
    refine lv_iconst (v := 2) hx hb d_Writer_unitsOf_10 (by decide) ?_
    exact hret 2 () _ _ _ _ d_Writer_unitsOf_11 rfl (hRES.symm.trans hF) hP hD hS
  · rw [if_neg c_1] at hF
    refine lv_iconst (v := 1) hx hb d_Writer_unitsOf_6 (by decide) ?_
    refine lv_goto (tgt := 11) hx hb d_Writer_unitsOf_7 (by decide) ?_
    exact hret 1 () _ _ _ _ d_Writer_unitsOf_11 rfl (hRES.symm.trans hF) hP hD hS
theorem cw_Writer_unitsOf {R : Room} {s : State} {args : Array Value} {own : String} {idx : Nat} (hts : ∀ w ∈ gW, w.before args s = true) (hl : Cond.methodLink own idx y_Writer_unitsOf ∈ gW) (hR : rm_Writer_unitsOf.frames + 1 ≤ R.frames ∧ 8 + (1 + 11) + rm_Writer_unitsOf.locals ≤ R.locals) : CallB R s args own idx y_Writer_unitsOf b_Writer_unitsOf 1 (some .int) w_Writer_unitsOf rm_Writer_unitsOf 0 0 1 ∧ (Cond.static y_Writer_unitsOf).before args s = true := va_cwS 1 hts (gW_S hl k_700 k_75 k_701) rfl rfl rfl (by decide +kernel) hR
def m_Writer_directWidthOf (p0 : Int32) : Int32 :=
  if p0 = 43 then
    2
  else
    1
def rm_Writer_directWidthOf : Room := { frames := 0, cells := 0, slots := 0, locals := 0 }
set_option maxHeartbeats 4000000 in
set_option maxRecDepth 100000 in
theorem c_Writer_directWidthOf (l : Launch) (D : va_G) (Z : gZT) (kI : ClassId) (sz : Nat) (p0 : Int32) : gMi l y_Writer_directWidthOf w_Writer_directWidthOf rm_Writer_directWidthOf D Z kI [.int p0] sz [] (fun (r : Int32) (_u : Unit) => m_Writer_directWidthOf p0 = r) (fun (_u : Unit) => ([] : va_W)) := by
  refine g_ofi (cc := b_Writer_directWidthOf) (maxL := 1) (ty := .int) (by decide) rfl (Nat.le_of_ble_eq_true rfl) ?_
  intro p e s m below meth c A Q H ls hx hb hml hown hts hA hK hZ hP hD hS hl hret
  have hown : s.vm.findClass "MailCharacters$Writer" = some m.cls := hown
  have hl : lv_has ls 1 [(0, .int p0)] := hl
  obtain ⟨RES, hRES⟩ : ∃ z, z = m_Writer_directWidthOf p0 := ⟨_, rfl⟩
  have hF := hRES
  rw [m_Writer_directWidthOf] at hF
  refine lv_iload_n hx hb d_Writer_directWidthOf_0 rfl (lv_at hl 0 rfl) ?_
  refine lv_bipush (v := 43) hx hb d_Writer_directWidthOf_1 (by decide) ?_
  refine lv_icmp_ne (tgt := 10) hx hb d_Writer_directWidthOf_3 (by decide) (fun c_1 => ?_) (fun c_1 => ?_)
  · rw [if_neg c_1] at hF
    refine lv_iconst (v := 1) hx hb d_Writer_directWidthOf_10 (by decide) ?_
    exact hret 1 () _ _ _ _ d_Writer_directWidthOf_11 rfl (hRES.symm.trans hF) hP hD hS
  · rw [if_pos c_1] at hF
    refine lv_iconst (v := 2) hx hb d_Writer_directWidthOf_6 (by decide) ?_
    refine lv_goto (tgt := 11) hx hb d_Writer_directWidthOf_7 (by decide) ?_
    exact hret 2 () _ _ _ _ d_Writer_directWidthOf_11 rfl (hRES.symm.trans hF) hP hD hS
theorem cw_Writer_directWidthOf {R : Room} {s : State} {args : Array Value} {own : String} {idx : Nat} (hts : ∀ w ∈ gW, w.before args s = true) (hl : Cond.methodLink own idx y_Writer_directWidthOf ∈ gW) (hR : rm_Writer_directWidthOf.frames + 1 ≤ R.frames ∧ 8 + (1 + 11) + rm_Writer_directWidthOf.locals ≤ R.locals) : CallB R s args own idx y_Writer_directWidthOf b_Writer_directWidthOf 1 (some .int) w_Writer_directWidthOf rm_Writer_directWidthOf 0 0 1 ∧ (Cond.static y_Writer_directWidthOf).before args s = true := va_cwS 1 hts (gW_S hl k_704 k_75 k_705) rfl rfl rfl (by decide +kernel) hR
def m_Writer_unitOf (p0 : Int32) (p1 : Int32) : Int32 :=
  if (m_Writer_unitsOf p0) = 1 then
    p0
  else
    if p1 = 0 then
      (55296 + ((p0 - 65536) >>> ((10 : Int32) &&& 31)))
    else
      (56320 + ((p0 - 65536) &&& 1023))
def rm_Writer_unitOf : Room := { frames := 1, cells := 0, slots := 0, locals := 20 }
set_option maxHeartbeats 4000000 in
set_option maxRecDepth 100000 in
theorem c_Writer_unitOf (l : Launch) (D : va_G) (Z : gZT) (kI : ClassId) (sz : Nat) (p0 : Int32) (p1 : Int32) : gMi l y_Writer_unitOf w_Writer_unitOf rm_Writer_unitOf D Z kI [.int p0, .int p1] sz [] (fun (r : Int32) (_u : Unit) => m_Writer_unitOf p0 p1 = r) (fun (_u : Unit) => ([] : va_W)) := by
  refine g_ofi (cc := b_Writer_unitOf) (maxL := 2) (ty := .int) (by decide) rfl (Nat.le_of_ble_eq_true rfl) ?_
  intro p e s m below meth c A Q H ls hx hb hml hown hts hA hK hZ hP hD hS hl hret
  have hown : s.vm.findClass "MailCharacters$Writer" = some m.cls := hown
  have hl : lv_has ls 2 [(0, .int p0), (1, .int p1)] := hl
  obtain ⟨RES, hRES⟩ : ∃ z, z = m_Writer_unitOf p0 p1 := ⟨_, rfl⟩
  have hF := hRES
  rw [m_Writer_unitOf] at hF
  refine lv_iload_n hx hb d_Writer_unitOf_0 rfl (lv_at hl 0 rfl) ?_
  refine g_Si (As := [.int p0]) (rest := []) (wr := []) ⟨hx, hb, hml, hown, hts⟩ (c_Writer_unitsOf l D Z kI H.size p0) (cw_Writer_unitsOf hts k_699 ⟨Nat.le_of_ble_eq_true rfl, Nat.le_of_ble_eq_true rfl⟩) hK hZ hP hD hS hA [] [] rfl rfl (by decide) (by decide) (by decide) rfl hl.1 rfl (Nat.le_of_ble_eq_true rfl) d_Writer_unitOf_1 ⟨Nat.zero_le _, Nat.zero_le _⟩ (fun r_1 u_1 H locs hw hP hD hS => ?_)
  have e_1 := hw
  subst e_1
  have hP : va_P D vwCl [] H := hP
  have hD : va_D A [] := hD
  refine lv_iconst (v := 1) hx hb d_Writer_unitOf_4 (by decide) ?_
  refine lv_icmp_ne (tgt := 10) hx hb d_Writer_unitOf_5 (by decide) (fun c_2 => ?_) (fun c_2 => ?_)
  · rw [if_neg c_2] at hF
    refine lv_iload_n hx hb d_Writer_unitOf_10 rfl (lv_at hl 1 rfl) ?_
    refine lv_if_ne (tgt := 27) hx hb d_Writer_unitOf_11 (by decide) (fun c_3 => ?_) (fun c_3 => ?_)
    · rw [if_neg c_3] at hF
      refine lv_ldc hx hb hown (hts _ k_716) d_Writer_unitOf_27 ?_
      refine lv_iload_n hx hb d_Writer_unitOf_29 rfl (lv_at hl 0 rfl) ?_
      refine lv_ldc hx hb hown (hts _ k_702) d_Writer_unitOf_30 ?_
      refine lv_isub hx hb d_Writer_unitOf_32 ?_
      refine lv_sipush (v := 1023) hx hb d_Writer_unitOf_33 (by decide) ?_
      refine lv_iand hx hb d_Writer_unitOf_36 ?_
      refine lv_iadd hx hb d_Writer_unitOf_37 ?_
      exact hret (56320 + ((p0 - 65536) &&& 1023)) () _ _ _ _ d_Writer_unitOf_38 rfl (hRES.symm.trans hF) hP hD hS
    · rw [if_pos c_3] at hF
      refine lv_ldc hx hb hown (hts _ k_715) d_Writer_unitOf_14 ?_
      refine lv_iload_n hx hb d_Writer_unitOf_16 rfl (lv_at hl 0 rfl) ?_
      refine lv_ldc hx hb hown (hts _ k_702) d_Writer_unitOf_17 ?_
      refine lv_isub hx hb d_Writer_unitOf_19 ?_
      refine lv_bipush (v := 10) hx hb d_Writer_unitOf_20 (by decide) ?_
      refine lv_ishr hx hb d_Writer_unitOf_22 ?_
      refine lv_iadd hx hb d_Writer_unitOf_23 ?_
      refine lv_goto (tgt := 38) hx hb d_Writer_unitOf_24 (by decide) ?_
      exact hret (55296 + ((p0 - 65536) >>> ((10 : Int32) &&& 31))) () _ _ _ _ d_Writer_unitOf_38 rfl (hRES.symm.trans hF) hP hD hS
  · rw [if_pos c_2] at hF
    refine lv_iload_n hx hb d_Writer_unitOf_8 rfl (lv_at hl 0 rfl) ?_
    exact hret p0 () _ _ _ _ d_Writer_unitOf_9 rfl (hRES.symm.trans hF) hP hD hS
theorem cw_Writer_unitOf {R : Room} {s : State} {args : Array Value} {own : String} {idx : Nat} (hts : ∀ w ∈ gW, w.before args s = true) (hl : Cond.methodLink own idx y_Writer_unitOf ∈ gW) (hR : rm_Writer_unitOf.frames + 1 ≤ R.frames ∧ 8 + (2 + 11) + rm_Writer_unitOf.locals ≤ R.locals) : CallB R s args own idx y_Writer_unitOf b_Writer_unitOf 2 (some .int) w_Writer_unitOf rm_Writer_unitOf 0 0 2 ∧ (Cond.static y_Writer_unitOf).before args s = true := va_cwS 2 hts (gW_S hl k_713 k_75 k_714) rfl rfl rfl (by decide +kernel) hR
def m_Letters_letterOf (p0 : Int32) : Int32 :=
  if 26 ≤ p0 then
    if 52 ≤ p0 then
      if 62 ≤ p0 then
        if p0 = 62 then
          43
        else
          47
      else
        ((48 + p0) - 52)
    else
      ((97 + p0) - 26)
  else
    (65 + p0)
def rm_Letters_letterOf : Room := { frames := 0, cells := 0, slots := 0, locals := 0 }
set_option maxHeartbeats 4000000 in
set_option maxRecDepth 100000 in
theorem c_Letters_letterOf (l : Launch) (D : va_G) (Z : gZT) (kI : ClassId) (sz : Nat) (p0 : Int32) : gMi l y_Letters_letterOf w_Letters_letterOf rm_Letters_letterOf D Z kI [.int p0] sz [] (fun (r : Int32) (_u : Unit) => m_Letters_letterOf p0 = r) (fun (_u : Unit) => ([] : va_W)) := by
  refine g_ofi (cc := b_Letters_letterOf) (maxL := 1) (ty := .int) (by decide) rfl (Nat.le_of_ble_eq_true rfl) ?_
  intro p e s m below meth c A Q H ls hx hb hml hown hts hA hK hZ hP hD hS hl hret
  have hown : s.vm.findClass "MailCharacters$Letters" = some m.cls := hown
  have hl : lv_has ls 1 [(0, .int p0)] := hl
  obtain ⟨RES, hRES⟩ : ∃ z, z = m_Letters_letterOf p0 := ⟨_, rfl⟩
  have hF := hRES
  rw [m_Letters_letterOf] at hF
  refine lv_iload_n hx hb d_Letters_letterOf_0 rfl (lv_at hl 0 rfl) ?_
  refine lv_bipush (v := 26) hx hb d_Letters_letterOf_1 (by decide) ?_
  refine lv_icmp_ge (tgt := 11) hx hb d_Letters_letterOf_3 (by decide) (fun c_1 => ?_) (fun c_1 => ?_)
  · rw [if_pos c_1] at hF
    refine lv_iload_n hx hb d_Letters_letterOf_11 rfl (lv_at hl 0 rfl) ?_
    refine lv_bipush (v := 52) hx hb d_Letters_letterOf_12 (by decide) ?_
    refine lv_icmp_ge (tgt := 25) hx hb d_Letters_letterOf_14 (by decide) (fun c_2 => ?_) (fun c_2 => ?_)
    · rw [if_pos c_2] at hF
      refine lv_iload_n hx hb d_Letters_letterOf_25 rfl (lv_at hl 0 rfl) ?_
      refine lv_bipush (v := 62) hx hb d_Letters_letterOf_26 (by decide) ?_
      refine lv_icmp_ge (tgt := 39) hx hb d_Letters_letterOf_28 (by decide) (fun c_3 => ?_) (fun c_3 => ?_)
      · rw [if_pos c_3] at hF
        refine lv_iload_n hx hb d_Letters_letterOf_39 rfl (lv_at hl 0 rfl) ?_
        refine lv_bipush (v := 62) hx hb d_Letters_letterOf_40 (by decide) ?_
        refine lv_icmp_ne (tgt := 50) hx hb d_Letters_letterOf_42 (by decide) (fun c_4 => ?_) (fun c_4 => ?_)
        · rw [if_neg c_4] at hF
          refine lv_bipush (v := 47) hx hb d_Letters_letterOf_50 (by decide) ?_
          exact hret 47 () _ _ _ _ d_Letters_letterOf_52 rfl (hRES.symm.trans hF) hP hD hS
        · rw [if_pos c_4] at hF
          refine lv_bipush (v := 43) hx hb d_Letters_letterOf_45 (by decide) ?_
          refine lv_goto (tgt := 52) hx hb d_Letters_letterOf_47 (by decide) ?_
          exact hret 43 () _ _ _ _ d_Letters_letterOf_52 rfl (hRES.symm.trans hF) hP hD hS
      · rw [if_neg c_3] at hF
        refine lv_bipush (v := 48) hx hb d_Letters_letterOf_31 (by decide) ?_
        refine lv_iload_n hx hb d_Letters_letterOf_33 rfl (lv_at hl 0 rfl) ?_
        refine lv_iadd hx hb d_Letters_letterOf_34 ?_
        refine lv_bipush (v := 52) hx hb d_Letters_letterOf_35 (by decide) ?_
        refine lv_isub hx hb d_Letters_letterOf_37 ?_
        exact hret ((48 + p0) - 52) () _ _ _ _ d_Letters_letterOf_38 rfl (hRES.symm.trans hF) hP hD hS
    · rw [if_neg c_2] at hF
      refine lv_bipush (v := 97) hx hb d_Letters_letterOf_17 (by decide) ?_
      refine lv_iload_n hx hb d_Letters_letterOf_19 rfl (lv_at hl 0 rfl) ?_
      refine lv_iadd hx hb d_Letters_letterOf_20 ?_
      refine lv_bipush (v := 26) hx hb d_Letters_letterOf_21 (by decide) ?_
      refine lv_isub hx hb d_Letters_letterOf_23 ?_
      exact hret ((97 + p0) - 26) () _ _ _ _ d_Letters_letterOf_24 rfl (hRES.symm.trans hF) hP hD hS
  · rw [if_neg c_1] at hF
    refine lv_bipush (v := 65) hx hb d_Letters_letterOf_6 (by decide) ?_
    refine lv_iload_n hx hb d_Letters_letterOf_8 rfl (lv_at hl 0 rfl) ?_
    refine lv_iadd hx hb d_Letters_letterOf_9 ?_
    exact hret (65 + p0) () _ _ _ _ d_Letters_letterOf_10 rfl (hRES.symm.trans hF) hP hD hS
theorem cw_Letters_letterOf {R : Room} {s : State} {args : Array Value} {own : String} {idx : Nat} (hts : ∀ w ∈ gW, w.before args s = true) (hl : Cond.methodLink own idx y_Letters_letterOf ∈ gW) (hR : rm_Letters_letterOf.frames + 1 ≤ R.frames ∧ 8 + (1 + 11) + rm_Letters_letterOf.locals ≤ R.locals) : CallB R s args own idx y_Letters_letterOf b_Letters_letterOf 1 (some .int) w_Letters_letterOf rm_Letters_letterOf 0 0 1 ∧ (Cond.static y_Letters_letterOf).before args s = true := va_cwS 1 hts (gW_S hl k_725 k_87 k_726) rfl rfl rfl (by decide +kernel) hR
def m_Bits_fillUp (v0_value : Int32) (v0_held : Int32) (p1 : Int32) : Int32 × Int32 :=
  if v0_held ≤ 0 then
    (v0_value, v0_held)
  else
    if p1 ≤ v0_held then
      (v0_value, v0_held)
    else
      match (m_Bits_add v0_value v0_held 0 (p1 - v0_held)) with
      | (v0_value_3, v0_held_3) =>
        (v0_value_3, v0_held_3)
def rm_Bits_fillUp : Room := { frames := 1, cells := 0, slots := 0, locals := 22 }
set_option maxHeartbeats 4000000 in
set_option maxRecDepth 100000 in
theorem c_Bits_fillUp (l : Launch) (D : va_G) (Z : gZT) (kI : ClassId) (a0 : Nat) (sz : Nat) (v0_value : Int32) (v0_held : Int32) (p1 : Int32) : gMv l y_Bits_fillUp w_Bits_fillUp rm_Bits_fillUp D Z kI [.ref a0, .int p1] sz [(a0, .inr (0, [.int v0_value, .int v0_held]))] (fun (u : Int32 × Int32) => m_Bits_fillUp v0_value v0_held p1 = (u.1, u.2)) (fun (u : Int32 × Int32) => ([(a0, .inr (0, [.int u.1, .int u.2]))] : va_W)) := by
  refine g_ofv (cc := b_Bits_fillUp) (maxL := 2) (by decide) rfl (Nat.le_of_ble_eq_true rfl) ?_
  intro p e s m below meth c A Q H ls hx hb hml hown hts hA hK hZ hP hD hS hl hret
  have hown : s.vm.findClass "MailCharacters$Bits" = some m.cls := hown
  have hl : lv_has ls 2 [(0, .ref a0), (1, .int p1)] := hl
  obtain ⟨RES, hRES⟩ : ∃ z, z = m_Bits_fillUp v0_value v0_held p1 := ⟨_, rfl⟩
  have hF := hRES
  rw [m_Bits_fillUp] at hF
  refine lv_aload_n hx hb d_Bits_fillUp_0 rfl (lv_at hl 0 rfl) ?_
  refine va_get (D := D) (ci := 0) (v := .int v0_held) (C := "MailCharacters$Bits") (T := F_Bits) (N := 2) hx hb hts i_Bits hown hK hP 0 rfl rfl 1 (by decide) (hts _ k_132) (fun _ h9 => h9) rfl d_Bits_fillUp_1 ?_
  refine lv_if_le (tgt := 26) hx hb d_Bits_fillUp_4 (by decide) (fun c_1 => ?_) (fun c_1 => ?_)
  · rw [if_pos c_1] at hF
    exact hret (v0_value, v0_held) _ _ _ _ d_Bits_fillUp_26 (hRES.symm.trans hF) hP hD hS
  · rw [if_neg c_1] at hF
    refine lv_aload_n hx hb d_Bits_fillUp_7 rfl (lv_at hl 0 rfl) ?_
    refine va_get (D := D) (ci := 0) (v := .int v0_held) (C := "MailCharacters$Bits") (T := F_Bits) (N := 2) hx hb hts i_Bits hown hK hP 0 rfl rfl 1 (by decide) (hts _ k_132) (fun _ h9 => h9) rfl d_Bits_fillUp_8 ?_
    refine lv_iload_n hx hb d_Bits_fillUp_11 rfl (lv_at hl 1 rfl) ?_
    refine lv_icmp_ge (tgt := 26) hx hb d_Bits_fillUp_12 (by decide) (fun c_2 => ?_) (fun c_2 => ?_)
    · rw [if_pos c_2] at hF
      exact hret (v0_value, v0_held) _ _ _ _ d_Bits_fillUp_26 (hRES.symm.trans hF) hP hD hS
    · rw [if_neg c_2] at hF
      refine lv_aload_n hx hb d_Bits_fillUp_15 rfl (lv_at hl 0 rfl) ?_
      refine lv_iconst (v := 0) hx hb d_Bits_fillUp_16 (by decide) ?_
      refine lv_iload_n hx hb d_Bits_fillUp_17 rfl (lv_at hl 1 rfl) ?_
      refine lv_aload_n hx hb d_Bits_fillUp_18 rfl (lv_at hl 0 rfl) ?_
      refine va_get (D := D) (ci := 0) (v := .int v0_held) (C := "MailCharacters$Bits") (T := F_Bits) (N := 2) hx hb hts i_Bits hown hK hP 0 rfl rfl 1 (by decide) (hts _ k_132) (fun _ h9 => h9) rfl d_Bits_fillUp_19 ?_
      refine lv_isub hx hb d_Bits_fillUp_22 ?_
      refine g_Vv (As := [.int 0, .int (p1 - v0_held)]) (rest := []) (wr := []) ⟨hx, hb, hml, hown, hts⟩ (c_Bits_add l D Z kI a0 H.size v0_value v0_held 0 (p1 - v0_held)) (cw_Bits_add hts k_731 ⟨Nat.le_of_ble_eq_true rfl, Nat.le_of_ble_eq_true rfl⟩) hK hZ hP hD hS hA [0] [] (g_recv hK hP (ci := 0) (q0 := 0) rfl rfl) rfl rfl (by decide) (by decide) (by decide) rfl hl.1 rfl (Nat.le_of_ble_eq_true rfl) d_Bits_fillUp_23 ⟨Nat.zero_le _, Nat.zero_le _⟩ (fun u_3 H locs hw hP hD hS => ?_)
      obtain ⟨v0_value_3, v0_held_3⟩ := u_3
      have e_3 := hw
      have hP : va_P D vwCl [(a0, .inr (0, [.int v0_value_3, .int v0_held_3]))] H := hP
      have hD : va_D A [(a0, .inr (0, [.int v0_value_3, .int v0_held_3]))] := hD
      rw [e_3] at hF; dsimp only at hF
      exact hret (v0_value_3, v0_held_3) _ _ _ _ d_Bits_fillUp_26 (hRES.symm.trans hF) hP hD hS
theorem cw_Bits_fillUp {R : Room} {s : State} {args : Array Value} {own : String} {idx : Nat} (hts : ∀ w ∈ gW, w.before args s = true) (hl : Cond.methodLink own idx y_Bits_fillUp ∈ gW) (hR : rm_Bits_fillUp.frames + 1 ≤ R.frames ∧ 8 + (2 + 11) + rm_Bits_fillUp.locals ≤ R.locals) : CallW R s args own "MailCharacters$Bits" idx y_Bits_fillUp b_Bits_fillUp 2 none w_Bits_fillUp rm_Bits_fillUp 0 0 1 := cwV 1 hts (gW_V hl k_728 k_729 k_71 k_730) rfl rfl rfl (by decide +kernel) hR
def m_Writer_writeDirectly (n0 : Nat) (l0 : List Int32) (o0 : Int32) (p0 : Int32) : List Int32 × Int32 :=
  match (m_Row_put n0 l0 o0 p0) with
  | (l0_1, o0_1) =>
    if p0 = 43 then
      match (m_Row_put n0 l0_1 o0_1 45) with
      | (l0_3, o0_3) =>
        (l0_3, o0_3)
    else
      (l0_1, o0_1)
def rm_Writer_writeDirectly : Room := { frames := 1, cells := 0, slots := 0, locals := 21 }
set_option maxHeartbeats 4000000 in
set_option maxRecDepth 100000 in
theorem c_Writer_writeDirectly (l : Launch) (D : va_G) (Z : gZT) (kI : ClassId) (a0 : Nat) (b0 : Nat) (n0 : Nat) (sz : Nat) (f0 : Nat → Int32) (l0 : List Int32) (o0 : Int32) (p0 : Int32) (hr0 : g_rw n0 f0 l0) : gMv l y_Writer_writeDirectly w_Writer_writeDirectly rm_Writer_writeDirectly D Z kI [.int p0, .ref a0] sz [(a0, .inr (4, [.ref b0, .int (nI l0.length), .int o0])), (b0, .inl (kI, n0, .inl f0))] (fun (u : (Nat → Int32) × List Int32 × Int32) => m_Writer_writeDirectly n0 l0 o0 p0 = (u.2.1, u.2.2) ∧ g_rw n0 u.1 u.2.1) (fun (u : (Nat → Int32) × List Int32 × Int32) => ([(a0, .inr (4, [.ref b0, .int (nI u.2.1.length), .int u.2.2])), (b0, .inl (kI, n0, .inl u.1))] : va_W)) := by
  refine g_ofv (cc := b_Writer_writeDirectly) (maxL := 2) (by decide) rfl (Nat.le_of_ble_eq_true rfl) ?_
  intro p e s m below meth c A Q H ls hx hb hml hown hts hA hK hZ hP hD hS hl hret
  have hown : s.vm.findClass "MailCharacters$Writer" = some m.cls := hown
  have hl : lv_has ls 2 [(0, .int p0), (1, .ref a0)] := hl
  obtain ⟨RES, hRES⟩ : ∃ z, z = m_Writer_writeDirectly n0 l0 o0 p0 := ⟨_, rfl⟩
  have hF := hRES
  rw [m_Writer_writeDirectly] at hF
  refine lv_aload_n hx hb d_Writer_writeDirectly_0 rfl (lv_at hl 1 rfl) ?_
  refine lv_iload_n hx hb d_Writer_writeDirectly_1 rfl (lv_at hl 0 rfl) ?_
  refine g_Vv (As := [.int p0]) (rest := []) (wr := []) ⟨hx, hb, hml, hown, hts⟩ (c_Row_put l D Z kI a0 b0 n0 H.size f0 l0 o0 p0 hr0) (cw_Row_put hts k_710 ⟨Nat.le_of_ble_eq_true rfl, Nat.le_of_ble_eq_true rfl⟩) hK hZ hP hD hS hA [0, 1] [] (g_recv hK hP (ci := 4) (q0 := 0) rfl rfl) rfl rfl (by decide) (by decide) (by decide) rfl hl.1 rfl (Nat.le_of_ble_eq_true rfl) d_Writer_writeDirectly_2 ⟨Nat.zero_le _, Nat.zero_le _⟩ (fun u_1 H locs hw hP hD hS => ?_)
  obtain ⟨f0_1, l0_1, o0_1⟩ := u_1
  have e_1 := hw.1
  have hr0_1 := hw.2
  have hP : va_P D vwCl [(a0, .inr (4, [.ref b0, .int (nI l0_1.length), .int o0_1])), (b0, .inl (kI, n0, .inl f0_1))] H := hP
  have hD : va_D A [(a0, .inr (4, [.ref b0, .int (nI l0_1.length), .int o0_1])), (b0, .inl (kI, n0, .inl f0_1))] := hD
  rw [e_1] at hF; dsimp only at hF
  refine lv_iload_n hx hb d_Writer_writeDirectly_5 rfl (lv_at hl 0 rfl) ?_
  refine lv_bipush (v := 43) hx hb d_Writer_writeDirectly_6 (by decide) ?_
  refine lv_icmp_ne (tgt := 17) hx hb d_Writer_writeDirectly_8 (by decide) (fun c_2 => ?_) (fun c_2 => ?_)
  · rw [if_neg c_2] at hF
    exact hret (f0_1, l0_1, o0_1) _ _ _ _ d_Writer_writeDirectly_17 (⟨hRES.symm.trans hF, hr0_1⟩) hP hD hS
  · rw [if_pos c_2] at hF
    refine lv_aload_n hx hb d_Writer_writeDirectly_11 rfl (lv_at hl 1 rfl) ?_
    refine lv_bipush (v := 45) hx hb d_Writer_writeDirectly_12 (by decide) ?_
    refine g_Vv (As := [.int 45]) (rest := []) (wr := []) ⟨hx, hb, hml, hown, hts⟩ (c_Row_put l D Z kI a0 b0 n0 H.size f0_1 l0_1 o0_1 45 hr0_1) (cw_Row_put hts k_710 ⟨Nat.le_of_ble_eq_true rfl, Nat.le_of_ble_eq_true rfl⟩) hK hZ hP hD hS hA [0, 1] [] (g_recv hK hP (ci := 4) (q0 := 0) rfl rfl) rfl rfl (by decide) (by decide) (by decide) rfl hl.1 rfl (Nat.le_of_ble_eq_true rfl) d_Writer_writeDirectly_14 ⟨Nat.zero_le _, Nat.zero_le _⟩ (fun u_3 H locs hw hP hD hS => ?_)
    obtain ⟨f0_3, l0_3, o0_3⟩ := u_3
    have e_3 := hw.1
    have hr0_3 := hw.2
    have hP : va_P D vwCl [(a0, .inr (4, [.ref b0, .int (nI l0_3.length), .int o0_3])), (b0, .inl (kI, n0, .inl f0_3))] H := hP
    have hD : va_D A [(a0, .inr (4, [.ref b0, .int (nI l0_3.length), .int o0_3])), (b0, .inl (kI, n0, .inl f0_3))] := hD
    rw [e_3] at hF; dsimp only at hF
    exact hret (f0_3, l0_3, o0_3) _ _ _ _ d_Writer_writeDirectly_17 (⟨hRES.symm.trans hF, hr0_3⟩) hP hD hS
theorem cw_Writer_writeDirectly {R : Room} {s : State} {args : Array Value} {own : String} {idx : Nat} (hts : ∀ w ∈ gW, w.before args s = true) (hl : Cond.methodLink own idx y_Writer_writeDirectly ∈ gW) (hR : rm_Writer_writeDirectly.frames + 1 ≤ R.frames ∧ 8 + (2 + 11) + rm_Writer_writeDirectly.locals ≤ R.locals) : CallB R s args own idx y_Writer_writeDirectly b_Writer_writeDirectly 2 none w_Writer_writeDirectly rm_Writer_writeDirectly 0 0 2 ∧ (Cond.static y_Writer_writeDirectly).before args s = true := va_cwS 2 hts (gW_S hl k_733 k_75 k_734) rfl rfl rfl (by decide +kernel) hR
def m_Writer_utf8WidthOf (p0 : Int32) : Int32 :=
  if 128 ≤ p0 then
    if 2048 ≤ p0 then
      if 65536 ≤ p0 then
        4
      else
        3
    else
      2
  else
    1
def rm_Writer_utf8WidthOf : Room := { frames := 0, cells := 0, slots := 0, locals := 0 }
set_option maxHeartbeats 4000000 in
set_option maxRecDepth 100000 in
theorem c_Writer_utf8WidthOf (l : Launch) (D : va_G) (Z : gZT) (kI : ClassId) (sz : Nat) (p0 : Int32) : gMi l y_Writer_utf8WidthOf w_Writer_utf8WidthOf rm_Writer_utf8WidthOf D Z kI [.int p0] sz [] (fun (r : Int32) (_u : Unit) => m_Writer_utf8WidthOf p0 = r) (fun (_u : Unit) => ([] : va_W)) := by
  refine g_ofi (cc := b_Writer_utf8WidthOf) (maxL := 1) (ty := .int) (by decide) rfl (Nat.le_of_ble_eq_true rfl) ?_
  intro p e s m below meth c A Q H ls hx hb hml hown hts hA hK hZ hP hD hS hl hret
  have hown : s.vm.findClass "MailCharacters$Writer" = some m.cls := hown
  have hl : lv_has ls 1 [(0, .int p0)] := hl
  obtain ⟨RES, hRES⟩ : ∃ z, z = m_Writer_utf8WidthOf p0 := ⟨_, rfl⟩
  have hF := hRES
  rw [m_Writer_utf8WidthOf] at hF
  refine lv_iload_n hx hb d_Writer_utf8WidthOf_0 rfl (lv_at hl 0 rfl) ?_
  refine lv_sipush (v := 128) hx hb d_Writer_utf8WidthOf_1 (by decide) ?_
  refine lv_icmp_ge (tgt := 9) hx hb d_Writer_utf8WidthOf_4 (by decide) (fun c_1 => ?_) (fun c_1 => ?_)
  · rw [if_pos c_1] at hF
    refine lv_iload_n hx hb d_Writer_utf8WidthOf_9 rfl (lv_at hl 0 rfl) ?_
    refine lv_sipush (v := 2048) hx hb d_Writer_utf8WidthOf_10 (by decide) ?_
    refine lv_icmp_ge (tgt := 18) hx hb d_Writer_utf8WidthOf_13 (by decide) (fun c_2 => ?_) (fun c_2 => ?_)
    · rw [if_pos c_2] at hF
      refine lv_iload_n hx hb d_Writer_utf8WidthOf_18 rfl (lv_at hl 0 rfl) ?_
      refine lv_ldc hx hb hown (hts _ k_702) d_Writer_utf8WidthOf_19 ?_
      refine lv_icmp_ge (tgt := 28) hx hb d_Writer_utf8WidthOf_21 (by decide) (fun c_3 => ?_) (fun c_3 => ?_)
      · rw [if_pos c_3] at hF
        refine lv_iconst (v := 4) hx hb d_Writer_utf8WidthOf_28 (by decide) ?_
        exact hret 4 () _ _ _ _ d_Writer_utf8WidthOf_29 rfl (hRES.symm.trans hF) hP hD hS
      · rw [if_neg c_3] at hF
        refine lv_iconst (v := 3) hx hb d_Writer_utf8WidthOf_24 (by decide) ?_
        refine lv_goto (tgt := 29) hx hb d_Writer_utf8WidthOf_25 (by decide) ?_
        exact hret 3 () _ _ _ _ d_Writer_utf8WidthOf_29 rfl (hRES.symm.trans hF) hP hD hS
    · rw [if_neg c_2] at hF
      refine lv_iconst (v := 2) hx hb d_Writer_utf8WidthOf_16 (by decide) ?_
      exact hret 2 () _ _ _ _ d_Writer_utf8WidthOf_17 rfl (hRES.symm.trans hF) hP hD hS
  · rw [if_neg c_1] at hF
    refine lv_iconst (v := 1) hx hb d_Writer_utf8WidthOf_7 (by decide) ?_
    exact hret 1 () _ _ _ _ d_Writer_utf8WidthOf_8 rfl (hRES.symm.trans hF) hP hD hS
theorem cw_Writer_utf8WidthOf {R : Room} {s : State} {args : Array Value} {own : String} {idx : Nat} (hts : ∀ w ∈ gW, w.before args s = true) (hl : Cond.methodLink own idx y_Writer_utf8WidthOf ∈ gW) (hR : rm_Writer_utf8WidthOf.frames + 1 ≤ R.frames ∧ 8 + (1 + 11) + rm_Writer_utf8WidthOf.locals ≤ R.locals) : CallB R s args own idx y_Writer_utf8WidthOf b_Writer_utf8WidthOf 1 (some .int) w_Writer_utf8WidthOf rm_Writer_utf8WidthOf 0 0 1 ∧ (Cond.static y_Writer_utf8WidthOf).before args s = true := va_cwS 1 hts (gW_S hl k_739 k_75 k_740) rfl rfl rfl (by decide +kernel) hR
def m_Writer_writeUtf8 (n0 : Nat) (l0 : List Int32) (o0 : Int32) (p0 : Int32) : List Int32 × Int32 :=
  if (m_Writer_utf8WidthOf p0) = 1 then
    match (m_Row_put n0 l0 o0 p0) with
    | (l0_3, o0_3) =>
      (l0_3, o0_3)
  else
    if (m_Writer_utf8WidthOf p0) = 2 then
      match (m_Row_put n0 l0 o0 (192 ||| (p0 >>> ((6 : Int32) &&& 31)))) with
      | (l0_5, o0_5) =>
        match (m_Row_put n0 l0_5 o0_5 (128 ||| (p0 &&& 63))) with
        | (l0_6, o0_6) =>
          (l0_6, o0_6)
    else
      if (m_Writer_utf8WidthOf p0) = 3 then
        match (m_Row_put n0 l0 o0 (224 ||| (p0 >>> ((12 : Int32) &&& 31)))) with
        | (l0_8, o0_8) =>
          match (m_Row_put n0 l0_8 o0_8 (128 ||| ((p0 >>> ((6 : Int32) &&& 31)) &&& 63))) with
          | (l0_9, o0_9) =>
            match (m_Row_put n0 l0_9 o0_9 (128 ||| (p0 &&& 63))) with
            | (l0_10, o0_10) =>
              (l0_10, o0_10)
      else
        match (m_Row_put n0 l0 o0 (240 ||| (p0 >>> ((18 : Int32) &&& 31)))) with
        | (l0_11, o0_11) =>
          match (m_Row_put n0 l0_11 o0_11 (128 ||| ((p0 >>> ((12 : Int32) &&& 31)) &&& 63))) with
          | (l0_12, o0_12) =>
            match (m_Row_put n0 l0_12 o0_12 (128 ||| ((p0 >>> ((6 : Int32) &&& 31)) &&& 63))) with
            | (l0_13, o0_13) =>
              match (m_Row_put n0 l0_13 o0_13 (128 ||| (p0 &&& 63))) with
              | (l0_14, o0_14) =>
                (l0_14, o0_14)
def rm_Writer_writeUtf8 : Room := { frames := 1, cells := 0, slots := 0, locals := 21 }
set_option maxHeartbeats 4000000 in
set_option maxRecDepth 100000 in
theorem c_Writer_writeUtf8 (l : Launch) (D : va_G) (Z : gZT) (kI : ClassId) (a0 : Nat) (b0 : Nat) (n0 : Nat) (sz : Nat) (f0 : Nat → Int32) (l0 : List Int32) (o0 : Int32) (p0 : Int32) (hr0 : g_rw n0 f0 l0) : gMv l y_Writer_writeUtf8 w_Writer_writeUtf8 rm_Writer_writeUtf8 D Z kI [.int p0, .ref a0] sz [(a0, .inr (4, [.ref b0, .int (nI l0.length), .int o0])), (b0, .inl (kI, n0, .inl f0))] (fun (u : (Nat → Int32) × List Int32 × Int32) => m_Writer_writeUtf8 n0 l0 o0 p0 = (u.2.1, u.2.2) ∧ g_rw n0 u.1 u.2.1) (fun (u : (Nat → Int32) × List Int32 × Int32) => ([(a0, .inr (4, [.ref b0, .int (nI u.2.1.length), .int u.2.2])), (b0, .inl (kI, n0, .inl u.1))] : va_W)) := by
  refine g_ofv (cc := b_Writer_writeUtf8) (maxL := 2) (by decide) rfl (Nat.le_of_ble_eq_true rfl) ?_
  intro p e s m below meth c A Q H ls hx hb hml hown hts hA hK hZ hP hD hS hl hret
  have hown : s.vm.findClass "MailCharacters$Writer" = some m.cls := hown
  have hl : lv_has ls 2 [(0, .int p0), (1, .ref a0)] := hl
  obtain ⟨RES, hRES⟩ : ∃ z, z = m_Writer_writeUtf8 n0 l0 o0 p0 := ⟨_, rfl⟩
  have hF := hRES
  rw [m_Writer_writeUtf8] at hF
  refine lv_iload_n hx hb d_Writer_writeUtf8_0 rfl (lv_at hl 0 rfl) ?_
  refine g_Si (As := [.int p0]) (rest := []) (wr := [(a0, .inr (4, [.ref b0, .int (nI l0.length), .int o0])), (b0, .inl (kI, n0, .inl f0))]) ⟨hx, hb, hml, hown, hts⟩ (c_Writer_utf8WidthOf l D Z kI H.size p0) (cw_Writer_utf8WidthOf hts k_738 ⟨Nat.le_of_ble_eq_true rfl, Nat.le_of_ble_eq_true rfl⟩) hK hZ hP hD hS hA [] [0, 1] rfl rfl (by decide) (by decide) (by decide) rfl hl.1 rfl (Nat.le_of_ble_eq_true rfl) d_Writer_writeUtf8_1 ⟨Nat.zero_le _, Nat.zero_le _⟩ (fun r_1 u_1 H locs hw hP hD hS => ?_)
  have e_1 := hw
  subst e_1
  have hP : va_P D vwCl [(a0, .inr (4, [.ref b0, .int (nI l0.length), .int o0])), (b0, .inl (kI, n0, .inl f0))] H := hP
  have hD : va_D A [(a0, .inr (4, [.ref b0, .int (nI l0.length), .int o0])), (b0, .inl (kI, n0, .inl f0))] := hD
  by_cases c_2 : (m_Writer_utf8WidthOf p0) = 1
  · rw [if_pos c_2] at hF
    refine lv_tableIn (off := 28) (tgt := 32) hx hb d_Writer_writeUtf8_4 (by rw [c_2]; decide) (by rw [c_2]; decide) (by rw [c_2]; decide) (by decide) ?_
    refine lv_aload_n hx hb d_Writer_writeUtf8_32 rfl (lv_at hl 1 rfl) ?_
    refine lv_iload_n hx hb d_Writer_writeUtf8_33 rfl (lv_at hl 0 rfl) ?_
    refine g_Vv (As := [.int p0]) (rest := []) (wr := []) ⟨hx, hb, hml, hown, hts⟩ (c_Row_put l D Z kI a0 b0 n0 H.size f0 l0 o0 p0 hr0) (cw_Row_put hts k_710 ⟨Nat.le_of_ble_eq_true rfl, Nat.le_of_ble_eq_true rfl⟩) hK hZ hP hD hS hA [0, 1] [] (g_recv hK hP (ci := 4) (q0 := 0) rfl rfl) rfl rfl (by decide) (by decide) (by decide) rfl hl.1 rfl (Nat.le_of_ble_eq_true rfl) d_Writer_writeUtf8_34 ⟨Nat.zero_le _, Nat.zero_le _⟩ (fun u_3 H locs hw hP hD hS => ?_)
    obtain ⟨f0_3, l0_3, o0_3⟩ := u_3
    have e_3 := hw.1
    have hr0_3 := hw.2
    have hP : va_P D vwCl [(a0, .inr (4, [.ref b0, .int (nI l0_3.length), .int o0_3])), (b0, .inl (kI, n0, .inl f0_3))] H := hP
    have hD : va_D A [(a0, .inr (4, [.ref b0, .int (nI l0_3.length), .int o0_3])), (b0, .inl (kI, n0, .inl f0_3))] := hD
    rw [e_3] at hF; dsimp only at hF
    exact hret (f0_3, l0_3, o0_3) _ _ _ _ d_Writer_writeUtf8_37 (⟨hRES.symm.trans hF, hr0_3⟩) hP hD hS
  rw [if_neg c_2] at hF
  by_cases c_4 : (m_Writer_utf8WidthOf p0) = 2
  · rw [if_pos c_4] at hF
    refine lv_tableIn (off := 34) (tgt := 38) hx hb d_Writer_writeUtf8_4 (by rw [c_4]; decide) (by rw [c_4]; decide) (by rw [c_4]; decide) (by decide) ?_
    refine lv_aload_n hx hb d_Writer_writeUtf8_38 rfl (lv_at hl 1 rfl) ?_
    refine lv_sipush (v := 192) hx hb d_Writer_writeUtf8_39 (by decide) ?_
    refine lv_iload_n hx hb d_Writer_writeUtf8_42 rfl (lv_at hl 0 rfl) ?_
    refine lv_bipush (v := 6) hx hb d_Writer_writeUtf8_43 (by decide) ?_
    refine lv_ishr hx hb d_Writer_writeUtf8_45 ?_
    refine lv_ior hx hb d_Writer_writeUtf8_46 ?_
    refine g_Vv (As := [.int (192 ||| (p0 >>> ((6 : Int32) &&& 31)))]) (rest := []) (wr := []) ⟨hx, hb, hml, hown, hts⟩ (c_Row_put l D Z kI a0 b0 n0 H.size f0 l0 o0 (192 ||| (p0 >>> ((6 : Int32) &&& 31))) hr0) (cw_Row_put hts k_710 ⟨Nat.le_of_ble_eq_true rfl, Nat.le_of_ble_eq_true rfl⟩) hK hZ hP hD hS hA [0, 1] [] (g_recv hK hP (ci := 4) (q0 := 0) rfl rfl) rfl rfl (by decide) (by decide) (by decide) rfl hl.1 rfl (Nat.le_of_ble_eq_true rfl) d_Writer_writeUtf8_47 ⟨Nat.zero_le _, Nat.zero_le _⟩ (fun u_5 H locs hw hP hD hS => ?_)
    obtain ⟨f0_5, l0_5, o0_5⟩ := u_5
    have e_5 := hw.1
    have hr0_5 := hw.2
    have hP : va_P D vwCl [(a0, .inr (4, [.ref b0, .int (nI l0_5.length), .int o0_5])), (b0, .inl (kI, n0, .inl f0_5))] H := hP
    have hD : va_D A [(a0, .inr (4, [.ref b0, .int (nI l0_5.length), .int o0_5])), (b0, .inl (kI, n0, .inl f0_5))] := hD
    rw [e_5] at hF; dsimp only at hF
    refine lv_goto (tgt := 125) hx hb d_Writer_writeUtf8_50 (by decide) ?_
    refine lv_aload_n hx hb d_Writer_writeUtf8_125 rfl (lv_at hl 1 rfl) ?_
    refine lv_sipush (v := 128) hx hb d_Writer_writeUtf8_126 (by decide) ?_
    refine lv_iload_n hx hb d_Writer_writeUtf8_129 rfl (lv_at hl 0 rfl) ?_
    refine lv_bipush (v := 63) hx hb d_Writer_writeUtf8_130 (by decide) ?_
    refine lv_iand hx hb d_Writer_writeUtf8_132 ?_
    refine lv_ior hx hb d_Writer_writeUtf8_133 ?_
    refine g_Vv (As := [.int (128 ||| (p0 &&& 63))]) (rest := []) (wr := []) ⟨hx, hb, hml, hown, hts⟩ (c_Row_put l D Z kI a0 b0 n0 H.size f0_5 l0_5 o0_5 (128 ||| (p0 &&& 63)) hr0_5) (cw_Row_put hts k_710 ⟨Nat.le_of_ble_eq_true rfl, Nat.le_of_ble_eq_true rfl⟩) hK hZ hP hD hS hA [0, 1] [] (g_recv hK hP (ci := 4) (q0 := 0) rfl rfl) rfl rfl (by decide) (by decide) (by decide) rfl hl.1 rfl (Nat.le_of_ble_eq_true rfl) d_Writer_writeUtf8_134 ⟨Nat.zero_le _, Nat.zero_le _⟩ (fun u_6 H locs hw hP hD hS => ?_)
    obtain ⟨f0_6, l0_6, o0_6⟩ := u_6
    have e_6 := hw.1
    have hr0_6 := hw.2
    have hP : va_P D vwCl [(a0, .inr (4, [.ref b0, .int (nI l0_6.length), .int o0_6])), (b0, .inl (kI, n0, .inl f0_6))] H := hP
    have hD : va_D A [(a0, .inr (4, [.ref b0, .int (nI l0_6.length), .int o0_6])), (b0, .inl (kI, n0, .inl f0_6))] := hD
    rw [e_6] at hF; dsimp only at hF
    exact hret (f0_6, l0_6, o0_6) _ _ _ _ d_Writer_writeUtf8_137 (⟨hRES.symm.trans hF, hr0_6⟩) hP hD hS
  rw [if_neg c_4] at hF
  by_cases c_7 : (m_Writer_utf8WidthOf p0) = 3
  · rw [if_pos c_7] at hF
    refine lv_tableIn (off := 49) (tgt := 53) hx hb d_Writer_writeUtf8_4 (by rw [c_7]; decide) (by rw [c_7]; decide) (by rw [c_7]; decide) (by decide) ?_
    refine lv_aload_n hx hb d_Writer_writeUtf8_53 rfl (lv_at hl 1 rfl) ?_
    refine lv_sipush (v := 224) hx hb d_Writer_writeUtf8_54 (by decide) ?_
    refine lv_iload_n hx hb d_Writer_writeUtf8_57 rfl (lv_at hl 0 rfl) ?_
    refine lv_bipush (v := 12) hx hb d_Writer_writeUtf8_58 (by decide) ?_
    refine lv_ishr hx hb d_Writer_writeUtf8_60 ?_
    refine lv_ior hx hb d_Writer_writeUtf8_61 ?_
    refine g_Vv (As := [.int (224 ||| (p0 >>> ((12 : Int32) &&& 31)))]) (rest := []) (wr := []) ⟨hx, hb, hml, hown, hts⟩ (c_Row_put l D Z kI a0 b0 n0 H.size f0 l0 o0 (224 ||| (p0 >>> ((12 : Int32) &&& 31))) hr0) (cw_Row_put hts k_710 ⟨Nat.le_of_ble_eq_true rfl, Nat.le_of_ble_eq_true rfl⟩) hK hZ hP hD hS hA [0, 1] [] (g_recv hK hP (ci := 4) (q0 := 0) rfl rfl) rfl rfl (by decide) (by decide) (by decide) rfl hl.1 rfl (Nat.le_of_ble_eq_true rfl) d_Writer_writeUtf8_62 ⟨Nat.zero_le _, Nat.zero_le _⟩ (fun u_8 H locs hw hP hD hS => ?_)
    obtain ⟨f0_8, l0_8, o0_8⟩ := u_8
    have e_8 := hw.1
    have hr0_8 := hw.2
    have hP : va_P D vwCl [(a0, .inr (4, [.ref b0, .int (nI l0_8.length), .int o0_8])), (b0, .inl (kI, n0, .inl f0_8))] H := hP
    have hD : va_D A [(a0, .inr (4, [.ref b0, .int (nI l0_8.length), .int o0_8])), (b0, .inl (kI, n0, .inl f0_8))] := hD
    rw [e_8] at hF; dsimp only at hF
    refine lv_aload_n hx hb d_Writer_writeUtf8_65 rfl (lv_at hl 1 rfl) ?_
    refine lv_sipush (v := 128) hx hb d_Writer_writeUtf8_66 (by decide) ?_
    refine lv_iload_n hx hb d_Writer_writeUtf8_69 rfl (lv_at hl 0 rfl) ?_
    refine lv_bipush (v := 6) hx hb d_Writer_writeUtf8_70 (by decide) ?_
    refine lv_ishr hx hb d_Writer_writeUtf8_72 ?_
    refine lv_bipush (v := 63) hx hb d_Writer_writeUtf8_73 (by decide) ?_
    refine lv_iand hx hb d_Writer_writeUtf8_75 ?_
    refine lv_ior hx hb d_Writer_writeUtf8_76 ?_
    refine g_Vv (As := [.int (128 ||| ((p0 >>> ((6 : Int32) &&& 31)) &&& 63))]) (rest := []) (wr := []) ⟨hx, hb, hml, hown, hts⟩ (c_Row_put l D Z kI a0 b0 n0 H.size f0_8 l0_8 o0_8 (128 ||| ((p0 >>> ((6 : Int32) &&& 31)) &&& 63)) hr0_8) (cw_Row_put hts k_710 ⟨Nat.le_of_ble_eq_true rfl, Nat.le_of_ble_eq_true rfl⟩) hK hZ hP hD hS hA [0, 1] [] (g_recv hK hP (ci := 4) (q0 := 0) rfl rfl) rfl rfl (by decide) (by decide) (by decide) rfl hl.1 rfl (Nat.le_of_ble_eq_true rfl) d_Writer_writeUtf8_77 ⟨Nat.zero_le _, Nat.zero_le _⟩ (fun u_9 H locs hw hP hD hS => ?_)
    obtain ⟨f0_9, l0_9, o0_9⟩ := u_9
    have e_9 := hw.1
    have hr0_9 := hw.2
    have hP : va_P D vwCl [(a0, .inr (4, [.ref b0, .int (nI l0_9.length), .int o0_9])), (b0, .inl (kI, n0, .inl f0_9))] H := hP
    have hD : va_D A [(a0, .inr (4, [.ref b0, .int (nI l0_9.length), .int o0_9])), (b0, .inl (kI, n0, .inl f0_9))] := hD
    rw [e_9] at hF; dsimp only at hF
    refine lv_goto (tgt := 125) hx hb d_Writer_writeUtf8_80 (by decide) ?_
    refine lv_aload_n hx hb d_Writer_writeUtf8_125 rfl (lv_at hl 1 rfl) ?_
    refine lv_sipush (v := 128) hx hb d_Writer_writeUtf8_126 (by decide) ?_
    refine lv_iload_n hx hb d_Writer_writeUtf8_129 rfl (lv_at hl 0 rfl) ?_
    refine lv_bipush (v := 63) hx hb d_Writer_writeUtf8_130 (by decide) ?_
    refine lv_iand hx hb d_Writer_writeUtf8_132 ?_
    refine lv_ior hx hb d_Writer_writeUtf8_133 ?_
    refine g_Vv (As := [.int (128 ||| (p0 &&& 63))]) (rest := []) (wr := []) ⟨hx, hb, hml, hown, hts⟩ (c_Row_put l D Z kI a0 b0 n0 H.size f0_9 l0_9 o0_9 (128 ||| (p0 &&& 63)) hr0_9) (cw_Row_put hts k_710 ⟨Nat.le_of_ble_eq_true rfl, Nat.le_of_ble_eq_true rfl⟩) hK hZ hP hD hS hA [0, 1] [] (g_recv hK hP (ci := 4) (q0 := 0) rfl rfl) rfl rfl (by decide) (by decide) (by decide) rfl hl.1 rfl (Nat.le_of_ble_eq_true rfl) d_Writer_writeUtf8_134 ⟨Nat.zero_le _, Nat.zero_le _⟩ (fun u_10 H locs hw hP hD hS => ?_)
    obtain ⟨f0_10, l0_10, o0_10⟩ := u_10
    have e_10 := hw.1
    have hr0_10 := hw.2
    have hP : va_P D vwCl [(a0, .inr (4, [.ref b0, .int (nI l0_10.length), .int o0_10])), (b0, .inl (kI, n0, .inl f0_10))] H := hP
    have hD : va_D A [(a0, .inr (4, [.ref b0, .int (nI l0_10.length), .int o0_10])), (b0, .inl (kI, n0, .inl f0_10))] := hD
    rw [e_10] at hF; dsimp only at hF
    exact hret (f0_10, l0_10, o0_10) _ _ _ _ d_Writer_writeUtf8_137 (⟨hRES.symm.trans hF, hr0_10⟩) hP hD hS
  rw [if_neg c_7] at hF
  refine lv_tableOut (tgt := 83) hx hb d_Writer_writeUtf8_4 (by have := lv_neT c_2 (a := 1) (by decide); have := lv_neT c_4 (a := 2) (by decide); have := lv_neT c_7 (a := 3) (by decide); omega) (by decide) ?_
  refine lv_aload_n hx hb d_Writer_writeUtf8_83 rfl (lv_at hl 1 rfl) ?_
  refine lv_sipush (v := 240) hx hb d_Writer_writeUtf8_84 (by decide) ?_
  refine lv_iload_n hx hb d_Writer_writeUtf8_87 rfl (lv_at hl 0 rfl) ?_
  refine lv_bipush (v := 18) hx hb d_Writer_writeUtf8_88 (by decide) ?_
  refine lv_ishr hx hb d_Writer_writeUtf8_90 ?_
  refine lv_ior hx hb d_Writer_writeUtf8_91 ?_
  refine g_Vv (As := [.int (240 ||| (p0 >>> ((18 : Int32) &&& 31)))]) (rest := []) (wr := []) ⟨hx, hb, hml, hown, hts⟩ (c_Row_put l D Z kI a0 b0 n0 H.size f0 l0 o0 (240 ||| (p0 >>> ((18 : Int32) &&& 31))) hr0) (cw_Row_put hts k_710 ⟨Nat.le_of_ble_eq_true rfl, Nat.le_of_ble_eq_true rfl⟩) hK hZ hP hD hS hA [0, 1] [] (g_recv hK hP (ci := 4) (q0 := 0) rfl rfl) rfl rfl (by decide) (by decide) (by decide) rfl hl.1 rfl (Nat.le_of_ble_eq_true rfl) d_Writer_writeUtf8_92 ⟨Nat.zero_le _, Nat.zero_le _⟩ (fun u_11 H locs hw hP hD hS => ?_)
  obtain ⟨f0_11, l0_11, o0_11⟩ := u_11
  have e_11 := hw.1
  have hr0_11 := hw.2
  have hP : va_P D vwCl [(a0, .inr (4, [.ref b0, .int (nI l0_11.length), .int o0_11])), (b0, .inl (kI, n0, .inl f0_11))] H := hP
  have hD : va_D A [(a0, .inr (4, [.ref b0, .int (nI l0_11.length), .int o0_11])), (b0, .inl (kI, n0, .inl f0_11))] := hD
  rw [e_11] at hF; dsimp only at hF
  refine lv_aload_n hx hb d_Writer_writeUtf8_95 rfl (lv_at hl 1 rfl) ?_
  refine lv_sipush (v := 128) hx hb d_Writer_writeUtf8_96 (by decide) ?_
  refine lv_iload_n hx hb d_Writer_writeUtf8_99 rfl (lv_at hl 0 rfl) ?_
  refine lv_bipush (v := 12) hx hb d_Writer_writeUtf8_100 (by decide) ?_
  refine lv_ishr hx hb d_Writer_writeUtf8_102 ?_
  refine lv_bipush (v := 63) hx hb d_Writer_writeUtf8_103 (by decide) ?_
  refine lv_iand hx hb d_Writer_writeUtf8_105 ?_
  refine lv_ior hx hb d_Writer_writeUtf8_106 ?_
  refine g_Vv (As := [.int (128 ||| ((p0 >>> ((12 : Int32) &&& 31)) &&& 63))]) (rest := []) (wr := []) ⟨hx, hb, hml, hown, hts⟩ (c_Row_put l D Z kI a0 b0 n0 H.size f0_11 l0_11 o0_11 (128 ||| ((p0 >>> ((12 : Int32) &&& 31)) &&& 63)) hr0_11) (cw_Row_put hts k_710 ⟨Nat.le_of_ble_eq_true rfl, Nat.le_of_ble_eq_true rfl⟩) hK hZ hP hD hS hA [0, 1] [] (g_recv hK hP (ci := 4) (q0 := 0) rfl rfl) rfl rfl (by decide) (by decide) (by decide) rfl hl.1 rfl (Nat.le_of_ble_eq_true rfl) d_Writer_writeUtf8_107 ⟨Nat.zero_le _, Nat.zero_le _⟩ (fun u_12 H locs hw hP hD hS => ?_)
  obtain ⟨f0_12, l0_12, o0_12⟩ := u_12
  have e_12 := hw.1
  have hr0_12 := hw.2
  have hP : va_P D vwCl [(a0, .inr (4, [.ref b0, .int (nI l0_12.length), .int o0_12])), (b0, .inl (kI, n0, .inl f0_12))] H := hP
  have hD : va_D A [(a0, .inr (4, [.ref b0, .int (nI l0_12.length), .int o0_12])), (b0, .inl (kI, n0, .inl f0_12))] := hD
  rw [e_12] at hF; dsimp only at hF
  refine lv_aload_n hx hb d_Writer_writeUtf8_110 rfl (lv_at hl 1 rfl) ?_
  refine lv_sipush (v := 128) hx hb d_Writer_writeUtf8_111 (by decide) ?_
  refine lv_iload_n hx hb d_Writer_writeUtf8_114 rfl (lv_at hl 0 rfl) ?_
  refine lv_bipush (v := 6) hx hb d_Writer_writeUtf8_115 (by decide) ?_
  refine lv_ishr hx hb d_Writer_writeUtf8_117 ?_
  refine lv_bipush (v := 63) hx hb d_Writer_writeUtf8_118 (by decide) ?_
  refine lv_iand hx hb d_Writer_writeUtf8_120 ?_
  refine lv_ior hx hb d_Writer_writeUtf8_121 ?_
  refine g_Vv (As := [.int (128 ||| ((p0 >>> ((6 : Int32) &&& 31)) &&& 63))]) (rest := []) (wr := []) ⟨hx, hb, hml, hown, hts⟩ (c_Row_put l D Z kI a0 b0 n0 H.size f0_12 l0_12 o0_12 (128 ||| ((p0 >>> ((6 : Int32) &&& 31)) &&& 63)) hr0_12) (cw_Row_put hts k_710 ⟨Nat.le_of_ble_eq_true rfl, Nat.le_of_ble_eq_true rfl⟩) hK hZ hP hD hS hA [0, 1] [] (g_recv hK hP (ci := 4) (q0 := 0) rfl rfl) rfl rfl (by decide) (by decide) (by decide) rfl hl.1 rfl (Nat.le_of_ble_eq_true rfl) d_Writer_writeUtf8_122 ⟨Nat.zero_le _, Nat.zero_le _⟩ (fun u_13 H locs hw hP hD hS => ?_)
  obtain ⟨f0_13, l0_13, o0_13⟩ := u_13
  have e_13 := hw.1
  have hr0_13 := hw.2
  have hP : va_P D vwCl [(a0, .inr (4, [.ref b0, .int (nI l0_13.length), .int o0_13])), (b0, .inl (kI, n0, .inl f0_13))] H := hP
  have hD : va_D A [(a0, .inr (4, [.ref b0, .int (nI l0_13.length), .int o0_13])), (b0, .inl (kI, n0, .inl f0_13))] := hD
  rw [e_13] at hF; dsimp only at hF
  refine lv_aload_n hx hb d_Writer_writeUtf8_125 rfl (lv_at hl 1 rfl) ?_
  refine lv_sipush (v := 128) hx hb d_Writer_writeUtf8_126 (by decide) ?_
  refine lv_iload_n hx hb d_Writer_writeUtf8_129 rfl (lv_at hl 0 rfl) ?_
  refine lv_bipush (v := 63) hx hb d_Writer_writeUtf8_130 (by decide) ?_
  refine lv_iand hx hb d_Writer_writeUtf8_132 ?_
  refine lv_ior hx hb d_Writer_writeUtf8_133 ?_
  refine g_Vv (As := [.int (128 ||| (p0 &&& 63))]) (rest := []) (wr := []) ⟨hx, hb, hml, hown, hts⟩ (c_Row_put l D Z kI a0 b0 n0 H.size f0_13 l0_13 o0_13 (128 ||| (p0 &&& 63)) hr0_13) (cw_Row_put hts k_710 ⟨Nat.le_of_ble_eq_true rfl, Nat.le_of_ble_eq_true rfl⟩) hK hZ hP hD hS hA [0, 1] [] (g_recv hK hP (ci := 4) (q0 := 0) rfl rfl) rfl rfl (by decide) (by decide) (by decide) rfl hl.1 rfl (Nat.le_of_ble_eq_true rfl) d_Writer_writeUtf8_134 ⟨Nat.zero_le _, Nat.zero_le _⟩ (fun u_14 H locs hw hP hD hS => ?_)
  obtain ⟨f0_14, l0_14, o0_14⟩ := u_14
  have e_14 := hw.1
  have hr0_14 := hw.2
  have hP : va_P D vwCl [(a0, .inr (4, [.ref b0, .int (nI l0_14.length), .int o0_14])), (b0, .inl (kI, n0, .inl f0_14))] H := hP
  have hD : va_D A [(a0, .inr (4, [.ref b0, .int (nI l0_14.length), .int o0_14])), (b0, .inl (kI, n0, .inl f0_14))] := hD
  rw [e_14] at hF; dsimp only at hF
  exact hret (f0_14, l0_14, o0_14) _ _ _ _ d_Writer_writeUtf8_137 (⟨hRES.symm.trans hF, hr0_14⟩) hP hD hS
theorem cw_Writer_writeUtf8 {R : Room} {s : State} {args : Array Value} {own : String} {idx : Nat} (hts : ∀ w ∈ gW, w.before args s = true) (hl : Cond.methodLink own idx y_Writer_writeUtf8 ∈ gW) (hR : rm_Writer_writeUtf8.frames + 1 ≤ R.frames ∧ 8 + (2 + 11) + rm_Writer_writeUtf8.locals ≤ R.locals) : CallB R s args own idx y_Writer_writeUtf8 b_Writer_writeUtf8 2 none w_Writer_writeUtf8 rm_Writer_writeUtf8 0 0 2 ∧ (Cond.static y_Writer_writeUtf8).before args s = true := va_cwS 2 hts (gW_S hl k_745 k_75 k_746) rfl rfl rfl (by decide +kernel) hR
