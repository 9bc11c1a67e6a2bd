def m_Uncoder_unquoteLines_l9 (n3 : Nat) : Nat → Int32 → List Int32 → Int32 → Int32 → Int32 → Int32 → List Int32 → Int32 → Int32 × Int32 × Int32 × Int32 × List Int32 × Int32
  | 0, _, _, v2_from, v2_to, v2_ended, v2_next, l3, o3 => (v2_from, v2_to, v2_ended, v2_next, l3, o3)
  | nf9 + 1, i3, l0, v2_from, v2_to, v2_ended, v2_next, l3, o3 =>
    if (m_Row_size l0) ≤ i3 then
      (v2_from, v2_to, v2_ended, v2_next, l3, o3)
    else
      match (m_Line_step l0 v2_from v2_to v2_ended v2_next) with
      | (r_4, v1_from_4, v1_to_4, v1_ended_4, v1_next_4) =>
        if r_4 = 0 then
          (v1_from_4, v1_to_4, v1_ended_4, v1_next_4, l3, o3)
        else
          if (m_Uncoder_withoutBlanks l0 v1_from_4 v1_to_4) ≤ v1_from_4 then
            match (m_Uncoder_unquote n3 l0 l3 o3 v1_from_4 (m_Uncoder_withoutBlanks l0 v1_from_4 v1_to_4) 0) with
            | (l1_9, o1_9) =>
              if v1_ended_4 = 0 then
                m_Uncoder_unquoteLines_l9 n3 nf9 (i3 + 1) l0 v1_from_4 v1_to_4 v1_ended_4 v1_next_4 l1_9 o1_9
              else
                match (m_Row_put n3 l1_9 o1_9 13) with
                | (l3_12, o3_12) =>
                  match (m_Row_put n3 l3_12 o3_12 10) with
                  | (l3_13, o3_13) =>
                    m_Uncoder_unquoteLines_l9 n3 nf9 (i3 + 1) l0 v1_from_4 v1_to_4 v1_ended_4 v1_next_4 l3_13 o3_13
          else
            if (m_Row_get l0 ((m_Uncoder_withoutBlanks l0 v1_from_4 v1_to_4) - 1)) = 61 then
              match (m_Uncoder_unquote n3 l0 l3 o3 v1_from_4 ((m_Uncoder_withoutBlanks l0 v1_from_4 v1_to_4) - 1) 0) with
              | (l1_23, o1_23) =>
                if v1_ended_4 = 0 then
                  m_Uncoder_unquoteLines_l9 n3 nf9 (i3 + 1) l0 v1_from_4 v1_to_4 v1_ended_4 v1_next_4 l1_23 o1_23
                else
                  m_Uncoder_unquoteLines_l9 n3 nf9 (i3 + 1) l0 v1_from_4 v1_to_4 v1_ended_4 v1_next_4 l1_23 o1_23
            else
              match (m_Uncoder_unquote n3 l0 l3 o3 v1_from_4 (m_Uncoder_withoutBlanks l0 v1_from_4 v1_to_4) 0) with
              | (l1_17, o1_17) =>
                if v1_ended_4 = 0 then
                  m_Uncoder_unquoteLines_l9 n3 nf9 (i3 + 1) l0 v1_from_4 v1_to_4 v1_ended_4 v1_next_4 l1_17 o1_17
                else
                  match (m_Row_put n3 l1_17 o1_17 13) with
                  | (l3_20, o3_20) =>
                    match (m_Row_put n3 l3_20 o3_20 10) with
                    | (l3_21, o3_21) =>
                      m_Uncoder_unquoteLines_l9 n3 nf9 (i3 + 1) l0 v1_from_4 v1_to_4 v1_ended_4 v1_next_4 l3_21 o3_21
def m_Uncoder_unquoteLines (n3 : Nat) (l0 : List Int32) (v2_from : Int32) (v2_to : Int32) (v2_ended : Int32) (l3 : List Int32) (o3 : Int32) : Int32 × Int32 × Int32 × Int32 × List Int32 × Int32 :=
  m_Uncoder_unquoteLines_l9 n3 (((m_Row_size l0).toInt - (0 : Int32).toInt).toNat + 1) 0 l0 v2_from v2_to v2_ended m_Line_goToStart l3 o3
def rm_Uncoder_unquoteLines : Room := { frames := 2, cells := 0, slots := 0, locals := 49 }
set_option maxHeartbeats 4000000 in
set_option maxRecDepth 100000 in
theorem c_Uncoder_unquoteLines (l : Launch) (D : va_G) (Z : gZT) (kI : ClassId) (a0 : Nat) (b0 : Nat) (n0 : Nat) (a1 : Nat) (x1_bits : Nat) (a2 : Nat) (a3 : Nat) (b3 : Nat) (n3 : Nat) (sz : Nat) (f0 : Nat → Int32) (l0 : List Int32) (o0 : Int32) (v2_from : Int32) (v2_to : Int32) (v2_ended : Int32) (v2_next : Int32) (f3 : Nat → Int32) (l3 : List Int32) (o3 : Int32) (hr0 : g_rw n0 f0 l0) (hr3 : g_rw n3 f3 l3) : gMv l y_Uncoder_unquoteLines w_Uncoder_unquoteLines rm_Uncoder_unquoteLines D Z kI [.ref a1, .ref a0, .ref a3] sz [(a0, .inr (4, [.ref b0, .int (nI l0.length), .int o0])), (b0, .inl (kI, n0, .inl f0)), (a1, .inr (5, [.ref x1_bits, .ref a2])), (a2, .inr (2, [.int v2_from, .int v2_to, .int v2_ended, .int v2_next])), (a3, .inr (4, [.ref b3, .int (nI l3.length), .int o3])), (b3, .inl (kI, n3, .inl f3))] (fun (u : Int32 × Int32 × Int32 × Int32 × (Nat → Int32) × List Int32 × Int32) => m_Uncoder_unquoteLines n3 l0 v2_from v2_to v2_ended l3 o3 = (u.1, u.2.1, u.2.2.1, u.2.2.2.1, u.2.2.2.2.2.1, u.2.2.2.2.2.2) ∧ g_rw n3 u.2.2.2.2.1 u.2.2.2.2.2.1) (fun (u : Int32 × Int32 × Int32 × Int32 × (Nat → Int32) × List Int32 × Int32) => ([(a0, .inr (4, [.ref b0, .int (nI l0.length), .int o0])), (b0, .inl (kI, n0, .inl f0)), (a1, .inr (5, [.ref x1_bits, .ref a2])), (a2, .inr (2, [.int u.1, .int u.2.1, .int u.2.2.1, .int u.2.2.2.1])), (a3, .inr (4, [.ref b3, .int (nI u.2.2.2.2.2.1.length), .int u.2.2.2.2.2.2])), (b3, .inl (kI, n3, .inl u.2.2.2.2.1))] : va_W)) := by
  refine g_ofv (cc := b_Uncoder_unquoteLines) (maxL := 6) (by decide) rfl (Nat.le_of_ble_eq_true rfl) ?_
  intro p e s m below meth c A Q H ls hx hb hml hown hts hA hK hZ hP hD hS hl hret
  have hown : s.vm.findClass "MailCharacters$Uncoder" = some m.cls := hown
  have hl : lv_has ls 6 [(0, .ref a1), (1, .ref a0), (2, .ref a3)] := hl
  obtain ⟨RES, hRES⟩ : ∃ z, z = m_Uncoder_unquoteLines n3 l0 v2_from v2_to v2_ended l3 o3 := ⟨_, rfl⟩
  have lp9 : ∀ (nf9 : Nat) (i3 : Int32) (v2_from : Int32) (v2_to : Int32) (v2_ended : Int32) (v2_next : Int32) (f3 : Nat → Int32) (l3 : List Int32) (o3 : Int32) (hr3 : g_rw n3 f3 l3) (H : Heap) (locs : List Loc) (ls : Array Slot), ((m_Row_size l0).toInt - i3.toInt).toNat < nf9 → RES = m_Uncoder_unquoteLines_l9 n3 nf9 i3 l0 v2_from v2_to v2_ended v2_next l3 o3 → va_P D vwCl [(a0, .inr (4, [.ref b0, .int (nI l0.length), .int o0])), (b0, .inl (kI, n0, .inl f0)), (a1, .inr (5, [.ref x1_bits, .ref a2])), (a2, .inr (2, [.int v2_from, .int v2_to, .int v2_ended, .int v2_next])), (a3, .inr (4, [.ref b3, .int (nI l3.length), .int o3])), (b3, .inl (kI, n3, .inl f3))] H → va_D A [(a0, .inr (4, [.ref b0, .int (nI l0.length), .int o0])), (b0, .inl (kI, n0, .inl f0)), (a1, .inr (5, [.ref x1_bits, .ref a2])), (a2, .inr (2, [.int v2_from, .int v2_to, .int v2_ended, .int v2_next])), (a3, .inr (4, [.ref b3, .int (nI l3.length), .int o3])), (b3, .inl (kI, n3, .inl f3))] → va_S A s.heap H locs → lv_has ls 6 [(0, .ref a1), (1, .ref a0), (2, .ref a3), (3, .int i3)] → W p l e rm_Uncoder_unquoteLines s m ([.ref a1, .ref a0, .ref a3] : List Value).toArray below meth c H locs 0 0 Q (F0 m 9 ls []) := by
    intro nf9
    induction nf9 with
    | zero => intro i3 v2_from v2_to v2_ended v2_next f3 l3 o3 hr3 H locs ls hn9; exact absurd hn9 (Nat.not_lt_zero _)
    | succ nf9 ih9 =>
      intro i3 v2_from v2_to v2_ended v2_next f3 l3 o3 hr3 H locs ls hn9 hF hP hD hS hl
      rw [m_Uncoder_unquoteLines_l9] at hF
      refine lv_iload_n hx hb d_Uncoder_unquoteLines_9 rfl (lv_at hl 3 rfl) ?_
      refine lv_aload_n hx hb d_Uncoder_unquoteLines_10 rfl (lv_at hl 1 rfl) ?_
      refine g_Vi (As := []) (rest := [.int i3]) (wr := [(a1, .inr (5, [.ref x1_bits, .ref a2])), (a2, .inr (2, [.int v2_from, .int v2_to, .int v2_ended, .int v2_next])), (a3, .inr (4, [.ref b3, .int (nI l3.length), .int o3])), (b3, .inl (kI, n3, .inl f3))]) ⟨hx, hb, hml, hown, hts⟩ (c_Row_size l D Z kI a0 b0 n0 H.size f0 l0 o0 hr0) (cw_Row_size hts k_611 ⟨Nat.le_of_ble_eq_true rfl, Nat.le_of_ble_eq_true rfl⟩) hK hZ hP hD hS hA [0, 1] [2, 3, 4, 5] (g_recv hK hP (ci := 4) (q0 := 0) rfl rfl) rfl rfl (by decide) (by decide) (by decide) rfl hl.1 rfl (Nat.le_of_ble_eq_true rfl) d_Uncoder_unquoteLines_11 ⟨Nat.zero_le _, Nat.zero_le _⟩ (fun r_2 u_2 H locs hw hP hD hS => ?_)
      have e_2 := hw
      subst e_2
      have hP : va_P D vwCl [(a1, .inr (5, [.ref x1_bits, .ref a2])), (a2, .inr (2, [.int v2_from, .int v2_to, .int v2_ended, .int v2_next])), (a3, .inr (4, [.ref b3, .int (nI l3.length), .int o3])), (b3, .inl (kI, n3, .inl f3)), (a0, .inr (4, [.ref b0, .int (nI l0.length), .int o0])), (b0, .inl (kI, n0, .inl f0))] H := hP
      have hD : va_D A [(a1, .inr (5, [.ref x1_bits, .ref a2])), (a2, .inr (2, [.int v2_from, .int v2_to, .int v2_ended, .int v2_next])), (a3, .inr (4, [.ref b3, .int (nI l3.length), .int o3])), (b3, .inl (kI, n3, .inl f3)), (a0, .inr (4, [.ref b0, .int (nI l0.length), .int o0])), (b0, .inl (kI, n0, .inl f0))] := hD
      refine lv_icmp_ge (tgt := 140) hx hb d_Uncoder_unquoteLines_14 (by decide) (fun c_3 => ?_) (fun c_3 => ?_)
      · rw [if_pos c_3] at hF
        exact hret (v2_from, v2_to, v2_ended, v2_next, f3, l3, o3) _ _ _ _ d_Uncoder_unquoteLines_140 (⟨hRES.symm.trans hF, hr3⟩) (hP.sub [4, 5, 0, 1, 2, 3] rfl) (hD.sub [4, 5, 0, 1, 2, 3] (by decide) rfl) hS
      · rw [if_neg c_3] at hF
        refine lv_aload_n hx hb d_Uncoder_unquoteLines_17 rfl (lv_at hl 0 rfl) ?_
        refine va_get (D := D) (ci := 5) (v := .ref a2) (C := "MailCharacters$Uncoder") (T := F_Uncoder) (N := 2) hx hb hts i_Uncoder hown hK hP 0 rfl rfl 1 (by decide) (hts _ k_161) (fun _ h9 => h9) rfl d_Uncoder_unquoteLines_18 ?_
        refine lv_aload_n hx hb d_Uncoder_unquoteLines_21 rfl (lv_at hl 1 rfl) ?_
        refine g_Vi (As := [.ref a0]) (rest := []) (wr := [(a1, .inr (5, [.ref x1_bits, .ref a2])), (a3, .inr (4, [.ref b3, .int (nI l3.length), .int o3])), (b3, .inl (kI, n3, .inl f3))]) ⟨hx, hb, hml, hown, hts⟩ (c_Line_step l D Z kI a0 b0 n0 a2 H.size f0 l0 o0 v2_from v2_to v2_ended v2_next hr0) (cw_Line_step hts k_620 ⟨Nat.le_of_ble_eq_true rfl, Nat.le_of_ble_eq_true rfl⟩) hK hZ hP hD hS hA [4, 5, 1] [0, 2, 3] (g_recv hK hP (ci := 2) (q0 := 1) rfl rfl) rfl rfl (by decide) (by decide) (by decide) rfl hl.1 rfl (Nat.le_of_ble_eq_true rfl) d_Uncoder_unquoteLines_22 ⟨Nat.zero_le _, Nat.zero_le _⟩ (fun r_4 u_4 H locs hw hP hD hS => ?_)
        obtain ⟨v1_from_4, v1_to_4, v1_ended_4, v1_next_4⟩ := u_4
        have e_4 := hw
        have hP : va_P D vwCl [(a1, .inr (5, [.ref x1_bits, .ref a2])), (a3, .inr (4, [.ref b3, .int (nI l3.length), .int o3])), (b3, .inl (kI, n3, .inl f3)), (a0, .inr (4, [.ref b0, .int (nI l0.length), .int o0])), (b0, .inl (kI, n0, .inl f0)), (a2, .inr (2, [.int v1_from_4, .int v1_to_4, .int v1_ended_4, .int v1_next_4]))] H := hP
        have hD : va_D A [(a1, .inr (5, [.ref x1_bits, .ref a2])), (a3, .inr (4, [.ref b3, .int (nI l3.length), .int o3])), (b3, .inl (kI, n3, .inl f3)), (a0, .inr (4, [.ref b0, .int (nI l0.length), .int o0])), (b0, .inl (kI, n0, .inl f0)), (a2, .inr (2, [.int v1_from_4, .int v1_to_4, .int v1_ended_4, .int v1_next_4]))] := hD
        rw [e_4] at hF; dsimp only at hF
        refine lv_if_eq (tgt := 140) hx hb d_Uncoder_unquoteLines_25 (by decide) (fun c_5 => ?_) (fun c_5 => ?_)
        · rw [if_pos c_5] at hF
          exact hret (v1_from_4, v1_to_4, v1_ended_4, v1_next_4, f3, l3, o3) _ _ _ _ d_Uncoder_unquoteLines_140 (⟨hRES.symm.trans hF, hr3⟩) (hP.sub [3, 4, 0, 5, 1, 2] rfl) (hD.sub [3, 4, 0, 5, 1, 2] (by decide) rfl) hS
        · rw [if_neg c_5] at hF
          refine lv_aload_n hx hb d_Uncoder_unquoteLines_28 rfl (lv_at hl 1 rfl) ?_
          refine lv_aload_n hx hb d_Uncoder_unquoteLines_29 rfl (lv_at hl 0 rfl) ?_
          refine va_get (D := D) (ci := 5) (v := .ref a2) (C := "MailCharacters$Uncoder") (T := F_Uncoder) (N := 2) hx hb hts i_Uncoder hown hK hP 0 rfl rfl 1 (by decide) (hts _ k_161) (fun _ h9 => h9) rfl d_Uncoder_unquoteLines_30 ?_
          refine va_getN (D := D) (ci := 2) (v := .int v1_from_4) (C := "MailCharacters$Line") (T := F_Line) (N := 4) hx hb hts i_Line hown hK hP 5 rfl rfl 0 (by decide) (gZ_nf hZ 6 (q := ("MailCharacters$Uncoder", 93, "MailCharacters$Line", "from", "I")) rfl) (fun _ h9 => h9) rfl d_Uncoder_unquoteLines_33 ?_
          refine lv_aload_n hx hb d_Uncoder_unquoteLines_36 rfl (lv_at hl 0 rfl) ?_
          refine va_get (D := D) (ci := 5) (v := .ref a2) (C := "MailCharacters$Uncoder") (T := F_Uncoder) (N := 2) hx hb hts i_Uncoder hown hK hP 0 rfl rfl 1 (by decide) (hts _ k_161) (fun _ h9 => h9) rfl d_Uncoder_unquoteLines_37 ?_
          refine va_getN (D := D) (ci := 2) (v := .int v1_to_4) (C := "MailCharacters$Line") (T := F_Line) (N := 4) hx hb hts i_Line hown hK hP 5 rfl rfl 1 (by decide) (gZ_nf hZ 7 (q := ("MailCharacters$Uncoder", 94, "MailCharacters$Line", "to", "I")) rfl) (fun _ h9 => h9) rfl d_Uncoder_unquoteLines_40 ?_
          refine g_Si (As := [.ref a0, .int v1_from_4, .int v1_to_4]) (rest := []) (wr := [(a1, .inr (5, [.ref x1_bits, .ref a2])), (a3, .inr (4, [.ref b3, .int (nI l3.length), .int o3])), (b3, .inl (kI, n3, .inl f3)), (a2, .inr (2, [.int v1_from_4, .int v1_to_4, .int v1_ended_4, .int v1_next_4]))]) ⟨hx, hb, hml, hown, hts⟩ (c_Uncoder_withoutBlanks l D Z kI a0 b0 n0 H.size f0 l0 o0 v1_from_4 v1_to_4 hr0) (cw_Uncoder_withoutBlanks hts k_626 ⟨Nat.le_of_ble_eq_true rfl, Nat.le_of_ble_eq_true rfl⟩) hK hZ hP hD hS hA [3, 4] [0, 1, 2, 5] rfl rfl (by decide) (by decide) (by decide) rfl hl.1 rfl (Nat.le_of_ble_eq_true rfl) d_Uncoder_unquoteLines_43 ⟨Nat.zero_le _, Nat.zero_le _⟩ (fun r_6 u_6 H locs hw hP hD hS => ?_)
          have e_6 := hw
          subst e_6
          have hP : va_P D vwCl [(a1, .inr (5, [.ref x1_bits, .ref a2])), (a3, .inr (4, [.ref b3, .int (nI l3.length), .int o3])), (b3, .inl (kI, n3, .inl f3)), (a2, .inr (2, [.int v1_from_4, .int v1_to_4, .int v1_ended_4, .int v1_next_4])), (a0, .inr (4, [.ref b0, .int (nI l0.length), .int o0])), (b0, .inl (kI, n0, .inl f0))] H := hP
          have hD : va_D A [(a1, .inr (5, [.ref x1_bits, .ref a2])), (a3, .inr (4, [.ref b3, .int (nI l3.length), .int o3])), (b3, .inl (kI, n3, .inl f3)), (a2, .inr (2, [.int v1_from_4, .int v1_to_4, .int v1_ended_4, .int v1_next_4])), (a0, .inr (4, [.ref b0, .int (nI l0.length), .int o0])), (b0, .inl (kI, n0, .inl f0))] := hD
          refine lv_istore (lv' := [(4, .int (m_Uncoder_withoutBlanks l0 v1_from_4 v1_to_4)), (0, .ref a1), (1, .ref a0), (2, .ref a3), (3, .int i3)]) hx hb d_Uncoder_unquoteLines_46 hl (by decide) rfl (fun ls hl => ?_)
          refine lv_iload hx hb d_Uncoder_unquoteLines_48 (lv_at hl 0 rfl) ?_
          refine lv_aload_n hx hb d_Uncoder_unquoteLines_50 rfl (lv_at hl 1 rfl) ?_
          refine va_get (D := D) (ci := 5) (v := .ref a2) (C := "MailCharacters$Uncoder") (T := F_Uncoder) (N := 2) hx hb hts i_Uncoder hown hK hP 0 rfl rfl 1 (by decide) (hts _ k_161) (fun _ h9 => h9) rfl d_Uncoder_unquoteLines_51 ?_
          refine va_getN (D := D) (ci := 2) (v := .int v1_from_4) (C := "MailCharacters$Line") (T := F_Line) (N := 4) hx hb hts i_Line hown hK hP 3 rfl rfl 0 (by decide) (gZ_nf hZ 6 (q := ("MailCharacters$Uncoder", 93, "MailCharacters$Line", "from", "I")) rfl) (fun _ h9 => h9) rfl d_Uncoder_unquoteLines_54 ?_
          refine lv_icmp_le (tgt := 77) hx hb d_Uncoder_unquoteLines_57 (by decide) (fun c_7 => ?_) (fun c_7 => ?_)
          · rw [if_pos c_7] at hF
            refine lv_iconst (v := 0) hx hb d_Uncoder_unquoteLines_77 (by decide) ?_
            refine lv_istore (lv' := [(5, .int 0), (4, .int (m_Uncoder_withoutBlanks l0 v1_from_4 v1_to_4)), (0, .ref a1), (1, .ref a0), (2, .ref a3), (3, .int i3)]) hx hb d_Uncoder_unquoteLines_78 hl (by decide) rfl (fun ls hl => ?_)
            refine lv_aload_n hx hb d_Uncoder_unquoteLines_80 rfl (lv_at hl 3 rfl) ?_
            refine lv_aload_n hx hb d_Uncoder_unquoteLines_81 rfl (lv_at hl 2 rfl) ?_
            refine va_get (D := D) (ci := 5) (v := .ref a2) (C := "MailCharacters$Uncoder") (T := F_Uncoder) (N := 2) hx hb hts i_Uncoder hown hK hP 0 rfl rfl 1 (by decide) (hts _ k_161) (fun _ h9 => h9) rfl d_Uncoder_unquoteLines_82 ?_
            refine va_getN (D := D) (ci := 2) (v := .int v1_from_4) (C := "MailCharacters$Line") (T := F_Line) (N := 4) hx hb hts i_Line hown hK hP 3 rfl rfl 0 (by decide) (gZ_nf hZ 6 (q := ("MailCharacters$Uncoder", 93, "MailCharacters$Line", "from", "I")) rfl) (fun _ h9 => h9) rfl d_Uncoder_unquoteLines_85 ?_
            refine lv_iload hx hb d_Uncoder_unquoteLines_88 (lv_at hl 0 rfl) ?_
            refine lv_if_eq (tgt := 100) hx hb d_Uncoder_unquoteLines_90 (by decide) (fun c_8 => ?_) (fun c_8 => ?_)
            · refine lv_iload hx hb d_Uncoder_unquoteLines_100 (lv_at hl 1 rfl) ?_
              refine lv_iconst (v := 0) hx hb d_Uncoder_unquoteLines_102 (by decide) ?_
              refine lv_aload_n hx hb d_Uncoder_unquoteLines_103 rfl (lv_at hl 4 rfl) ?_
              refine g_Sv (As := [.ref a0, .int v1_from_4, .int (m_Uncoder_withoutBlanks l0 v1_from_4 v1_to_4), .int 0, .ref a3]) (rest := []) (wr := [(a1, .inr (5, [.ref x1_bits, .ref a2])), (a2, .inr (2, [.int v1_from_4, .int v1_to_4, .int v1_ended_4, .int v1_next_4]))]) ⟨hx, hb, hml, hown, hts⟩ (c_Uncoder_unquote l D Z kI a0 b0 n0 a3 b3 n3 H.size f0 l0 o0 f3 l3 o3 v1_from_4 (m_Uncoder_withoutBlanks l0 v1_from_4 v1_to_4) 0 hr0 hr3) (cw_Uncoder_unquote hts k_509 ⟨Nat.le_of_ble_eq_true rfl, Nat.le_of_ble_eq_true rfl⟩) hK hZ hP hD hS hA [4, 5, 1, 2] [0, 3] rfl rfl (by decide) (by decide) (by decide) rfl hl.1 rfl (Nat.le_of_ble_eq_true rfl) d_Uncoder_unquoteLines_104 ⟨Nat.zero_le _, Nat.zero_le _⟩ (fun u_9 H locs hw hP hD hS => ?_)
              obtain ⟨f1_9, l1_9, o1_9⟩ := u_9
              have e_9 := hw.1
              have hr1_9 := hw.2
              have hP : va_P D vwCl [(a1, .inr (5, [.ref x1_bits, .ref a2])), (a2, .inr (2, [.int v1_from_4, .int v1_to_4, .int v1_ended_4, .int v1_next_4])), (a0, .inr (4, [.ref b0, .int (nI l0.length), .int o0])), (b0, .inl (kI, n0, .inl f0)), (a3, .inr (4, [.ref b3, .int (nI l1_9.length), .int o1_9])), (b3, .inl (kI, n3, .inl f1_9))] H := hP
              have hD : va_D A [(a1, .inr (5, [.ref x1_bits, .ref a2])), (a2, .inr (2, [.int v1_from_4, .int v1_to_4, .int v1_ended_4, .int v1_next_4])), (a0, .inr (4, [.ref b0, .int (nI l0.length), .int o0])), (b0, .inl (kI, n0, .inl f0)), (a3, .inr (4, [.ref b3, .int (nI l1_9.length), .int o1_9])), (b3, .inl (kI, n3, .inl f1_9))] := hD
              rw [e_9] at hF; dsimp only at hF
              refine lv_aload_n hx hb d_Uncoder_unquoteLines_107 rfl (lv_at hl 2 rfl) ?_
              refine va_get (D := D) (ci := 5) (v := .ref a2) (C := "MailCharacters$Uncoder") (T := F_Uncoder) (N := 2) hx hb hts i_Uncoder hown hK hP 0 rfl rfl 1 (by decide) (hts _ k_161) (fun _ h9 => h9) rfl d_Uncoder_unquoteLines_108 ?_
              refine va_getN (D := D) (ci := 2) (v := .int v1_ended_4) (C := "MailCharacters$Line") (T := F_Line) (N := 4) hx hb hts i_Line hown hK hP 1 rfl rfl 2 (by decide) (gZ_nf hZ 8 (q := ("MailCharacters$Uncoder", 99, "MailCharacters$Line", "ended", "Z")) rfl) (fun _ h9 => h9) rfl d_Uncoder_unquoteLines_111 ?_
              refine lv_if_eq (tgt := 134) hx hb d_Uncoder_unquoteLines_114 (by decide) (fun c_10 => ?_) (fun c_10 => ?_)
              · rw [if_pos c_10] at hF
                refine lv_iinc (v := (i3 + 1)) (lv' := [(3, .int (i3 + 1)), (5, .int 0), (4, .int (m_Uncoder_withoutBlanks l0 v1_from_4 v1_to_4)), (0, .ref a1), (1, .ref a0), (2, .ref a3)]) hx hb d_Uncoder_unquoteLines_134 hl (k := 5) rfl rfl (by decide) rfl (fun ls hl => ?_)
                refine lv_goto (tgt := 9) hx hb d_Uncoder_unquoteLines_137 (by decide) ?_
                exact ih9 (i3 + 1) v1_from_4 v1_to_4 v1_ended_4 v1_next_4 f1_9 l1_9 o1_9 hr1_9 _ _ _  (Nat.lt_of_lt_of_le (g_dec1 c_3) (Nat.le_of_lt_succ hn9)) hF (hP.sub [2, 3, 0, 1, 4, 5] rfl) (hD.sub [2, 3, 0, 1, 4, 5] (by decide) rfl) hS (lv_sub hl [3, 4, 5, 0] rfl)
              · rw [if_neg c_10] at hF
                refine lv_iload hx hb d_Uncoder_unquoteLines_117 (lv_at hl 0 rfl) ?_
                refine lv_if_ne (tgt := 134) hx hb d_Uncoder_unquoteLines_119 (by decide) (fun c_11 => ?_) (fun c_11 => ?_)
                · exact absurd c_11 (by decide)
                · refine lv_aload_n hx hb d_Uncoder_unquoteLines_122 rfl (lv_at hl 4 rfl) ?_
                  refine lv_bipush (v := 13) hx hb d_Uncoder_unquoteLines_123 (by decide) ?_
                  refine g_Vv (As := [.int 13]) (rest := []) (wr := [(a1, .inr (5, [.ref x1_bits, .ref a2])), (a2, .inr (2, [.int v1_from_4, .int v1_to_4, .int v1_ended_4, .int v1_next_4])), (a0, .inr (4, [.ref b0, .int (nI l0.length), .int o0])), (b0, .inl (kI, n0, .inl f0))]) ⟨hx, hb, hml, hown, hts⟩ (c_Row_put l D Z kI a3 b3 n3 H.size f1_9 l1_9 o1_9 13 hr1_9) (cw_Row_put hts k_508 ⟨Nat.le_of_ble_eq_true rfl, Nat.le_of_ble_eq_true rfl⟩) hK hZ hP hD hS hA [4, 5] [0, 1, 2, 3] (g_recv hK hP (ci := 4) (q0 := 4) rfl rfl) rfl rfl (by decide) (by decide) (by decide) rfl hl.1 rfl (Nat.le_of_ble_eq_true rfl) d_Uncoder_unquoteLines_125 ⟨Nat.zero_le _, Nat.zero_le _⟩ (fun u_12 H locs hw hP hD hS => ?_)
                  obtain ⟨f3_12, l3_12, o3_12⟩ := u_12
                  have e_12 := hw.1
                  have hr3_12 := hw.2
                  have hP : va_P D vwCl [(a1, .inr (5, [.ref x1_bits, .ref a2])), (a2, .inr (2, [.int v1_from_4, .int v1_to_4, .int v1_ended_4, .int v1_next_4])), (a0, .inr (4, [.ref b0, .int (nI l0.length), .int o0])), (b0, .inl (kI, n0, .inl f0)), (a3, .inr (4, [.ref b3, .int (nI l3_12.length), .int o3_12])), (b3, .inl (kI, n3, .inl f3_12))] H := hP
                  have hD : va_D A [(a1, .inr (5, [.ref x1_bits, .ref a2])), (a2, .inr (2, [.int v1_from_4, .int v1_to_4, .int v1_ended_4, .int v1_next_4])), (a0, .inr (4, [.ref b0, .int (nI l0.length), .int o0])), (b0, .inl (kI, n0, .inl f0)), (a3, .inr (4, [.ref b3, .int (nI l3_12.length), .int o3_12])), (b3, .inl (kI, n3, .inl f3_12))] := hD
                  rw [e_12] at hF; dsimp only at hF
                  refine lv_aload_n hx hb d_Uncoder_unquoteLines_128 rfl (lv_at hl 4 rfl) ?_
                  refine lv_bipush (v := 10) hx hb d_Uncoder_unquoteLines_129 (by decide) ?_
                  refine g_Vv (As := [.int 10]) (rest := []) (wr := [(a1, .inr (5, [.ref x1_bits, .ref a2])), (a2, .inr (2, [.int v1_from_4, .int v1_to_4, .int v1_ended_4, .int v1_next_4])), (a0, .inr (4, [.ref b0, .int (nI l0.length), .int o0])), (b0, .inl (kI, n0, .inl f0))]) ⟨hx, hb, hml, hown, hts⟩ (c_Row_put l D Z kI a3 b3 n3 H.size f3_12 l3_12 o3_12 10 hr3_12) (cw_Row_put hts k_508 ⟨Nat.le_of_ble_eq_true rfl, Nat.le_of_ble_eq_true rfl⟩) hK hZ hP hD hS hA [4, 5] [0, 1, 2, 3] (g_recv hK hP (ci := 4) (q0 := 4) rfl rfl) rfl rfl (by decide) (by decide) (by decide) rfl hl.1 rfl (Nat.le_of_ble_eq_true rfl) d_Uncoder_unquoteLines_131 ⟨Nat.zero_le _, Nat.zero_le _⟩ (fun u_13 H locs hw hP hD hS => ?_)
                  obtain ⟨f3_13, l3_13, o3_13⟩ := u_13
                  have e_13 := hw.1
                  have hr3_13 := hw.2
                  have hP : va_P D vwCl [(a1, .inr (5, [.ref x1_bits, .ref a2])), (a2, .inr (2, [.int v1_from_4, .int v1_to_4, .int v1_ended_4, .int v1_next_4])), (a0, .inr (4, [.ref b0, .int (nI l0.length), .int o0])), (b0, .inl (kI, n0, .inl f0)), (a3, .inr (4, [.ref b3, .int (nI l3_13.length), .int o3_13])), (b3, .inl (kI, n3, .inl f3_13))] H := hP
                  have hD : va_D A [(a1, .inr (5, [.ref x1_bits, .ref a2])), (a2, .inr (2, [.int v1_from_4, .int v1_to_4, .int v1_ended_4, .int v1_next_4])), (a0, .inr (4, [.ref b0, .int (nI l0.length), .int o0])), (b0, .inl (kI, n0, .inl f0)), (a3, .inr (4, [.ref b3, .int (nI l3_13.length), .int o3_13])), (b3, .inl (kI, n3, .inl f3_13))] := hD
                  rw [e_13] at hF; dsimp only at hF
                  refine lv_iinc (v := (i3 + 1)) (lv' := [(3, .int (i3 + 1)), (5, .int 0), (4, .int (m_Uncoder_withoutBlanks l0 v1_from_4 v1_to_4)), (0, .ref a1), (1, .ref a0), (2, .ref a3)]) hx hb d_Uncoder_unquoteLines_134 hl (k := 5) rfl rfl (by decide) rfl (fun ls hl => ?_)
                  refine lv_goto (tgt := 9) hx hb d_Uncoder_unquoteLines_137 (by decide) ?_
                  exact ih9 (i3 + 1) v1_from_4 v1_to_4 v1_ended_4 v1_next_4 f3_13 l3_13 o3_13 hr3_13 _ _ _  (Nat.lt_of_lt_of_le (g_dec1 c_3) (Nat.le_of_lt_succ hn9)) hF (hP.sub [2, 3, 0, 1, 4, 5] rfl) (hD.sub [2, 3, 0, 1, 4, 5] (by decide) rfl) hS (lv_sub hl [3, 4, 5, 0] rfl)
            · exact absurd c_8 (by decide)
          · rw [if_neg c_7] at hF
            refine lv_aload_n hx hb d_Uncoder_unquoteLines_60 rfl (lv_at hl 2 rfl) ?_
            refine lv_iload hx hb d_Uncoder_unquoteLines_61 (lv_at hl 0 rfl) ?_
            refine lv_iconst (v := 1) hx hb d_Uncoder_unquoteLines_63 (by decide) ?_
            refine lv_isub hx hb d_Uncoder_unquoteLines_64 ?_
            refine g_Vi (As := [.int ((m_Uncoder_withoutBlanks l0 v1_from_4 v1_to_4) - 1)]) (rest := []) (wr := [(a1, .inr (5, [.ref x1_bits, .ref a2])), (a3, .inr (4, [.ref b3, .int (nI l3.length), .int o3])), (b3, .inl (kI, n3, .inl f3)), (a2, .inr (2, [.int v1_from_4, .int v1_to_4, .int v1_ended_4, .int v1_next_4]))]) ⟨hx, hb, hml, hown, hts⟩ (c_Row_get l D Z kI a0 b0 n0 H.size f0 l0 o0 ((m_Uncoder_withoutBlanks l0 v1_from_4 v1_to_4) - 1) hr0) (cw_Row_get hts k_503 ⟨Nat.le_of_ble_eq_true rfl, Nat.le_of_ble_eq_true rfl⟩) hK hZ hP hD hS hA [4, 5] [0, 1, 2, 3] (g_recv hK hP (ci := 4) (q0 := 4) rfl rfl) rfl rfl (by decide) (by decide) (by decide) rfl hl.1 rfl (Nat.le_of_ble_eq_true rfl) d_Uncoder_unquoteLines_65 ⟨Nat.zero_le _, Nat.zero_le _⟩ (fun r_14 u_14 H locs hw hP hD hS => ?_)
            have e_14 := hw
            subst e_14
            have hP : va_P D vwCl [(a1, .inr (5, [.ref x1_bits, .ref a2])), (a3, .inr (4, [.ref b3, .int (nI l3.length), .int o3])), (b3, .inl (kI, n3, .inl f3)), (a2, .inr (2, [.int v1_from_4, .int v1_to_4, .int v1_ended_4, .int v1_next_4])), (a0, .inr (4, [.ref b0, .int (nI l0.length), .int o0])), (b0, .inl (kI, n0, .inl f0))] H := hP
            have hD : va_D A [(a1, .inr (5, [.ref x1_bits, .ref a2])), (a3, .inr (4, [.ref b3, .int (nI l3.length), .int o3])), (b3, .inl (kI, n3, .inl f3)), (a2, .inr (2, [.int v1_from_4, .int v1_to_4, .int v1_ended_4, .int v1_next_4])), (a0, .inr (4, [.ref b0, .int (nI l0.length), .int o0])), (b0, .inl (kI, n0, .inl f0))] := hD
            refine lv_bipush (v := 61) hx hb d_Uncoder_unquoteLines_68 (by decide) ?_
            refine lv_icmp_ne (tgt := 77) hx hb d_Uncoder_unquoteLines_70 (by decide) (fun c_15 => ?_) (fun c_15 => ?_)
            · rw [if_neg c_15] at hF
              refine lv_iconst (v := 0) hx hb d_Uncoder_unquoteLines_77 (by decide) ?_
              refine lv_istore (lv' := [(5, .int 0), (4, .int (m_Uncoder_withoutBlanks l0 v1_from_4 v1_to_4)), (0, .ref a1), (1, .ref a0), (2, .ref a3), (3, .int i3)]) hx hb d_Uncoder_unquoteLines_78 hl (by decide) rfl (fun ls hl => ?_)
              refine lv_aload_n hx hb d_Uncoder_unquoteLines_80 rfl (lv_at hl 3 rfl) ?_
              refine lv_aload_n hx hb d_Uncoder_unquoteLines_81 rfl (lv_at hl 2 rfl) ?_
              refine va_get (D := D) (ci := 5) (v := .ref a2) (C := "MailCharacters$Uncoder") (T := F_Uncoder) (N := 2) hx hb hts i_Uncoder hown hK hP 0 rfl rfl 1 (by decide) (hts _ k_161) (fun _ h9 => h9) rfl d_Uncoder_unquoteLines_82 ?_
              refine va_getN (D := D) (ci := 2) (v := .int v1_from_4) (C := "MailCharacters$Line") (T := F_Line) (N := 4) hx hb hts i_Line hown hK hP 3 rfl rfl 0 (by decide) (gZ_nf hZ 6 (q := ("MailCharacters$Uncoder", 93, "MailCharacters$Line", "from", "I")) rfl) (fun _ h9 => h9) rfl d_Uncoder_unquoteLines_85 ?_
              refine lv_iload hx hb d_Uncoder_unquoteLines_88 (lv_at hl 0 rfl) ?_
              refine lv_if_eq (tgt := 100) hx hb d_Uncoder_unquoteLines_90 (by decide) (fun c_16 => ?_) (fun c_16 => ?_)
              · refine lv_iload hx hb d_Uncoder_unquoteLines_100 (lv_at hl 1 rfl) ?_
                refine lv_iconst (v := 0) hx hb d_Uncoder_unquoteLines_102 (by decide) ?_
                refine lv_aload_n hx hb d_Uncoder_unquoteLines_103 rfl (lv_at hl 4 rfl) ?_
                refine g_Sv (As := [.ref a0, .int v1_from_4, .int (m_Uncoder_withoutBlanks l0 v1_from_4 v1_to_4), .int 0, .ref a3]) (rest := []) (wr := [(a1, .inr (5, [.ref x1_bits, .ref a2])), (a2, .inr (2, [.int v1_from_4, .int v1_to_4, .int v1_ended_4, .int v1_next_4]))]) ⟨hx, hb, hml, hown, hts⟩ (c_Uncoder_unquote l D Z kI a0 b0 n0 a3 b3 n3 H.size f0 l0 o0 f3 l3 o3 v1_from_4 (m_Uncoder_withoutBlanks l0 v1_from_4 v1_to_4) 0 hr0 hr3) (cw_Uncoder_unquote hts k_509 ⟨Nat.le_of_ble_eq_true rfl, Nat.le_of_ble_eq_true rfl⟩) hK hZ hP hD hS hA [4, 5, 1, 2] [0, 3] rfl rfl (by decide) (by decide) (by decide) rfl hl.1 rfl (Nat.le_of_ble_eq_true rfl) d_Uncoder_unquoteLines_104 ⟨Nat.zero_le _, Nat.zero_le _⟩ (fun u_17 H locs hw hP hD hS => ?_)
                obtain ⟨f1_17, l1_17, o1_17⟩ := u_17
                have e_17 := hw.1
                have hr1_17 := hw.2
                have hP : va_P D vwCl [(a1, .inr (5, [.ref x1_bits, .ref a2])), (a2, .inr (2, [.int v1_from_4, .int v1_to_4, .int v1_ended_4, .int v1_next_4])), (a0, .inr (4, [.ref b0, .int (nI l0.length), .int o0])), (b0, .inl (kI, n0, .inl f0)), (a3, .inr (4, [.ref b3, .int (nI l1_17.length), .int o1_17])), (b3, .inl (kI, n3, .inl f1_17))] H := hP
                have hD : va_D A [(a1, .inr (5, [.ref x1_bits, .ref a2])), (a2, .inr (2, [.int v1_from_4, .int v1_to_4, .int v1_ended_4, .int v1_next_4])), (a0, .inr (4, [.ref b0, .int (nI l0.length), .int o0])), (b0, .inl (kI, n0, .inl f0)), (a3, .inr (4, [.ref b3, .int (nI l1_17.length), .int o1_17])), (b3, .inl (kI, n3, .inl f1_17))] := hD
                rw [e_17] at hF; dsimp only at hF
                refine lv_aload_n hx hb d_Uncoder_unquoteLines_107 rfl (lv_at hl 2 rfl) ?_
                refine va_get (D := D) (ci := 5) (v := .ref a2) (C := "MailCharacters$Uncoder") (T := F_Uncoder) (N := 2) hx hb hts i_Uncoder hown hK hP 0 rfl rfl 1 (by decide) (hts _ k_161) (fun _ h9 => h9) rfl d_Uncoder_unquoteLines_108 ?_
                refine va_getN (D := D) (ci := 2) (v := .int v1_ended_4) (C := "MailCharacters$Line") (T := F_Line) (N := 4) hx hb hts i_Line hown hK hP 1 rfl rfl 2 (by decide) (gZ_nf hZ 8 (q := ("MailCharacters$Uncoder", 99, "MailCharacters$Line", "ended", "Z")) rfl) (fun _ h9 => h9) rfl d_Uncoder_unquoteLines_111 ?_
                refine lv_if_eq (tgt := 134) hx hb d_Uncoder_unquoteLines_114 (by decide) (fun c_18 => ?_) (fun c_18 => ?_)
                · rw [if_pos c_18] at hF
                  refine lv_iinc (v := (i3 + 1)) (lv' := [(3, .int (i3 + 1)), (5, .int 0), (4, .int (m_Uncoder_withoutBlanks l0 v1_from_4 v1_to_4)), (0, .ref a1), (1, .ref a0), (2, .ref a3)]) hx hb d_Uncoder_unquoteLines_134 hl (k := 5) rfl rfl (by decide) rfl (fun ls hl => ?_)
                  refine lv_goto (tgt := 9) hx hb d_Uncoder_unquoteLines_137 (by decide) ?_
                  exact ih9 (i3 + 1) v1_from_4 v1_to_4 v1_ended_4 v1_next_4 f1_17 l1_17 o1_17 hr1_17 _ _ _  (Nat.lt_of_lt_of_le (g_dec1 c_3) (Nat.le_of_lt_succ hn9)) hF (hP.sub [2, 3, 0, 1, 4, 5] rfl) (hD.sub [2, 3, 0, 1, 4, 5] (by decide) rfl) hS (lv_sub hl [3, 4, 5, 0] rfl)
                · rw [if_neg c_18] at hF
                  refine lv_iload hx hb d_Uncoder_unquoteLines_117 (lv_at hl 0 rfl) ?_
                  refine lv_if_ne (tgt := 134) hx hb d_Uncoder_unquoteLines_119 (by decide) (fun c_19 => ?_) (fun c_19 => ?_)
                  · exact absurd c_19 (by decide)
                  · refine lv_aload_n hx hb d_Uncoder_unquoteLines_122 rfl (lv_at hl 4 rfl) ?_
                    refine lv_bipush (v := 13) hx hb d_Uncoder_unquoteLines_123 (by decide) ?_
                    refine g_Vv (As := [.int 13]) (rest := []) (wr := [(a1, .inr (5, [.ref x1_bits, .ref a2])), (a2, .inr (2, [.int v1_from_4, .int v1_to_4, .int v1_ended_4, .int v1_next_4])), (a0, .inr (4, [.ref b0, .int (nI l0.length), .int o0])), (b0, .inl (kI, n0, .inl f0))]) ⟨hx, hb, hml, hown, hts⟩ (c_Row_put l D Z kI a3 b3 n3 H.size f1_17 l1_17 o1_17 13 hr1_17) (cw_Row_put hts k_508 ⟨Nat.le_of_ble_eq_true rfl, Nat.le_of_ble_eq_true rfl⟩) hK hZ hP hD hS hA [4, 5] [0, 1, 2, 3] (g_recv hK hP (ci := 4) (q0 := 4) rfl rfl) rfl rfl (by decide) (by decide) (by decide) rfl hl.1 rfl (Nat.le_of_ble_eq_true rfl) d_Uncoder_unquoteLines_125 ⟨Nat.zero_le _, Nat.zero_le _⟩ (fun u_20 H locs hw hP hD hS => ?_)
                    obtain ⟨f3_20, l3_20, o3_20⟩ := u_20
                    have e_20 := hw.1
                    have hr3_20 := hw.2
                    have hP : va_P D vwCl [(a1, .inr (5, [.ref x1_bits, .ref a2])), (a2, .inr (2, [.int v1_from_4, .int v1_to_4, .int v1_ended_4, .int v1_next_4])), (a0, .inr (4, [.ref b0, .int (nI l0.length), .int o0])), (b0, .inl (kI, n0, .inl f0)), (a3, .inr (4, [.ref b3, .int (nI l3_20.length), .int o3_20])), (b3, .inl (kI, n3, .inl f3_20))] H := hP
                    have hD : va_D A [(a1, .inr (5, [.ref x1_bits, .ref a2])), (a2, .inr (2, [.int v1_from_4, .int v1_to_4, .int v1_ended_4, .int v1_next_4])), (a0, .inr (4, [.ref b0, .int (nI l0.length), .int o0])), (b0, .inl (kI, n0, .inl f0)), (a3, .inr (4, [.ref b3, .int (nI l3_20.length), .int o3_20])), (b3, .inl (kI, n3, .inl f3_20))] := hD
                    rw [e_20] at hF; dsimp only at hF
                    refine lv_aload_n hx hb d_Uncoder_unquoteLines_128 rfl (lv_at hl 4 rfl) ?_
                    refine lv_bipush (v := 10) hx hb d_Uncoder_unquoteLines_129 (by decide) ?_
                    refine g_Vv (As := [.int 10]) (rest := []) (wr := [(a1, .inr (5, [.ref x1_bits, .ref a2])), (a2, .inr (2, [.int v1_from_4, .int v1_to_4, .int v1_ended_4, .int v1_next_4])), (a0, .inr (4, [.ref b0, .int (nI l0.length), .int o0])), (b0, .inl (kI, n0, .inl f0))]) ⟨hx, hb, hml, hown, hts⟩ (c_Row_put l D Z kI a3 b3 n3 H.size f3_20 l3_20 o3_20 10 hr3_20) (cw_Row_put hts k_508 ⟨Nat.le_of_ble_eq_true rfl, Nat.le_of_ble_eq_true rfl⟩) hK hZ hP hD hS hA [4, 5] [0, 1, 2, 3] (g_recv hK hP (ci := 4) (q0 := 4) rfl rfl) rfl rfl (by decide) (by decide) (by decide) rfl hl.1 rfl (Nat.le_of_ble_eq_true rfl) d_Uncoder_unquoteLines_131 ⟨Nat.zero_le _, Nat.zero_le _⟩ (fun u_21 H locs hw hP hD hS => ?_)
                    obtain ⟨f3_21, l3_21, o3_21⟩ := u_21
                    have e_21 := hw.1
                    have hr3_21 := hw.2
                    have hP : va_P D vwCl [(a1, .inr (5, [.ref x1_bits, .ref a2])), (a2, .inr (2, [.int v1_from_4, .int v1_to_4, .int v1_ended_4, .int v1_next_4])), (a0, .inr (4, [.ref b0, .int (nI l0.length), .int o0])), (b0, .inl (kI, n0, .inl f0)), (a3, .inr (4, [.ref b3, .int (nI l3_21.length), .int o3_21])), (b3, .inl (kI, n3, .inl f3_21))] H := hP
                    have hD : va_D A [(a1, .inr (5, [.ref x1_bits, .ref a2])), (a2, .inr (2, [.int v1_from_4, .int v1_to_4, .int v1_ended_4, .int v1_next_4])), (a0, .inr (4, [.ref b0, .int (nI l0.length), .int o0])), (b0, .inl (kI, n0, .inl f0)), (a3, .inr (4, [.ref b3, .int (nI l3_21.length), .int o3_21])), (b3, .inl (kI, n3, .inl f3_21))] := hD
                    rw [e_21] at hF; dsimp only at hF
                    refine lv_iinc (v := (i3 + 1)) (lv' := [(3, .int (i3 + 1)), (5, .int 0), (4, .int (m_Uncoder_withoutBlanks l0 v1_from_4 v1_to_4)), (0, .ref a1), (1, .ref a0), (2, .ref a3)]) hx hb d_Uncoder_unquoteLines_134 hl (k := 5) rfl rfl (by decide) rfl (fun ls hl => ?_)
                    refine lv_goto (tgt := 9) hx hb d_Uncoder_unquoteLines_137 (by decide) ?_
                    exact ih9 (i3 + 1) v1_from_4 v1_to_4 v1_ended_4 v1_next_4 f3_21 l3_21 o3_21 hr3_21 _ _ _  (Nat.lt_of_lt_of_le (g_dec1 c_3) (Nat.le_of_lt_succ hn9)) hF (hP.sub [2, 3, 0, 1, 4, 5] rfl) (hD.sub [2, 3, 0, 1, 4, 5] (by decide) rfl) hS (lv_sub hl [3, 4, 5, 0] rfl)
              · exact absurd c_16 (by decide)
            · rw [if_pos c_15] at hF
              refine lv_iconst (v := 1) hx hb d_Uncoder_unquoteLines_73 (by decide) ?_
              refine lv_goto (tgt := 78) hx hb d_Uncoder_unquoteLines_74 (by decide) ?_
              refine lv_istore (lv' := [(5, .int 1), (4, .int (m_Uncoder_withoutBlanks l0 v1_from_4 v1_to_4)), (0, .ref a1), (1, .ref a0), (2, .ref a3), (3, .int i3)]) hx hb d_Uncoder_unquoteLines_78 hl (by decide) rfl (fun ls hl => ?_)
              refine lv_aload_n hx hb d_Uncoder_unquoteLines_80 rfl (lv_at hl 3 rfl) ?_
              refine lv_aload_n hx hb d_Uncoder_unquoteLines_81 rfl (lv_at hl 2 rfl) ?_
              refine va_get (D := D) (ci := 5) (v := .ref a2) (C := "MailCharacters$Uncoder") (T := F_Uncoder) (N := 2) hx hb hts i_Uncoder hown hK hP 0 rfl rfl 1 (by decide) (hts _ k_161) (fun _ h9 => h9) rfl d_Uncoder_unquoteLines_82 ?_
              refine va_getN (D := D) (ci := 2) (v := .int v1_from_4) (C := "MailCharacters$Line") (T := F_Line) (N := 4) hx hb hts i_Line hown hK hP 3 rfl rfl 0 (by decide) (gZ_nf hZ 6 (q := ("MailCharacters$Uncoder", 93, "MailCharacters$Line", "from", "I")) rfl) (fun _ h9 => h9) rfl d_Uncoder_unquoteLines_85 ?_
              refine lv_iload hx hb d_Uncoder_unquoteLines_88 (lv_at hl 0 rfl) ?_
              refine lv_if_eq (tgt := 100) hx hb d_Uncoder_unquoteLines_90 (by decide) (fun c_22 => ?_) (fun c_22 => ?_)
              · exact absurd c_22 (by decide)
              · refine lv_iload hx hb d_Uncoder_unquoteLines_93 (lv_at hl 1 rfl) ?_
                refine lv_iconst (v := 1) hx hb d_Uncoder_unquoteLines_95 (by decide) ?_
                refine lv_isub hx hb d_Uncoder_unquoteLines_96 ?_
                refine lv_goto (tgt := 102) hx hb d_Uncoder_unquoteLines_97 (by decide) ?_
                refine lv_iconst (v := 0) hx hb d_Uncoder_unquoteLines_102 (by decide) ?_
                refine lv_aload_n hx hb d_Uncoder_unquoteLines_103 rfl (lv_at hl 4 rfl) ?_
                refine g_Sv (As := [.ref a0, .int v1_from_4, .int ((m_Uncoder_withoutBlanks l0 v1_from_4 v1_to_4) - 1), .int 0, .ref a3]) (rest := []) (wr := [(a1, .inr (5, [.ref x1_bits, .ref a2])), (a2, .inr (2, [.int v1_from_4, .int v1_to_4, .int v1_ended_4, .int v1_next_4]))]) ⟨hx, hb, hml, hown, hts⟩ (c_Uncoder_unquote l D Z kI a0 b0 n0 a3 b3 n3 H.size f0 l0 o0 f3 l3 o3 v1_from_4 ((m_Uncoder_withoutBlanks l0 v1_from_4 v1_to_4) - 1) 0 hr0 hr3) (cw_Uncoder_unquote hts k_509 ⟨Nat.le_of_ble_eq_true rfl, Nat.le_of_ble_eq_true rfl⟩) hK hZ hP hD hS hA [4, 5, 1, 2] [0, 3] rfl rfl (by decide) (by decide) (by decide) rfl hl.1 rfl (Nat.le_of_ble_eq_true rfl) d_Uncoder_unquoteLines_104 ⟨Nat.zero_le _, Nat.zero_le _⟩ (fun u_23 H locs hw hP hD hS => ?_)
                obtain ⟨f1_23, l1_23, o1_23⟩ := u_23
                have e_23 := hw.1
                have hr1_23 := hw.2
                have hP : va_P D vwCl [(a1, .inr (5, [.ref x1_bits, .ref a2])), (a2, .inr (2, [.int v1_from_4, .int v1_to_4, .int v1_ended_4, .int v1_next_4])), (a0, .inr (4, [.ref b0, .int (nI l0.length), .int o0])), (b0, .inl (kI, n0, .inl f0)), (a3, .inr (4, [.ref b3, .int (nI l1_23.length), .int o1_23])), (b3, .inl (kI, n3, .inl f1_23))] H := hP
                have hD : va_D A [(a1, .inr (5, [.ref x1_bits, .ref a2])), (a2, .inr (2, [.int v1_from_4, .int v1_to_4, .int v1_ended_4, .int v1_next_4])), (a0, .inr (4, [.ref b0, .int (nI l0.length), .int o0])), (b0, .inl (kI, n0, .inl f0)), (a3, .inr (4, [.ref b3, .int (nI l1_23.length), .int o1_23])), (b3, .inl (kI, n3, .inl f1_23))] := hD
                rw [e_23] at hF; dsimp only at hF
                refine lv_aload_n hx hb d_Uncoder_unquoteLines_107 rfl (lv_at hl 2 rfl) ?_
                refine va_get (D := D) (ci := 5) (v := .ref a2) (C := "MailCharacters$Uncoder") (T := F_Uncoder) (N := 2) hx hb hts i_Uncoder hown hK hP 0 rfl rfl 1 (by decide) (hts _ k_161) (fun _ h9 => h9) rfl d_Uncoder_unquoteLines_108 ?_
                refine va_getN (D := D) (ci := 2) (v := .int v1_ended_4) (C := "MailCharacters$Line") (T := F_Line) (N := 4) hx hb hts i_Line hown hK hP 1 rfl rfl 2 (by decide) (gZ_nf hZ 8 (q := ("MailCharacters$Uncoder", 99, "MailCharacters$Line", "ended", "Z")) rfl) (fun _ h9 => h9) rfl d_Uncoder_unquoteLines_111 ?_
                refine lv_if_eq (tgt := 134) hx hb d_Uncoder_unquoteLines_114 (by decide) (fun c_24 => ?_) (fun c_24 => ?_)
                · rw [if_pos c_24] at hF
                  refine lv_iinc (v := (i3 + 1)) (lv' := [(3, .int (i3 + 1)), (5, .int 1), (4, .int (m_Uncoder_withoutBlanks l0 v1_from_4 v1_to_4)), (0, .ref a1), (1, .ref a0), (2, .ref a3)]) hx hb d_Uncoder_unquoteLines_134 hl (k := 5) rfl rfl (by decide) rfl (fun ls hl => ?_)
                  refine lv_goto (tgt := 9) hx hb d_Uncoder_unquoteLines_137 (by decide) ?_
                  exact ih9 (i3 + 1) v1_from_4 v1_to_4 v1_ended_4 v1_next_4 f1_23 l1_23 o1_23 hr1_23 _ _ _  (Nat.lt_of_lt_of_le (g_dec1 c_3) (Nat.le_of_lt_succ hn9)) hF (hP.sub [2, 3, 0, 1, 4, 5] rfl) (hD.sub [2, 3, 0, 1, 4, 5] (by decide) rfl) hS (lv_sub hl [3, 4, 5, 0] rfl)
                · rw [if_neg c_24] at hF
                  refine lv_iload hx hb d_Uncoder_unquoteLines_117 (lv_at hl 0 rfl) ?_
                  refine lv_if_ne (tgt := 134) hx hb d_Uncoder_unquoteLines_119 (by decide) (fun c_25 => ?_) (fun c_25 => ?_)
                  · refine lv_iinc (v := (i3 + 1)) (lv' := [(3, .int (i3 + 1)), (5, .int 1), (4, .int (m_Uncoder_withoutBlanks l0 v1_from_4 v1_to_4)), (0, .ref a1), (1, .ref a0), (2, .ref a3)]) hx hb d_Uncoder_unquoteLines_134 hl (k := 5) rfl rfl (by decide) rfl (fun ls hl => ?_)
                    refine lv_goto (tgt := 9) hx hb d_Uncoder_unquoteLines_137 (by decide) ?_
                    exact ih9 (i3 + 1) v1_from_4 v1_to_4 v1_ended_4 v1_next_4 f1_23 l1_23 o1_23 hr1_23 _ _ _  (Nat.lt_of_lt_of_le (g_dec1 c_3) (Nat.le_of_lt_succ hn9)) hF (hP.sub [2, 3, 0, 1, 4, 5] rfl) (hD.sub [2, 3, 0, 1, 4, 5] (by decide) rfl) hS (lv_sub hl [3, 4, 5, 0] rfl)
                  · exact absurd c_25 (by decide)
  have hF := hRES
  rw [m_Uncoder_unquoteLines] at hF
  refine lv_aload_n hx hb d_Uncoder_unquoteLines_0 rfl (lv_at hl 0 rfl) ?_
  refine va_get (D := D) (ci := 5) (v := .ref a2) (C := "MailCharacters$Uncoder") (T := F_Uncoder) (N := 2) hx hb hts i_Uncoder hown hK hP 2 rfl rfl 1 (by decide) (hts _ k_161) (fun _ h9 => h9) rfl d_Uncoder_unquoteLines_1 ?_
  refine g_Vv (As := []) (rest := []) (wr := [(a0, .inr (4, [.ref b0, .int (nI l0.length), .int o0])), (b0, .inl (kI, n0, .inl f0)), (a1, .inr (5, [.ref x1_bits, .ref a2])), (a3, .inr (4, [.ref b3, .int (nI l3.length), .int o3])), (b3, .inl (kI, n3, .inl f3))]) ⟨hx, hb, hml, hown, hts⟩ (c_Line_goToStart l D Z kI a2 H.size v2_from v2_to v2_ended v2_next) (cw_Line_goToStart hts k_616 ⟨Nat.le_of_ble_eq_true rfl, Nat.le_of_ble_eq_true rfl⟩) hK hZ hP hD hS hA [3] [0, 1, 2, 4, 5] (g_recv hK hP (ci := 2) (q0 := 3) rfl rfl) rfl rfl (by decide) (by decide) (by decide) rfl hl.1 rfl (Nat.le_of_ble_eq_true rfl) d_Uncoder_unquoteLines_4 ⟨Nat.zero_le _, Nat.zero_le _⟩ (fun v2_next_26 H locs hw hP hD hS => ?_)
  have e_26 := hw
  subst e_26
  have hP : va_P D vwCl [(a0, .inr (4, [.ref b0, .int (nI l0.length), .int o0])), (b0, .inl (kI, n0, .inl f0)), (a1, .inr (5, [.ref x1_bits, .ref a2])), (a3, .inr (4, [.ref b3, .int (nI l3.length), .int o3])), (b3, .inl (kI, n3, .inl f3)), (a2, .inr (2, [.int v2_from, .int v2_to, .int v2_ended, .int m_Line_goToStart]))] H := hP
  have hD : va_D A [(a0, .inr (4, [.ref b0, .int (nI l0.length), .int o0])), (b0, .inl (kI, n0, .inl f0)), (a1, .inr (5, [.ref x1_bits, .ref a2])), (a3, .inr (4, [.ref b3, .int (nI l3.length), .int o3])), (b3, .inl (kI, n3, .inl f3)), (a2, .inr (2, [.int v2_from, .int v2_to, .int v2_ended, .int m_Line_goToStart]))] := hD
  refine lv_iconst (v := 0) hx hb d_Uncoder_unquoteLines_7 (by decide) ?_
  refine lv_istore_n (lv' := [(3, .int 0), (0, .ref a1), (1, .ref a0), (2, .ref a3)]) hx hb d_Uncoder_unquoteLines_8 rfl hl (by decide) rfl (fun ls hl => ?_)
  exact lp9 (((m_Row_size l0).toInt - (0 : Int32).toInt).toNat + 1) 0 v2_from v2_to v2_ended m_Line_goToStart f3 l3 o3 hr3 _ _ _  (Nat.lt_succ_self _) hF (hP.sub [0, 1, 2, 5, 3, 4] rfl) (hD.sub [0, 1, 2, 5, 3, 4] (by decide) rfl) hS (lv_sub hl [1, 2, 3, 0] rfl)
theorem cw_Uncoder_unquoteLines {R : Room} {s : State} {args : Array Value} {own : String} {idx : Nat} (hts : ∀ w ∈ gW, w.before args s = true) (hl : Cond.methodLink own idx y_Uncoder_unquoteLines ∈ gW) (hR : rm_Uncoder_unquoteLines.frames + 1 ≤ R.frames ∧ 8 + (6 + 11) + rm_Uncoder_unquoteLines.locals ≤ R.locals) : CallW R s args own "MailCharacters$Uncoder" idx y_Uncoder_unquoteLines b_Uncoder_unquoteLines 6 none w_Uncoder_unquoteLines rm_Uncoder_unquoteLines 0 0 2 := cwV 2 hts (gW_V hl k_614 k_11 k_70 k_615) rfl rfl rfl (by decide +kernel) hR
def m_Uncoder_endsHex (v1_from : Int32) (v1_to : Int32) (l2 : List Int32) : Int32 :=
  if (m_Line_length v1_from v1_to) = 0 then
    1
  else
    if (m_Line_length v1_from v1_to) = (m_String_length 17) then
      if (m_Line_begins v1_from l2 17) = 0 then
        if (m_Uncoder_hexValue (m_Row_get l2 v1_from)) = 0 then
          1
        else
          0
      else
        1
    else
      if (m_Uncoder_hexValue (m_Row_get l2 v1_from)) = 0 then
        1
      else
        0
def rm_Uncoder_endsHex : Room := { frames := 5, cells := 0, slots := 0, locals := 108 }
set_option maxHeartbeats 4000000 in
set_option maxRecDepth 100000 in
theorem c_Uncoder_endsHex (l : Launch) (D : va_G) (Z : gZT) (kI : ClassId) (a0 : Nat) (x0_bits : Nat) (a1 : Nat) (a2 : Nat) (b2 : Nat) (n2 : Nat) (sz : Nat) (v1_from : Int32) (v1_to : Int32) (v1_ended : Int32) (v1_next : Int32) (f2 : Nat → Int32) (l2 : List Int32) (o2 : Int32) (hr2 : g_rw n2 f2 l2) : gMi l y_Uncoder_endsHex w_Uncoder_endsHex rm_Uncoder_endsHex D Z kI [.ref a0, .ref a2] sz [(a0, .inr (5, [.ref x0_bits, .ref a1])), (a1, .inr (2, [.int v1_from, .int v1_to, .int v1_ended, .int v1_next])), (a2, .inr (4, [.ref b2, .int (nI l2.length), .int o2])), (b2, .inl (kI, n2, .inl f2))] (fun (r : Int32) (_u : Unit) => m_Uncoder_endsHex v1_from v1_to l2 = r) (fun (_u : Unit) => ([(a0, .inr (5, [.ref x0_bits, .ref a1])), (a1, .inr (2, [.int v1_from, .int v1_to, .int v1_ended, .int v1_next])), (a2, .inr (4, [.ref b2, .int (nI l2.length), .int o2])), (b2, .inl (kI, n2, .inl f2))] : va_W)) := by
  refine g_ofi (cc := b_Uncoder_endsHex) (maxL := 2) (ty := .boolean) (by decide) rfl (Nat.le_of_ble_eq_true rfl) ?_
  intro p e s m below meth c A Q H ls hx hb hml hown hts hA hK hZ hP hD hS hl hret
  have hown : s.vm.findClass "MailCharacters$Uncoder" = some m.cls := hown
  have hl : lv_has ls 2 [(0, .ref a0), (1, .ref a2)] := hl
  obtain ⟨RES, hRES⟩ : ∃ z, z = m_Uncoder_endsHex v1_from v1_to l2 := ⟨_, rfl⟩
  have hF := hRES
  rw [m_Uncoder_endsHex] at hF
  refine lv_aload_n hx hb d_Uncoder_endsHex_0 rfl (lv_at hl 0 rfl) ?_
  refine va_get (D := D) (ci := 5) (v := .ref a1) (C := "MailCharacters$Uncoder") (T := F_Uncoder) (N := 2) hx hb hts i_Uncoder hown hK hP 0 rfl rfl 1 (by decide) (hts _ k_161) (fun _ h9 => h9) rfl d_Uncoder_endsHex_1 ?_
  refine g_Vi (As := []) (rest := []) (wr := [(a0, .inr (5, [.ref x0_bits, .ref a1])), (a2, .inr (4, [.ref b2, .int (nI l2.length), .int o2])), (b2, .inl (kI, n2, .inl f2))]) ⟨hx, hb, hml, hown, hts⟩ (c_Line_length l D Z kI a1 H.size v1_from v1_to v1_ended v1_next) (cw_Line_length hts k_633 ⟨Nat.le_of_ble_eq_true rfl, Nat.le_of_ble_eq_true rfl⟩) hK hZ hP hD hS hA [1] [0, 2, 3] (g_recv hK hP (ci := 2) (q0 := 1) rfl rfl) rfl rfl (by decide) (by decide) (by decide) rfl hl.1 rfl (Nat.le_of_ble_eq_true rfl) d_Uncoder_endsHex_4 ⟨Nat.zero_le _, Nat.zero_le _⟩ (fun r_1 u_1 H locs hw hP hD hS => ?_)
  have e_1 := hw
  subst e_1
  have hP : va_P D vwCl [(a0, .inr (5, [.ref x0_bits, .ref a1])), (a2, .inr (4, [.ref b2, .int (nI l2.length), .int o2])), (b2, .inl (kI, n2, .inl f2)), (a1, .inr (2, [.int v1_from, .int v1_to, .int v1_ended, .int v1_next]))] H := hP
  have hD : va_D A [(a0, .inr (5, [.ref x0_bits, .ref a1])), (a2, .inr (4, [.ref b2, .int (nI l2.length), .int o2])), (b2, .inl (kI, n2, .inl f2)), (a1, .inr (2, [.int v1_from, .int v1_to, .int v1_ended, .int v1_next]))] := hD
  refine lv_if_eq (tgt := 38) hx hb d_Uncoder_endsHex_7 (by decide) (fun c_2 => ?_) (fun c_2 => ?_)
  · rw [if_pos c_2] at hF
    refine lv_iconst (v := 1) hx hb d_Uncoder_endsHex_38 (by decide) ?_
    exact hret 1 () _ _ _ _ d_Uncoder_endsHex_39 rfl (hRES.symm.trans hF) (hP.sub [0, 3, 1, 2] rfl) (hD.sub [0, 3, 1, 2] (by decide) rfl) hS
  · rw [if_neg c_2] at hF
    refine lv_aload_n hx hb d_Uncoder_endsHex_10 rfl (lv_at hl 0 rfl) ?_
    refine va_get (D := D) (ci := 5) (v := .ref a1) (C := "MailCharacters$Uncoder") (T := F_Uncoder) (N := 2) hx hb hts i_Uncoder hown hK hP 0 rfl rfl 1 (by decide) (hts _ k_161) (fun _ h9 => h9) rfl d_Uncoder_endsHex_11 ?_
    refine g_Vi (As := []) (rest := []) (wr := [(a0, .inr (5, [.ref x0_bits, .ref a1])), (a2, .inr (4, [.ref b2, .int (nI l2.length), .int o2])), (b2, .inl (kI, n2, .inl f2))]) ⟨hx, hb, hml, hown, hts⟩ (c_Line_length l D Z kI a1 H.size v1_from v1_to v1_ended v1_next) (cw_Line_length hts k_633 ⟨Nat.le_of_ble_eq_true rfl, Nat.le_of_ble_eq_true rfl⟩) hK hZ hP hD hS hA [3] [0, 1, 2] (g_recv hK hP (ci := 2) (q0 := 3) rfl rfl) rfl rfl (by decide) (by decide) (by decide) rfl hl.1 rfl (Nat.le_of_ble_eq_true rfl) d_Uncoder_endsHex_14 ⟨Nat.zero_le _, Nat.zero_le _⟩ (fun r_3 u_3 H locs hw hP hD hS => ?_)
    have e_3 := hw
    subst e_3
    have hP : va_P D vwCl [(a0, .inr (5, [.ref x0_bits, .ref a1])), (a2, .inr (4, [.ref b2, .int (nI l2.length), .int o2])), (b2, .inl (kI, n2, .inl f2)), (a1, .inr (2, [.int v1_from, .int v1_to, .int v1_ended, .int v1_next]))] H := hP
    have hD : va_D A [(a0, .inr (5, [.ref x0_bits, .ref a1])), (a2, .inr (4, [.ref b2, .int (nI l2.length), .int o2])), (b2, .inl (kI, n2, .inl f2)), (a1, .inr (2, [.int v1_from, .int v1_to, .int v1_ended, .int v1_next]))] := hD
    refine va_ldcS hx hb hown (gZ_lit hZ (i := 17) (by decide)) d_Uncoder_endsHex_17 ?_
    refine g_Vi (As := []) (rest := [.int (m_Line_length v1_from v1_to)]) (wr := [(a0, .inr (5, [.ref x0_bits, .ref a1])), (a2, .inr (4, [.ref b2, .int (nI l2.length), .int o2])), (b2, .inl (kI, n2, .inl f2)), (a1, .inr (2, [.int v1_from, .int v1_to, .int v1_ended, .int v1_next]))]) ⟨hx, hb, hml, hown, hts⟩ (c_String_length l D Z kI H.size 17 (by decide)) (cw_String_length hts k_638 ⟨Nat.le_of_ble_eq_true rfl, Nat.le_of_ble_eq_true rfl⟩) hK hZ hP hD hS hA [] [0, 1, 2, 3] (gZ_recv hZ hS (by decide)) rfl rfl (by decide) (by decide) (by decide) rfl hl.1 rfl (Nat.le_of_ble_eq_true rfl) d_Uncoder_endsHex_19 ⟨Nat.zero_le _, Nat.zero_le _⟩ (fun r_4 u_4 H locs hw hP hD hS => ?_)
    have e_4 := hw
    subst e_4
    have hP : va_P D vwCl [(a0, .inr (5, [.ref x0_bits, .ref a1])), (a2, .inr (4, [.ref b2, .int (nI l2.length), .int o2])), (b2, .inl (kI, n2, .inl f2)), (a1, .inr (2, [.int v1_from, .int v1_to, .int v1_ended, .int v1_next]))] H := hP
    have hD : va_D A [(a0, .inr (5, [.ref x0_bits, .ref a1])), (a2, .inr (4, [.ref b2, .int (nI l2.length), .int o2])), (b2, .inl (kI, n2, .inl f2)), (a1, .inr (2, [.int v1_from, .int v1_to, .int v1_ended, .int v1_next]))] := hD
    refine lv_icmp_ne (tgt := 40) hx hb d_Uncoder_endsHex_22 (by decide) (fun c_5 => ?_) (fun c_5 => ?_)
    · rw [if_neg c_5] at hF
      refine lv_aload_n hx hb d_Uncoder_endsHex_40 rfl (lv_at hl 1 rfl) ?_
      refine lv_aload_n hx hb d_Uncoder_endsHex_41 rfl (lv_at hl 0 rfl) ?_
      refine va_get (D := D) (ci := 5) (v := .ref a1) (C := "MailCharacters$Uncoder") (T := F_Uncoder) (N := 2) hx hb hts i_Uncoder hown hK hP 0 rfl rfl 1 (by decide) (hts _ k_161) (fun _ h9 => h9) rfl d_Uncoder_endsHex_42 ?_
      refine va_getN (D := D) (ci := 2) (v := .int v1_from) (C := "MailCharacters$Line") (T := F_Line) (N := 4) hx hb hts i_Line hown hK hP 3 rfl rfl 0 (by decide) (gZ_nf hZ 6 (q := ("MailCharacters$Uncoder", 93, "MailCharacters$Line", "from", "I")) rfl) (fun _ h9 => h9) rfl d_Uncoder_endsHex_45 ?_
      refine g_Vi (As := [.int v1_from]) (rest := []) (wr := [(a0, .inr (5, [.ref x0_bits, .ref a1])), (a1, .inr (2, [.int v1_from, .int v1_to, .int v1_ended, .int v1_next]))]) ⟨hx, hb, hml, hown, hts⟩ (c_Row_get l D Z kI a2 b2 n2 H.size f2 l2 o2 v1_from hr2) (cw_Row_get hts k_503 ⟨Nat.le_of_ble_eq_true rfl, Nat.le_of_ble_eq_true rfl⟩) hK hZ hP hD hS hA [1, 2] [0, 3] (g_recv hK hP (ci := 4) (q0 := 1) rfl rfl) rfl rfl (by decide) (by decide) (by decide) rfl hl.1 rfl (Nat.le_of_ble_eq_true rfl) d_Uncoder_endsHex_48 ⟨Nat.zero_le _, Nat.zero_le _⟩ (fun r_6 u_6 H locs hw hP hD hS => ?_)
      have e_6 := hw
      subst e_6
      have hP : va_P D vwCl [(a0, .inr (5, [.ref x0_bits, .ref a1])), (a1, .inr (2, [.int v1_from, .int v1_to, .int v1_ended, .int v1_next])), (a2, .inr (4, [.ref b2, .int (nI l2.length), .int o2])), (b2, .inl (kI, n2, .inl f2))] H := hP
      have hD : va_D A [(a0, .inr (5, [.ref x0_bits, .ref a1])), (a1, .inr (2, [.int v1_from, .int v1_to, .int v1_ended, .int v1_next])), (a2, .inr (4, [.ref b2, .int (nI l2.length), .int o2])), (b2, .inl (kI, n2, .inl f2))] := hD
      refine g_Si (As := [.int (m_Row_get l2 v1_from)]) (rest := []) (wr := [(a0, .inr (5, [.ref x0_bits, .ref a1])), (a1, .inr (2, [.int v1_from, .int v1_to, .int v1_ended, .int v1_next])), (a2, .inr (4, [.ref b2, .int (nI l2.length), .int o2])), (b2, .inl (kI, n2, .inl f2))]) ⟨hx, hb, hml, hown, hts⟩ (c_Uncoder_hexValue l D Z kI H.size (m_Row_get l2 v1_from)) (cw_Uncoder_hexValue hts k_650 ⟨Nat.le_of_ble_eq_true rfl, Nat.le_of_ble_eq_true rfl⟩) hK hZ hP hD hS hA [] [0, 1, 2, 3] rfl rfl (by decide) (by decide) (by decide) rfl hl.1 rfl (Nat.le_of_ble_eq_true rfl) d_Uncoder_endsHex_51 ⟨Nat.zero_le _, Nat.zero_le _⟩ (fun r_7 u_7 H locs hw hP hD hS => ?_)
      have e_7 := hw
      subst e_7
      have hP : va_P D vwCl [(a0, .inr (5, [.ref x0_bits, .ref a1])), (a1, .inr (2, [.int v1_from, .int v1_to, .int v1_ended, .int v1_next])), (a2, .inr (4, [.ref b2, .int (nI l2.length), .int o2])), (b2, .inl (kI, n2, .inl f2))] H := hP
      have hD : va_D A [(a0, .inr (5, [.ref x0_bits, .ref a1])), (a1, .inr (2, [.int v1_from, .int v1_to, .int v1_ended, .int v1_next])), (a2, .inr (4, [.ref b2, .int (nI l2.length), .int o2])), (b2, .inl (kI, n2, .inl f2))] := hD
      refine lv_if_ne (tgt := 61) hx hb d_Uncoder_endsHex_54 (by decide) (fun c_8 => ?_) (fun c_8 => ?_)
      · rw [if_neg c_8] at hF
        refine lv_iconst (v := 0) hx hb d_Uncoder_endsHex_61 (by decide) ?_
        exact hret 0 () _ _ _ _ d_Uncoder_endsHex_62 rfl (hRES.symm.trans hF) hP hD hS
      · rw [if_pos c_8] at hF
        refine lv_iconst (v := 1) hx hb d_Uncoder_endsHex_57 (by decide) ?_
        refine lv_goto (tgt := 62) hx hb d_Uncoder_endsHex_58 (by decide) ?_
        exact hret 1 () _ _ _ _ d_Uncoder_endsHex_62 rfl (hRES.symm.trans hF) hP hD hS
    · rw [if_pos c_5] at hF
      refine lv_aload_n hx hb d_Uncoder_endsHex_25 rfl (lv_at hl 0 rfl) ?_
      refine va_get (D := D) (ci := 5) (v := .ref a1) (C := "MailCharacters$Uncoder") (T := F_Uncoder) (N := 2) hx hb hts i_Uncoder hown hK hP 0 rfl rfl 1 (by decide) (hts _ k_161) (fun _ h9 => h9) rfl d_Uncoder_endsHex_26 ?_
      refine lv_aload_n hx hb d_Uncoder_endsHex_29 rfl (lv_at hl 1 rfl) ?_
      refine va_ldcS hx hb hown (gZ_lit hZ (i := 17) (by decide)) d_Uncoder_endsHex_30 ?_
      refine g_Vi (As := [.ref a2, .ref (Z.1 17)]) (rest := []) (wr := [(a0, .inr (5, [.ref x0_bits, .ref a1]))]) ⟨hx, hb, hml, hown, hts⟩ (c_Line_begins l D Z kI a1 a2 b2 n2 H.size v1_from v1_to v1_ended v1_next f2 l2 o2 17 hr2 (by decide)) (cw_Line_begins hts k_639 ⟨Nat.le_of_ble_eq_true rfl, Nat.le_of_ble_eq_true rfl⟩) hK hZ hP hD hS hA [3, 1, 2] [0] (g_recv hK hP (ci := 2) (q0 := 3) rfl rfl) rfl rfl (by decide) (by decide) (by decide) rfl hl.1 rfl (Nat.le_of_ble_eq_true rfl) d_Uncoder_endsHex_32 ⟨Nat.zero_le _, Nat.zero_le _⟩ (fun r_9 u_9 H locs hw hP hD hS => ?_)
      have e_9 := hw
      subst e_9
      have hP : va_P D vwCl [(a0, .inr (5, [.ref x0_bits, .ref a1])), (a1, .inr (2, [.int v1_from, .int v1_to, .int v1_ended, .int v1_next])), (a2, .inr (4, [.ref b2, .int (nI l2.length), .int o2])), (b2, .inl (kI, n2, .inl f2))] H := hP
      have hD : va_D A [(a0, .inr (5, [.ref x0_bits, .ref a1])), (a1, .inr (2, [.int v1_from, .int v1_to, .int v1_ended, .int v1_next])), (a2, .inr (4, [.ref b2, .int (nI l2.length), .int o2])), (b2, .inl (kI, n2, .inl f2))] := hD
      refine lv_if_eq (tgt := 40) hx hb d_Uncoder_endsHex_35 (by decide) (fun c_10 => ?_) (fun c_10 => ?_)
      · rw [if_pos c_10] at hF
        refine lv_aload_n hx hb d_Uncoder_endsHex_40 rfl (lv_at hl 1 rfl) ?_
        refine lv_aload_n hx hb d_Uncoder_endsHex_41 rfl (lv_at hl 0 rfl) ?_
        refine va_get (D := D) (ci := 5) (v := .ref a1) (C := "MailCharacters$Uncoder") (T := F_Uncoder) (N := 2) hx hb hts i_Uncoder hown hK hP 0 rfl rfl 1 (by decide) (hts _ k_161) (fun _ h9 => h9) rfl d_Uncoder_endsHex_42 ?_
        refine va_getN (D := D) (ci := 2) (v := .int v1_from) (C := "MailCharacters$Line") (T := F_Line) (N := 4) hx hb hts i_Line hown hK hP 1 rfl rfl 0 (by decide) (gZ_nf hZ 6 (q := ("MailCharacters$Uncoder", 93, "MailCharacters$Line", "from", "I")) rfl) (fun _ h9 => h9) rfl d_Uncoder_endsHex_45 ?_
        refine g_Vi (As := [.int v1_from]) (rest := []) (wr := [(a0, .inr (5, [.ref x0_bits, .ref a1])), (a1, .inr (2, [.int v1_from, .int v1_to, .int v1_ended, .int v1_next]))]) ⟨hx, hb, hml, hown, hts⟩ (c_Row_get l D Z kI a2 b2 n2 H.size f2 l2 o2 v1_from hr2) (cw_Row_get hts k_503 ⟨Nat.le_of_ble_eq_true rfl, Nat.le_of_ble_eq_true rfl⟩) hK hZ hP hD hS hA [2, 3] [0, 1] (g_recv hK hP (ci := 4) (q0 := 2) rfl rfl) rfl rfl (by decide) (by decide) (by decide) rfl hl.1 rfl (Nat.le_of_ble_eq_true rfl) d_Uncoder_endsHex_48 ⟨Nat.zero_le _, Nat.zero_le _⟩ (fun r_11 u_11 H locs hw hP hD hS => ?_)
        have e_11 := hw
        subst e_11
        have hP : va_P D vwCl [(a0, .inr (5, [.ref x0_bits, .ref a1])), (a1, .inr (2, [.int v1_from, .int v1_to, .int v1_ended, .int v1_next])), (a2, .inr (4, [.ref b2, .int (nI l2.length), .int o2])), (b2, .inl (kI, n2, .inl f2))] H := hP
        have hD : va_D A [(a0, .inr (5, [.ref x0_bits, .ref a1])), (a1, .inr (2, [.int v1_from, .int v1_to, .int v1_ended, .int v1_next])), (a2, .inr (4, [.ref b2, .int (nI l2.length), .int o2])), (b2, .inl (kI, n2, .inl f2))] := hD
        refine g_Si (As := [.int (m_Row_get l2 v1_from)]) (rest := []) (wr := [(a0, .inr (5, [.ref x0_bits, .ref a1])), (a1, .inr (2, [.int v1_from, .int v1_to, .int v1_ended, .int v1_next])), (a2, .inr (4, [.ref b2, .int (nI l2.length), .int o2])), (b2, .inl (kI, n2, .inl f2))]) ⟨hx, hb, hml, hown, hts⟩ (c_Uncoder_hexValue l D Z kI H.size (m_Row_get l2 v1_from)) (cw_Uncoder_hexValue hts k_650 ⟨Nat.le_of_ble_eq_true rfl, Nat.le_of_ble_eq_true rfl⟩) hK hZ hP hD hS hA [] [0, 1, 2, 3] rfl rfl (by decide) (by decide) (by decide) rfl hl.1 rfl (Nat.le_of_ble_eq_true rfl) d_Uncoder_endsHex_51 ⟨Nat.zero_le _, Nat.zero_le _⟩ (fun r_12 u_12 H locs hw hP hD hS => ?_)
        have e_12 := hw
        subst e_12
        have hP : va_P D vwCl [(a0, .inr (5, [.ref x0_bits, .ref a1])), (a1, .inr (2, [.int v1_from, .int v1_to, .int v1_ended, .int v1_next])), (a2, .inr (4, [.ref b2, .int (nI l2.length), .int o2])), (b2, .inl (kI, n2, .inl f2))] H := hP
        have hD : va_D A [(a0, .inr (5, [.ref x0_bits, .ref a1])), (a1, .inr (2, [.int v1_from, .int v1_to, .int v1_ended, .int v1_next])), (a2, .inr (4, [.ref b2, .int (nI l2.length), .int o2])), (b2, .inl (kI, n2, .inl f2))] := hD
        refine lv_if_ne (tgt := 61) hx hb d_Uncoder_endsHex_54 (by decide) (fun c_13 => ?_) (fun c_13 => ?_)
        · rw [if_neg c_13] at hF
          refine lv_iconst (v := 0) hx hb d_Uncoder_endsHex_61 (by decide) ?_
          exact hret 0 () _ _ _ _ d_Uncoder_endsHex_62 rfl (hRES.symm.trans hF) hP hD hS
        · rw [if_pos c_13] at hF
          refine lv_iconst (v := 1) hx hb d_Uncoder_endsHex_57 (by decide) ?_
          refine lv_goto (tgt := 62) hx hb d_Uncoder_endsHex_58 (by decide) ?_
          exact hret 1 () _ _ _ _ d_Uncoder_endsHex_62 rfl (hRES.symm.trans hF) hP hD hS
      · rw [if_neg c_10] at hF
        refine lv_iconst (v := 1) hx hb d_Uncoder_endsHex_38 (by decide) ?_
        exact hret 1 () _ _ _ _ d_Uncoder_endsHex_39 rfl (hRES.symm.trans hF) hP hD hS
theorem cw_Uncoder_endsHex {R : Room} {s : State} {args : Array Value} {own : String} {idx : Nat} (hts : ∀ w ∈ gW, w.before args s = true) (hl : Cond.methodLink own idx y_Uncoder_endsHex ∈ gW) (hR : rm_Uncoder_endsHex.frames + 1 ≤ R.frames ∧ 8 + (2 + 11) + rm_Uncoder_endsHex.locals ≤ R.locals) : CallW R s args own "MailCharacters$Uncoder" idx y_Uncoder_endsHex b_Uncoder_endsHex 2 (some .boolean) w_Uncoder_endsHex rm_Uncoder_endsHex 0 0 1 := cwV 1 hts (gW_V hl k_647 k_13 k_70 k_648) rfl rfl rfl (by decide +kernel) hR
def m_Writer_endOfRun_l2 : Nat → Int32 → List Int32 → Int32
  | 0, _, _ => 0
  | nf2 + 1, i2, l0 =>
    if (m_Row_size l0) ≤ i2 then
      (m_Row_size l0)
    else
      if (m_Writer_goesInRun (m_Row_get l0 i2)) = 0 then
        i2
      else
        m_Writer_endOfRun_l2 nf2 (i2 + 1) l0
def m_Writer_endOfRun (l0 : List Int32) (p1 : Int32) : Int32 :=
  m_Writer_endOfRun_l2 (((m_Row_size l0).toInt - p1.toInt).toNat + 1) p1 l0
def rm_Writer_endOfRun : Room := { frames := 1, cells := 0, slots := 0, locals := 21 }
set_option maxHeartbeats 4000000 in
set_option maxRecDepth 100000 in
theorem c_Writer_endOfRun (l : Launch) (D : va_G) (Z : gZT) (kI : ClassId) (a0 : Nat) (b0 : Nat) (n0 : Nat) (sz : Nat) (f0 : Nat → Int32) (l0 : List Int32) (o0 : Int32) (p1 : Int32) (hr0 : g_rw n0 f0 l0) : gMi l y_Writer_endOfRun w_Writer_endOfRun rm_Writer_endOfRun D Z kI [.ref a0, .int p1] sz [(a0, .inr (4, [.ref b0, .int (nI l0.length), .int o0])), (b0, .inl (kI, n0, .inl f0))] (fun (r : Int32) (_u : Unit) => m_Writer_endOfRun l0 p1 = r) (fun (_u : Unit) => ([(a0, .inr (4, [.ref b0, .int (nI l0.length), .int o0])), (b0, .inl (kI, n0, .inl f0))] : va_W)) := by
  refine g_ofi (cc := b_Writer_endOfRun) (maxL := 3) (ty := .int) (by decide) rfl (Nat.le_of_ble_eq_true rfl) ?_
  intro p e s m below meth c A Q H ls hx hb hml hown hts hA hK hZ hP hD hS hl hret
  have hown : s.vm.findClass "MailCharacters$Writer" = some m.cls := hown
  have hl : lv_has ls 3 [(0, .ref a0), (1, .int p1)] := hl
  obtain ⟨RES, hRES⟩ : ∃ z, z = m_Writer_endOfRun l0 p1 := ⟨_, rfl⟩
  have lp2 : ∀ (nf2 : Nat) (i2 : Int32) (H : Heap) (locs : List Loc) (ls : Array Slot), ((m_Row_size l0).toInt - i2.toInt).toNat < nf2 → RES = m_Writer_endOfRun_l2 nf2 i2 l0 → va_P D vwCl [(a0, .inr (4, [.ref b0, .int (nI l0.length), .int o0])), (b0, .inl (kI, n0, .inl f0))] H → va_D A [(a0, .inr (4, [.ref b0, .int (nI l0.length), .int o0])), (b0, .inl (kI, n0, .inl f0))] → va_S A s.heap H locs → lv_has ls 3 [(0, .ref a0), (2, .int i2)] → W p l e rm_Writer_endOfRun s m ([.ref a0, .int p1] : List Value).toArray below meth c H locs 0 0 Q (F0 m 2 ls []) := by
    intro nf2
    induction nf2 with
    | zero => intro i2 H locs ls hn2; exact absurd hn2 (Nat.not_lt_zero _)
    | succ nf2 ih2 =>
      intro i2 H locs ls hn2 hF hP hD hS hl
      rw [m_Writer_endOfRun_l2] at hF
      refine lv_iload_n hx hb d_Writer_endOfRun_2 rfl (lv_at hl 1 rfl) ?_
      refine lv_aload_n hx hb d_Writer_endOfRun_3 rfl (lv_at hl 0 rfl) ?_
      refine g_Vi (As := []) (rest := [.int i2]) (wr := []) ⟨hx, hb, hml, hown, hts⟩ (c_Row_size l D Z kI a0 b0 n0 H.size f0 l0 o0 hr0) (cw_Row_size hts k_687 ⟨Nat.le_of_ble_eq_true rfl, Nat.le_of_ble_eq_true rfl⟩) hK hZ hP hD hS hA [0, 1] [] (g_recv hK hP (ci := 4) (q0 := 0) rfl rfl) rfl rfl (by decide) (by decide) (by decide) rfl hl.1 rfl (Nat.le_of_ble_eq_true rfl) d_Writer_endOfRun_4 ⟨Nat.zero_le _, Nat.zero_le _⟩ (fun r_2 u_2 H locs hw hP hD hS => ?_)
      have e_2 := hw
      subst e_2
      have hP : va_P D vwCl [(a0, .inr (4, [.ref b0, .int (nI l0.length), .int o0])), (b0, .inl (kI, n0, .inl f0))] H := hP
      have hD : va_D A [(a0, .inr (4, [.ref b0, .int (nI l0.length), .int o0])), (b0, .inl (kI, n0, .inl f0))] := hD
      refine lv_icmp_ge (tgt := 29) hx hb d_Writer_endOfRun_7 (by decide) (fun c_3 => ?_) (fun c_3 => ?_)
      · rw [if_pos c_3] at hF
        refine lv_aload_n hx hb d_Writer_endOfRun_29 rfl (lv_at hl 0 rfl) ?_
        refine g_Vi (As := []) (rest := []) (wr := []) ⟨hx, hb, hml, hown, hts⟩ (c_Row_size l D Z kI a0 b0 n0 H.size f0 l0 o0 hr0) (cw_Row_size hts k_687 ⟨Nat.le_of_ble_eq_true rfl, Nat.le_of_ble_eq_true rfl⟩) hK hZ hP hD hS hA [0, 1] [] (g_recv hK hP (ci := 4) (q0 := 0) rfl rfl) rfl rfl (by decide) (by decide) (by decide) rfl hl.1 rfl (Nat.le_of_ble_eq_true rfl) d_Writer_endOfRun_30 ⟨Nat.zero_le _, Nat.zero_le _⟩ (fun r_4 u_4 H locs hw hP hD hS => ?_)
        have e_4 := hw
        subst e_4
        have hP : va_P D vwCl [(a0, .inr (4, [.ref b0, .int (nI l0.length), .int o0])), (b0, .inl (kI, n0, .inl f0))] H := hP
        have hD : va_D A [(a0, .inr (4, [.ref b0, .int (nI l0.length), .int o0])), (b0, .inl (kI, n0, .inl f0))] := hD
        exact hret (m_Row_size l0) () _ _ _ _ d_Writer_endOfRun_33 rfl (hRES.symm.trans hF) hP hD hS
      · rw [if_neg c_3] at hF
        refine lv_aload_n hx hb d_Writer_endOfRun_10 rfl (lv_at hl 0 rfl) ?_
        refine lv_iload_n hx hb d_Writer_endOfRun_11 rfl (lv_at hl 1 rfl) ?_
        refine g_Vi (As := [.int i2]) (rest := []) (wr := []) ⟨hx, hb, hml, hown, hts⟩ (c_Row_get l D Z kI a0 b0 n0 H.size f0 l0 o0 i2 hr0) (cw_Row_get hts k_688 ⟨Nat.le_of_ble_eq_true rfl, Nat.le_of_ble_eq_true rfl⟩) hK hZ hP hD hS hA [0, 1] [] (g_recv hK hP (ci := 4) (q0 := 0) rfl rfl) rfl rfl (by decide) (by decide) (by decide) rfl hl.1 rfl (Nat.le_of_ble_eq_true rfl) d_Writer_endOfRun_12 ⟨Nat.zero_le _, Nat.zero_le _⟩ (fun r_5 u_5 H locs hw hP hD hS => ?_)
        have e_5 := hw
        subst e_5
        have hP : va_P D vwCl [(a0, .inr (4, [.ref b0, .int (nI l0.length), .int o0])), (b0, .inl (kI, n0, .inl f0))] H := hP
        have hD : va_D A [(a0, .inr (4, [.ref b0, .int (nI l0.length), .int o0])), (b0, .inl (kI, n0, .inl f0))] := hD
        refine g_Si (As := [.int (m_Row_get l0 i2)]) (rest := []) (wr := [(a0, .inr (4, [.ref b0, .int (nI l0.length), .int o0])), (b0, .inl (kI, n0, .inl f0))]) ⟨hx, hb, hml, hown, hts⟩ (c_Writer_goesInRun l D Z kI H.size (m_Row_get l0 i2)) (cw_Writer_goesInRun hts k_692 ⟨Nat.le_of_ble_eq_true rfl, Nat.le_of_ble_eq_true rfl⟩) hK hZ hP hD hS hA [] [0, 1] rfl rfl (by decide) (by decide) (by decide) rfl hl.1 rfl (Nat.le_of_ble_eq_true rfl) d_Writer_endOfRun_15 ⟨Nat.zero_le _, Nat.zero_le _⟩ (fun r_6 u_6 H locs hw hP hD hS => ?_)
        have e_6 := hw
        subst e_6
        have hP : va_P D vwCl [(a0, .inr (4, [.ref b0, .int (nI l0.length), .int o0])), (b0, .inl (kI, n0, .inl f0))] H := hP
        have hD : va_D A [(a0, .inr (4, [.ref b0, .int (nI l0.length), .int o0])), (b0, .inl (kI, n0, .inl f0))] := hD
        refine lv_if_ne (tgt := 23) hx hb d_Writer_endOfRun_18 (by decide) (fun c_7 => ?_) (fun c_7 => ?_)
        · rw [if_neg c_7] at hF
          refine lv_iinc (v := (i2 + 1)) (lv' := [(2, .int (i2 + 1)), (0, .ref a0)]) hx hb d_Writer_endOfRun_23 hl (k := 1) rfl rfl (by decide) rfl (fun ls hl => ?_)
          refine lv_goto (tgt := 2) hx hb d_Writer_endOfRun_26 (by decide) ?_
          exact ih2 (i2 + 1)  _ _ _  (Nat.lt_of_lt_of_le (g_dec1 c_3) (Nat.le_of_lt_succ hn2)) hF hP hD hS (lv_sub hl [1, 0] rfl)
        · rw [if_pos c_7] at hF
          refine lv_iload_n hx hb d_Writer_endOfRun_21 rfl (lv_at hl 1 rfl) ?_
          exact hret i2 () _ _ _ _ d_Writer_endOfRun_22 rfl (hRES.symm.trans hF) hP hD hS
  have hF := hRES
  rw [m_Writer_endOfRun] at hF
  refine lv_iload_n hx hb d_Writer_endOfRun_0 rfl (lv_at hl 1 rfl) ?_
  refine lv_istore_n (lv' := [(2, .int p1), (0, .ref a0), (1, .int p1)]) hx hb d_Writer_endOfRun_1 rfl hl (by decide) rfl (fun ls hl => ?_)
  exact lp2 (((m_Row_size l0).toInt - p1.toInt).toNat + 1) p1  _ _ _  (Nat.lt_succ_self _) hF hP hD hS (lv_sub hl [1, 0] rfl)
theorem cw_Writer_endOfRun {R : Room} {s : State} {args : Array Value} {own : String} {idx : Nat} (hts : ∀ w ∈ gW, w.before args s = true) (hl : Cond.methodLink own idx y_Writer_endOfRun ∈ gW) (hR : rm_Writer_endOfRun.frames + 1 ≤ R.frames ∧ 8 + (3 + 11) + rm_Writer_endOfRun.locals ≤ R.locals) : CallB R s args own idx y_Writer_endOfRun b_Writer_endOfRun 3 (some .int) w_Writer_endOfRun rm_Writer_endOfRun 0 0 2 ∧ (Cond.static y_Writer_endOfRun).before args s = true := va_cwS 2 hts (gW_S hl k_690 k_75 k_691) rfl rfl rfl (by decide +kernel) hR
def m_Writer_widthOfRun_l5 : Nat → Int32 → Int32 → Int32 → List Int32 → Int32
  | 0, _, _, _, _ => 0
  | nf5 + 1, i2, i3, i4, l0 =>
    if i2 ≤ i4 then
      ((((i3 * 16) + 5) / 6) + 2)
    else
      m_Writer_widthOfRun_l5 nf5 i2 (i3 + (m_Writer_unitsOf (m_Row_get l0 i4))) (i4 + 1) l0
def m_Writer_widthOfRun (l0 : List Int32) (p1 : Int32) (p2 : Int32) : Int32 :=
  m_Writer_widthOfRun_l5 ((p2.toInt - p1.toInt).toNat + 1) p2 0 p1 l0
def rm_Writer_widthOfRun : Room := { frames := 1, cells := 0, slots := 0, locals := 21 }
set_option maxHeartbeats 4000000 in
set_option maxRecDepth 100000 in
theorem c_Writer_widthOfRun (l : Launch) (D : va_G) (Z : gZT) (kI : ClassId) (a0 : Nat) (b0 : Nat) (n0 : Nat) (sz : Nat) (f0 : Nat → Int32) (l0 : List Int32) (o0 : Int32) (p1 : Int32) (p2 : Int32) (hr0 : g_rw n0 f0 l0) : gMi l y_Writer_widthOfRun w_Writer_widthOfRun rm_Writer_widthOfRun D Z kI [.ref a0, .int p1, .int p2] sz [(a0, .inr (4, [.ref b0, .int (nI l0.length), .int o0])), (b0, .inl (kI, n0, .inl f0))] (fun (r : Int32) (_u : Unit) => m_Writer_widthOfRun l0 p1 p2 = r) (fun (_u : Unit) => ([(a0, .inr (4, [.ref b0, .int (nI l0.length), .int o0])), (b0, .inl (kI, n0, .inl f0))] : va_W)) := by
  refine g_ofi (cc := b_Writer_widthOfRun) (maxL := 5) (ty := .int) (by decide) rfl (Nat.le_of_ble_eq_true rfl) ?_
  intro p e s m below meth c A Q H ls hx hb hml hown hts hA hK hZ hP hD hS hl hret
  have hown : s.vm.findClass "MailCharacters$Writer" = some m.cls := hown
  have hl : lv_has ls 5 [(0, .ref a0), (1, .int p1), (2, .int p2)] := hl
  obtain ⟨RES, hRES⟩ : ∃ z, z = m_Writer_widthOfRun l0 p1 p2 := ⟨_, rfl⟩
  have lp5 : ∀ (nf5 : Nat) (i2 : Int32) (i3 : Int32) (i4 : Int32) (H : Heap) (locs : List Loc) (ls : Array Slot), (i2.toInt - i4.toInt).toNat < nf5 → RES = m_Writer_widthOfRun_l5 nf5 i2 i3 i4 l0 → va_P D vwCl [(a0, .inr (4, [.ref b0, .int (nI l0.length), .int o0])), (b0, .inl (kI, n0, .inl f0))] H → va_D A [(a0, .inr (4, [.ref b0, .int (nI l0.length), .int o0])), (b0, .inl (kI, n0, .inl f0))] → va_S A s.heap H locs → lv_has ls 5 [(0, .ref a0), (2, .int i2), (3, .int i3), (4, .int i4)] → W p l e rm_Writer_widthOfRun s m ([.ref a0, .int p1, .int p2] : List Value).toArray below meth c H locs 0 0 Q (F0 m 5 ls []) := by
    intro nf5
    induction nf5 with
    | zero => intro i2 i3 i4 H locs ls hn5; exact absurd hn5 (Nat.not_lt_zero _)
    | succ nf5 ih5 =>
      intro i2 i3 i4 H locs ls hn5 hF hP hD hS hl
      rw [m_Writer_widthOfRun_l5] at hF
      refine lv_iload hx hb d_Writer_widthOfRun_5 (lv_at hl 3 rfl) ?_
      refine lv_iload_n hx hb d_Writer_widthOfRun_7 rfl (lv_at hl 1 rfl) ?_
      refine lv_icmp_ge (tgt := 29) hx hb d_Writer_widthOfRun_8 (by decide) (fun c_1 => ?_) (fun c_1 => ?_)
      · rw [if_pos c_1] at hF
        refine lv_iload_n hx hb d_Writer_widthOfRun_29 rfl (lv_at hl 2 rfl) ?_
        refine lv_bipush (v := 16) hx hb d_Writer_widthOfRun_30 (by decide) ?_
        refine lv_imul hx hb d_Writer_widthOfRun_32 ?_
        refine lv_iconst (v := 5) hx hb d_Writer_widthOfRun_33 (by decide) ?_
        refine lv_iadd hx hb d_Writer_widthOfRun_34 ?_
        refine lv_bipush (v := 6) hx hb d_Writer_widthOfRun_35 (by decide) ?_
        refine lv_idiv hx hb d_Writer_widthOfRun_37 (by decide) ?_
        refine lv_iconst (v := 2) hx hb d_Writer_widthOfRun_38 (by decide) ?_
        refine lv_iadd hx hb d_Writer_widthOfRun_39 ?_
        exact hret ((((i3 * 16) + 5) / 6) + 2) () _ _ _ _ d_Writer_widthOfRun_40 rfl (hRES.symm.trans hF) hP hD hS
      · rw [if_neg c_1] at hF
        refine lv_iload_n hx hb d_Writer_widthOfRun_11 rfl (lv_at hl 2 rfl) ?_
        refine lv_aload_n hx hb d_Writer_widthOfRun_12 rfl (lv_at hl 0 rfl) ?_
        refine lv_iload hx hb d_Writer_widthOfRun_13 (lv_at hl 3 rfl) ?_
        refine g_Vi (As := [.int i4]) (rest := [.int i3]) (wr := []) ⟨hx, hb, hml, hown, hts⟩ (c_Row_get l D Z kI a0 b0 n0 H.size f0 l0 o0 i4 hr0) (cw_Row_get hts k_688 ⟨Nat.le_of_ble_eq_true rfl, Nat.le_of_ble_eq_true rfl⟩) hK hZ hP hD hS hA [0, 1] [] (g_recv hK hP (ci := 4) (q0 := 0) rfl rfl) rfl rfl (by decide) (by decide) (by decide) rfl hl.1 rfl (Nat.le_of_ble_eq_true rfl) d_Writer_widthOfRun_15 ⟨Nat.zero_le _, Nat.zero_le _⟩ (fun r_2 u_2 H locs hw hP hD hS => ?_)
        have e_2 := hw
        subst e_2
        have hP : va_P D vwCl [(a0, .inr (4, [.ref b0, .int (nI l0.length), .int o0])), (b0, .inl (kI, n0, .inl f0))] H := hP
        have hD : va_D A [(a0, .inr (4, [.ref b0, .int (nI l0.length), .int o0])), (b0, .inl (kI, n0, .inl f0))] := hD
        refine g_Si (As := [.int (m_Row_get l0 i4)]) (rest := [.int i3]) (wr := [(a0, .inr (4, [.ref b0, .int (nI l0.length), .int o0])), (b0, .inl (kI, n0, .inl f0))]) ⟨hx, hb, hml, hown, hts⟩ (c_Writer_unitsOf l D Z kI H.size (m_Row_get l0 i4)) (cw_Writer_unitsOf hts k_699 ⟨Nat.le_of_ble_eq_true rfl, Nat.le_of_ble_eq_true rfl⟩) hK hZ hP hD hS hA [] [0, 1] rfl rfl (by decide) (by decide) (by decide) rfl hl.1 rfl (Nat.le_of_ble_eq_true rfl) d_Writer_widthOfRun_18 ⟨Nat.zero_le _, Nat.zero_le _⟩ (fun r_3 u_3 H locs hw hP hD hS => ?_)
        have e_3 := hw
        subst e_3
        have hP : va_P D vwCl [(a0, .inr (4, [.ref b0, .int (nI l0.length), .int o0])), (b0, .inl (kI, n0, .inl f0))] H := hP
        have hD : va_D A [(a0, .inr (4, [.ref b0, .int (nI l0.length), .int o0])), (b0, .inl (kI, n0, .inl f0))] := hD
        refine lv_iadd hx hb d_Writer_widthOfRun_21 ?_
        refine lv_istore_n (lv' := [(3, .int (i3 + (m_Writer_unitsOf (m_Row_get l0 i4)))), (0, .ref a0), (2, .int i2), (4, .int i4)]) hx hb d_Writer_widthOfRun_22 rfl hl (by decide) rfl (fun ls hl => ?_)
        refine lv_iinc (v := (i4 + 1)) (lv' := [(4, .int (i4 + 1)), (3, .int (i3 + (m_Writer_unitsOf (m_Row_get l0 i4)))), (0, .ref a0), (2, .int i2)]) hx hb d_Writer_widthOfRun_23 hl (k := 3) rfl rfl (by decide) rfl (fun ls hl => ?_)
        refine lv_goto (tgt := 5) hx hb d_Writer_widthOfRun_26 (by decide) ?_
        exact ih5 i2 (i3 + (m_Writer_unitsOf (m_Row_get l0 i4))) (i4 + 1)  _ _ _  (Nat.lt_of_lt_of_le (g_dec1 c_1) (Nat.le_of_lt_succ hn5)) hF hP hD hS (lv_sub hl [2, 3, 1, 0] rfl)
  have hF := hRES
  rw [m_Writer_widthOfRun] at hF
  refine lv_iconst (v := 0) hx hb d_Writer_widthOfRun_0 (by decide) ?_
  refine lv_istore_n (lv' := [(3, .int 0), (0, .ref a0), (1, .int p1), (2, .int p2)]) hx hb d_Writer_widthOfRun_1 rfl hl (by decide) rfl (fun ls hl => ?_)
  refine lv_iload_n hx hb d_Writer_widthOfRun_2 rfl (lv_at hl 2 rfl) ?_
  refine lv_istore (lv' := [(4, .int p1), (3, .int 0), (0, .ref a0), (1, .int p1), (2, .int p2)]) hx hb d_Writer_widthOfRun_3 hl (by decide) rfl (fun ls hl => ?_)
  exact lp5 ((p2.toInt - p1.toInt).toNat + 1) p2 0 p1  _ _ _  (Nat.lt_succ_self _) hF hP hD hS (lv_sub hl [2, 4, 1, 0] rfl)
theorem cw_Writer_widthOfRun {R : Room} {s : State} {args : Array Value} {own : String} {idx : Nat} (hts : ∀ w ∈ gW, w.before args s = true) (hl : Cond.methodLink own idx y_Writer_widthOfRun ∈ gW) (hR : rm_Writer_widthOfRun.frames + 1 ≤ R.frames ∧ 8 + (5 + 11) + rm_Writer_widthOfRun.locals ≤ R.locals) : CallB R s args own idx y_Writer_widthOfRun b_Writer_widthOfRun 5 (some .int) w_Writer_widthOfRun rm_Writer_widthOfRun 0 0 3 ∧ (Cond.static y_Writer_widthOfRun).before args s = true := va_cwS 3 hts (gW_S hl k_697 k_75 k_698) rfl rfl rfl (by decide +kernel) hR
def m_Writer_putLetters_l2 (n2 : Nat) : Nat → Int32 → Int32 → Int32 → List Int32 → Int32 → Int32 × List Int32 × Int32
  | 0, _, _, v1_held, l2, o2 => (v1_held, l2, o2)
  | nf2 + 1, i2, v1_value, v1_held, l2, o2 =>
    if 3 ≤ i2 then
      (v1_held, l2, o2)
    else
      if (m_Bits_has v1_held 6) = 0 then
        (v1_held, l2, o2)
      else
        match (m_Bits_take v1_value v1_held 6) with
        | (r_4, v2_held_4) =>
          match (m_Row_put n2 l2 o2 (m_Letters_letterOf r_4)) with
          | (l1_6, o1_6) =>
            m_Writer_putLetters_l2 n2 nf2 (i2 + 1) v1_value v2_held_4 l1_6 o1_6
def m_Writer_putLetters (n2 : Nat) (v1_value : Int32) (v1_held : Int32) (l2 : List Int32) (o2 : Int32) : Int32 × List Int32 × Int32 :=
  m_Writer_putLetters_l2 n2 (((3 : Int32).toInt - (0 : Int32).toInt).toNat + 1) 0 v1_value v1_held l2 o2
def rm_Writer_putLetters : Room := { frames := 1, cells := 0, slots := 0, locals := 21 }
set_option maxHeartbeats 4000000 in
set_option maxRecDepth 100000 in
theorem c_Writer_putLetters (l : Launch) (D : va_G) (Z : gZT) (kI : ClassId) (a0 : Nat) (a1 : Nat) (a2 : Nat) (b2 : Nat) (n2 : Nat) (sz : Nat) (v1_value : Int32) (v1_held : Int32) (f2 : Nat → Int32) (l2 : List Int32) (o2 : Int32) (hr2 : g_rw n2 f2 l2) : gMv l y_Writer_putLetters w_Writer_putLetters rm_Writer_putLetters D Z kI [.ref a0, .ref a2] sz [(a0, .inr (7, [.ref a1])), (a1, .inr (0, [.int v1_value, .int v1_held])), (a2, .inr (4, [.ref b2, .int (nI l2.length), .int o2])), (b2, .inl (kI, n2, .inl f2))] (fun (u : Int32 × (Nat → Int32) × List Int32 × Int32) => m_Writer_putLetters n2 v1_value v1_held l2 o2 = (u.1, u.2.2.1, u.2.2.2) ∧ g_rw n2 u.2.1 u.2.2.1) (fun (u : Int32 × (Nat → Int32) × List Int32 × Int32) => ([(a0, .inr (7, [.ref a1])), (a1, .inr (0, [.int v1_value, .int u.1])), (a2, .inr (4, [.ref b2, .int (nI u.2.2.1.length), .int u.2.2.2])), (b2, .inl (kI, n2, .inl u.2.1))] : va_W)) := by
  refine g_ofv (cc := b_Writer_putLetters) (maxL := 3) (by decide) rfl (Nat.le_of_ble_eq_true rfl) ?_
  intro p e s m below meth c A Q H ls hx hb hml hown hts hA hK hZ hP hD hS hl hret
  have hown : s.vm.findClass "MailCharacters$Writer" = some m.cls := hown
  have hl : lv_has ls 3 [(0, .ref a0), (1, .ref a2)] := hl
  obtain ⟨RES, hRES⟩ : ∃ z, z = m_Writer_putLetters n2 v1_value v1_held l2 o2 := ⟨_, rfl⟩
  have lp2 : ∀ (nf2 : Nat) (i2 : Int32) (v1_held : Int32) (f2 : Nat → Int32) (l2 : List Int32) (o2 : Int32) (hr2 : g_rw n2 f2 l2) (H : Heap) (locs : List Loc) (ls : Array Slot), ((3 : Int32).toInt - i2.toInt).toNat < nf2 → RES = m_Writer_putLetters_l2 n2 nf2 i2 v1_value v1_held l2 o2 → va_P D vwCl [(a0, .inr (7, [.ref a1])), (a1, .inr (0, [.int v1_value, .int v1_held])), (a2, .inr (4, [.ref b2, .int (nI l2.length), .int o2])), (b2, .inl (kI, n2, .inl f2))] H → va_D A [(a0, .inr (7, [.ref a1])), (a1, .inr (0, [.int v1_value, .int v1_held])), (a2, .inr (4, [.ref b2, .int (nI l2.length), .int o2])), (b2, .inl (kI, n2, .inl f2))] → va_S A s.heap H locs → lv_has ls 3 [(0, .ref a0), (1, .ref a2), (2, .int i2)] → W p l e rm_Writer_putLetters s m ([.ref a0, .ref a2] : List Value).toArray below meth c H locs 0 0 Q (F0 m 2 ls []) := by
    intro nf2
    induction nf2 with
    | zero => intro i2 v1_held f2 l2 o2 hr2 H locs ls hn2; exact absurd hn2 (Nat.not_lt_zero _)
    | succ nf2 ih2 =>
      intro i2 v1_held f2 l2 o2 hr2 H locs ls hn2 hF hP hD hS hl
      rw [m_Writer_putLetters_l2] at hF
      refine lv_iload_n hx hb d_Writer_putLetters_2 rfl (lv_at hl 2 rfl) ?_
      refine lv_iconst (v := 3) hx hb d_Writer_putLetters_3 (by decide) ?_
      refine lv_icmp_ge (tgt := 41) hx hb d_Writer_putLetters_4 (by decide) (fun c_1 => ?_) (fun c_1 => ?_)
      · rw [if_pos c_1] at hF
        exact hret (v1_held, f2, l2, o2) _ _ _ _ d_Writer_putLetters_41 (⟨hRES.symm.trans hF, hr2⟩) hP hD hS
      · rw [if_neg c_1] at hF
        refine lv_aload_n hx hb d_Writer_putLetters_7 rfl (lv_at hl 0 rfl) ?_
        refine va_get (D := D) (ci := 7) (v := .ref a1) (C := "MailCharacters$Writer") (T := F_Writer) (N := 1) hx hb hts i_Writer hown hK hP 0 rfl rfl 0 (by decide) (hts _ k_205) (fun _ h9 => h9) rfl d_Writer_putLetters_8 ?_
        refine lv_bipush (v := 6) hx hb d_Writer_putLetters_11 (by decide) ?_
        refine g_Vi (As := [.int 6]) (rest := []) (wr := [(a0, .inr (7, [.ref a1])), (a2, .inr (4, [.ref b2, .int (nI l2.length), .int o2])), (b2, .inl (kI, n2, .inl f2))]) ⟨hx, hb, hml, hown, hts⟩ (c_Bits_has l D Z kI a1 H.size v1_value v1_held 6) (cw_Bits_has hts k_722 ⟨Nat.le_of_ble_eq_true rfl, Nat.le_of_ble_eq_true rfl⟩) hK hZ hP hD hS hA [1] [0, 2, 3] (g_recv hK hP (ci := 0) (q0 := 1) rfl rfl) rfl rfl (by decide) (by decide) (by decide) rfl hl.1 rfl (Nat.le_of_ble_eq_true rfl) d_Writer_putLetters_13 ⟨Nat.zero_le _, Nat.zero_le _⟩ (fun r_2 u_2 H locs hw hP hD hS => ?_)
        have e_2 := hw
        subst e_2
        have hP : va_P D vwCl [(a0, .inr (7, [.ref a1])), (a2, .inr (4, [.ref b2, .int (nI l2.length), .int o2])), (b2, .inl (kI, n2, .inl f2)), (a1, .inr (0, [.int v1_value, .int v1_held]))] H := hP
        have hD : va_D A [(a0, .inr (7, [.ref a1])), (a2, .inr (4, [.ref b2, .int (nI l2.length), .int o2])), (b2, .inl (kI, n2, .inl f2)), (a1, .inr (0, [.int v1_value, .int v1_held]))] := hD
        refine lv_if_eq (tgt := 41) hx hb d_Writer_putLetters_16 (by decide) (fun c_3 => ?_) (fun c_3 => ?_)
        · rw [if_pos c_3] at hF
          exact hret (v1_held, f2, l2, o2) _ _ _ _ d_Writer_putLetters_41 (⟨hRES.symm.trans hF, hr2⟩) (hP.sub [0, 3, 1, 2] rfl) (hD.sub [0, 3, 1, 2] (by decide) rfl) hS
        · rw [if_neg c_3] at hF
          refine lv_aload_n hx hb d_Writer_putLetters_19 rfl (lv_at hl 1 rfl) ?_
          refine lv_aload_n hx hb d_Writer_putLetters_20 rfl (lv_at hl 0 rfl) ?_
          refine va_get (D := D) (ci := 7) (v := .ref a1) (C := "MailCharacters$Writer") (T := F_Writer) (N := 1) hx hb hts i_Writer hown hK hP 0 rfl rfl 0 (by decide) (hts _ k_205) (fun _ h9 => h9) rfl d_Writer_putLetters_21 ?_
          refine lv_bipush (v := 6) hx hb d_Writer_putLetters_24 (by decide) ?_
          refine g_Vi (As := [.int 6]) (rest := [.ref a2]) (wr := [(a0, .inr (7, [.ref a1])), (a2, .inr (4, [.ref b2, .int (nI l2.length), .int o2])), (b2, .inl (kI, n2, .inl f2))]) ⟨hx, hb, hml, hown, hts⟩ (c_Bits_take l D Z kI a1 H.size v1_value v1_held 6) (cw_Bits_take hts k_723 ⟨Nat.le_of_ble_eq_true rfl, Nat.le_of_ble_eq_true rfl⟩) hK hZ hP hD hS hA [3] [0, 1, 2] (g_recv hK hP (ci := 0) (q0 := 3) rfl rfl) rfl rfl (by decide) (by decide) (by decide) rfl hl.1 rfl (Nat.le_of_ble_eq_true rfl) d_Writer_putLetters_26 ⟨Nat.zero_le _, Nat.zero_le _⟩ (fun r_4 v2_held_4 H locs hw hP hD hS => ?_)
          have e_4 := hw
          have hP : va_P D vwCl [(a0, .inr (7, [.ref a1])), (a2, .inr (4, [.ref b2, .int (nI l2.length), .int o2])), (b2, .inl (kI, n2, .inl f2)), (a1, .inr (0, [.int v1_value, .int v2_held_4]))] H := hP
          have hD : va_D A [(a0, .inr (7, [.ref a1])), (a2, .inr (4, [.ref b2, .int (nI l2.length), .int o2])), (b2, .inl (kI, n2, .inl f2)), (a1, .inr (0, [.int v1_value, .int v2_held_4]))] := hD
          rw [e_4] at hF; dsimp only at hF
          refine g_Si (As := [.int r_4]) (rest := [.ref a2]) (wr := [(a0, .inr (7, [.ref a1])), (a2, .inr (4, [.ref b2, .int (nI l2.length), .int o2])), (b2, .inl (kI, n2, .inl f2)), (a1, .inr (0, [.int v1_value, .int v2_held_4]))]) ⟨hx, hb, hml, hown, hts⟩ (c_Letters_letterOf l D Z kI H.size r_4) (cw_Letters_letterOf hts k_724 ⟨Nat.le_of_ble_eq_true rfl, Nat.le_of_ble_eq_true rfl⟩) hK hZ hP hD hS hA [] [0, 1, 2, 3] rfl rfl (by decide) (by decide) (by decide) rfl hl.1 rfl (Nat.le_of_ble_eq_true rfl) d_Writer_putLetters_29 ⟨Nat.zero_le _, Nat.zero_le _⟩ (fun r_5 u_5 H locs hw hP hD hS => ?_)
          have e_5 := hw
          subst e_5
          have hP : va_P D vwCl [(a0, .inr (7, [.ref a1])), (a2, .inr (4, [.ref b2, .int (nI l2.length), .int o2])), (b2, .inl (kI, n2, .inl f2)), (a1, .inr (0, [.int v1_value, .int v2_held_4]))] H := hP
          have hD : va_D A [(a0, .inr (7, [.ref a1])), (a2, .inr (4, [.ref b2, .int (nI l2.length), .int o2])), (b2, .inl (kI, n2, .inl f2)), (a1, .inr (0, [.int v1_value, .int v2_held_4]))] := hD
          refine g_Vv (As := [.int (m_Letters_letterOf r_4)]) (rest := []) (wr := [(a0, .inr (7, [.ref a1])), (a1, .inr (0, [.int v1_value, .int v2_held_4]))]) ⟨hx, hb, hml, hown, hts⟩ (c_Row_put l D Z kI a2 b2 n2 H.size f2 l2 o2 (m_Letters_letterOf r_4) hr2) (cw_Row_put hts k_710 ⟨Nat.le_of_ble_eq_true rfl, Nat.le_of_ble_eq_true rfl⟩) hK hZ hP hD hS hA [1, 2] [0, 3] (g_recv hK hP (ci := 4) (q0 := 1) rfl rfl) rfl rfl (by decide) (by decide) (by decide) rfl hl.1 rfl (Nat.le_of_ble_eq_true rfl) d_Writer_putLetters_32 ⟨Nat.zero_le _, Nat.zero_le _⟩ (fun u_6 H locs hw hP hD hS => ?_)
          obtain ⟨f1_6, l1_6, o1_6⟩ := u_6
          have e_6 := hw.1
          have hr1_6 := hw.2
          have hP : va_P D vwCl [(a0, .inr (7, [.ref a1])), (a1, .inr (0, [.int v1_value, .int v2_held_4])), (a2, .inr (4, [.ref b2, .int (nI l1_6.length), .int o1_6])), (b2, .inl (kI, n2, .inl f1_6))] H := hP
          have hD : va_D A [(a0, .inr (7, [.ref a1])), (a1, .inr (0, [.int v1_value, .int v2_held_4])), (a2, .inr (4, [.ref b2, .int (nI l1_6.length), .int o1_6])), (b2, .inl (kI, n2, .inl f1_6))] := hD
          rw [e_6] at hF; dsimp only at hF
          refine lv_iinc (v := (i2 + 1)) (lv' := [(2, .int (i2 + 1)), (0, .ref a0), (1, .ref a2)]) hx hb d_Writer_putLetters_35 hl (k := 2) rfl rfl (by decide) rfl (fun ls hl => ?_)
          refine lv_goto (tgt := 2) hx hb d_Writer_putLetters_38 (by decide) ?_
          exact ih2 (i2 + 1) v2_held_4 f1_6 l1_6 o1_6 hr1_6 _ _ _  (Nat.lt_of_lt_of_le (g_dec1 c_1) (Nat.le_of_lt_succ hn2)) hF hP hD hS (lv_sub hl [1, 2, 0] rfl)
  have hF := hRES
  rw [m_Writer_putLetters] at hF
  refine lv_iconst (v := 0) hx hb d_Writer_putLetters_0 (by decide) ?_
  refine lv_istore_n (lv' := [(2, .int 0), (0, .ref a0), (1, .ref a2)]) hx hb d_Writer_putLetters_1 rfl hl (by decide) rfl (fun ls hl => ?_)
  exact lp2 (((3 : Int32).toInt - (0 : Int32).toInt).toNat + 1) 0 v1_held f2 l2 o2 hr2 _ _ _  (Nat.lt_succ_self _) hF hP hD hS (lv_sub hl [1, 2, 0] rfl)
theorem cw_Writer_putLetters {R : Room} {s : State} {args : Array Value} {own : String} {idx : Nat} (hts : ∀ w ∈ gW, w.before args s = true) (hl : Cond.methodLink own idx y_Writer_putLetters ∈ gW) (hR : rm_Writer_putLetters.frames + 1 ≤ R.frames ∧ 8 + (3 + 11) + rm_Writer_putLetters.locals ≤ R.locals) : CallW R s args own "MailCharacters$Writer" idx y_Writer_putLetters b_Writer_putLetters 3 none w_Writer_putLetters rm_Writer_putLetters 0 0 1 := cwV 1 hts (gW_V hl k_720 k_18 k_75 k_721) rfl rfl rfl (by decide +kernel) hR
def m_Writer_widthOf (p0 : Int32) (p1 : Int32) : Int32 :=
  if p1 = 4 then
    (m_Writer_utf8WidthOf p0)
  else
    if p1 = 5 then
      ((m_Writer_unitsOf p0) * 2)
    else
      if p1 = 6 then
        ((m_Writer_unitsOf p0) * 2)
      else
        if p1 = 7 then
          ((m_Writer_unitsOf p0) * 2)
        else
          1
def rm_Writer_widthOf : Room := { frames := 1, cells := 0, slots := 0, locals := 20 }
set_option maxHeartbeats 4000000 in
set_option maxRecDepth 100000 in
theorem c_Writer_widthOf (l : Launch) (D : va_G) (Z : gZT) (kI : ClassId) (sz : Nat) (p0 : Int32) (p1 : Int32) : gMi l y_Writer_widthOf w_Writer_widthOf rm_Writer_widthOf D Z kI [.int p0, .int p1] sz [] (fun (r : Int32) (_u : Unit) => m_Writer_widthOf p0 p1 = r) (fun (_u : Unit) => ([] : va_W)) := by
  refine g_ofi (cc := b_Writer_widthOf) (maxL := 2) (ty := .int) (by decide) rfl (Nat.le_of_ble_eq_true rfl) ?_
  intro p e s m below meth c A Q H ls hx hb hml hown hts hA hK hZ hP hD hS hl hret
  have hown : s.vm.findClass "MailCharacters$Writer" = some m.cls := hown
  have hl : lv_has ls 2 [(0, .int p0), (1, .int p1)] := hl
  obtain ⟨RES, hRES⟩ : ∃ z, z = m_Writer_widthOf p0 p1 := ⟨_, rfl⟩
  have hF := hRES
  rw [m_Writer_widthOf] at hF
  refine lv_iload_n hx hb d_Writer_widthOf_0 rfl (lv_at hl 1 rfl) ?_
  by_cases c_1 : p1 = 4
  · rw [if_pos c_1] at hF
    refine lv_tableIn (off := 31) (tgt := 32) hx hb d_Writer_widthOf_1 (by rw [c_1]; decide) (by rw [c_1]; decide) (by rw [c_1]; decide) (by decide) ?_
    refine lv_iload_n hx hb d_Writer_widthOf_32 rfl (lv_at hl 0 rfl) ?_
    refine g_Si (As := [.int p0]) (rest := []) (wr := []) ⟨hx, hb, hml, hown, hts⟩ (c_Writer_utf8WidthOf l D Z kI H.size p0) (cw_Writer_utf8WidthOf hts k_738 ⟨Nat.le_of_ble_eq_true rfl, Nat.le_of_ble_eq_true rfl⟩) hK hZ hP hD hS hA [] [] rfl rfl (by decide) (by decide) (by decide) rfl hl.1 rfl (Nat.le_of_ble_eq_true rfl) d_Writer_widthOf_33 ⟨Nat.zero_le _, Nat.zero_le _⟩ (fun r_2 u_2 H locs hw hP hD hS => ?_)
    have e_2 := hw
    subst e_2
    have hP : va_P D vwCl [] H := hP
    have hD : va_D A [] := hD
    exact hret (m_Writer_utf8WidthOf p0) () _ _ _ _ d_Writer_widthOf_36 rfl (hRES.symm.trans hF) hP hD hS
  rw [if_neg c_1] at hF
  by_cases c_3 : p1 = 5
  · rw [if_pos c_3] at hF
    refine lv_tableIn (off := 36) (tgt := 37) hx hb d_Writer_widthOf_1 (by rw [c_3]; decide) (by rw [c_3]; decide) (by rw [c_3]; decide) (by decide) ?_
    refine lv_iload_n hx hb d_Writer_widthOf_37 rfl (lv_at hl 0 rfl) ?_
    refine g_Si (As := [.int p0]) (rest := []) (wr := []) ⟨hx, hb, hml, hown, hts⟩ (c_Writer_unitsOf l D Z kI H.size p0) (cw_Writer_unitsOf hts k_699 ⟨Nat.le_of_ble_eq_true rfl, Nat.le_of_ble_eq_true rfl⟩) hK hZ hP hD hS hA [] [] rfl rfl (by decide) (by decide) (by decide) rfl hl.1 rfl (Nat.le_of_ble_eq_true rfl) d_Writer_widthOf_38 ⟨Nat.zero_le _, Nat.zero_le _⟩ (fun r_4 u_4 H locs hw hP hD hS => ?_)
    have e_4 := hw
    subst e_4
    have hP : va_P D vwCl [] H := hP
    have hD : va_D A [] := hD
    refine lv_iconst (v := 2) hx hb d_Writer_widthOf_41 (by decide) ?_
    refine lv_imul hx hb d_Writer_widthOf_42 ?_
    exact hret ((m_Writer_unitsOf p0) * 2) () _ _ _ _ d_Writer_widthOf_43 rfl (hRES.symm.trans hF) hP hD hS
  rw [if_neg c_3] at hF
  by_cases c_5 : p1 = 6
  · rw [if_pos c_5] at hF
    refine lv_tableIn (off := 36) (tgt := 37) hx hb d_Writer_widthOf_1 (by rw [c_5]; decide) (by rw [c_5]; decide) (by rw [c_5]; decide) (by decide) ?_
    refine lv_iload_n hx hb d_Writer_widthOf_37 rfl (lv_at hl 0 rfl) ?_
    refine g_Si (As := [.int p0]) (rest := []) (wr := []) ⟨hx, hb, hml, hown, hts⟩ (c_Writer_unitsOf l D Z kI H.size p0) (cw_Writer_unitsOf hts k_699 ⟨Nat.le_of_ble_eq_true rfl, Nat.le_of_ble_eq_true rfl⟩) hK hZ hP hD hS hA [] [] rfl rfl (by decide) (by decide) (by decide) rfl hl.1 rfl (Nat.le_of_ble_eq_true rfl) d_Writer_widthOf_38 ⟨Nat.zero_le _, Nat.zero_le _⟩ (fun r_6 u_6 H locs hw hP hD hS => ?_)
    have e_6 := hw
    subst e_6
    have hP : va_P D vwCl [] H := hP
    have hD : va_D A [] := hD
    refine lv_iconst (v := 2) hx hb d_Writer_widthOf_41 (by decide) ?_
    refine lv_imul hx hb d_Writer_widthOf_42 ?_
    exact hret ((m_Writer_unitsOf p0) * 2) () _ _ _ _ d_Writer_widthOf_43 rfl (hRES.symm.trans hF) hP hD hS
  rw [if_neg c_5] at hF
  by_cases c_7 : p1 = 7
  · rw [if_pos c_7] at hF
    refine lv_tableIn (off := 36) (tgt := 37) hx hb d_Writer_widthOf_1 (by rw [c_7]; decide) (by rw [c_7]; decide) (by rw [c_7]; decide) (by decide) ?_
    refine lv_iload_n hx hb d_Writer_widthOf_37 rfl (lv_at hl 0 rfl) ?_
    refine g_Si (As := [.int p0]) (rest := []) (wr := []) ⟨hx, hb, hml, hown, hts⟩ (c_Writer_unitsOf l D Z kI H.size p0) (cw_Writer_unitsOf hts k_699 ⟨Nat.le_of_ble_eq_true rfl, Nat.le_of_ble_eq_true rfl⟩) hK hZ hP hD hS hA [] [] rfl rfl (by decide) (by decide) (by decide) rfl hl.1 rfl (Nat.le_of_ble_eq_true rfl) d_Writer_widthOf_38 ⟨Nat.zero_le _, Nat.zero_le _⟩ (fun r_8 u_8 H locs hw hP hD hS => ?_)
    have e_8 := hw
    subst e_8
    have hP : va_P D vwCl [] H := hP
    have hD : va_D A [] := hD
    refine lv_iconst (v := 2) hx hb d_Writer_widthOf_41 (by decide) ?_
    refine lv_imul hx hb d_Writer_widthOf_42 ?_
    exact hret ((m_Writer_unitsOf p0) * 2) () _ _ _ _ d_Writer_widthOf_43 rfl (hRES.symm.trans hF) hP hD hS
  rw [if_neg c_7] at hF
  refine lv_tableOut (tgt := 44) hx hb d_Writer_widthOf_1 (by have := lv_neT c_1 (a := 4) (by decide); have := lv_neT c_3 (a := 5) (by decide); have := lv_neT c_5 (a := 6) (by decide); have := lv_neT c_7 (a := 7) (by decide); omega) (by decide) ?_
  refine lv_iconst (v := 1) hx hb d_Writer_widthOf_44 (by decide) ?_
  exact hret 1 () _ _ _ _ d_Writer_widthOf_45 rfl (hRES.symm.trans hF) hP hD hS
theorem cw_Writer_widthOf {R : Room} {s : State} {args : Array Value} {own : String} {idx : Nat} (hts : ∀ w ∈ gW, w.before args s = true) (hl : Cond.methodLink own idx y_Writer_widthOf ∈ gW) (hR : rm_Writer_widthOf.frames + 1 ≤ R.frames ∧ 8 + (2 + 11) + rm_Writer_widthOf.locals ≤ R.locals) : CallB R s args own idx y_Writer_widthOf b_Writer_widthOf 2 (some .int) w_Writer_widthOf rm_Writer_widthOf 0 0 2 ∧ (Cond.static y_Writer_widthOf).before args s = true := va_cwS 2 hts (gW_S hl k_736 k_75 k_737) rfl rfl rfl (by decide +kernel) hR
def m_SingleBytes_windowsByteOf (p0 : Int32) : Int32 :=
  if p0 < 160 then
    if p0 = 65533 then
      63
    else
      if (m_SingleBytes_placeIn 1 p0) = (-1) then
        63
      else
        (128 + (m_SingleBytes_placeIn 1 p0))
  else
    if 256 ≤ p0 then
      if p0 = 65533 then
        63
      else
        if (m_SingleBytes_placeIn 1 p0) = (-1) then
          63
        else
          (128 + (m_SingleBytes_placeIn 1 p0))
    else
      p0
def rm_SingleBytes_windowsByteOf : Room := { frames := 1, cells := 0, slots := 0, locals := 22 }
set_option maxHeartbeats 4000000 in
set_option maxRecDepth 100000 in
theorem c_SingleBytes_windowsByteOf (l : Launch) (D : va_G) (Z : gZT) (kI : ClassId) (sz : Nat) (p0 : Int32) : gMi l y_SingleBytes_windowsByteOf w_SingleBytes_windowsByteOf rm_SingleBytes_windowsByteOf D Z kI [.int p0] sz [] (fun (r : Int32) (_u : Unit) => m_SingleBytes_windowsByteOf p0 = r) (fun (_u : Unit) => ([] : va_W)) := by
  refine g_ofi (cc := b_SingleBytes_windowsByteOf) (maxL := 2) (ty := .int) (by decide) rfl (Nat.le_of_ble_eq_true rfl) ?_
  intro p e s m below meth c A Q H ls hx hb hml hown hts hA hK hZ hP hD hS hl hret
  have hown : s.vm.findClass "MailCharacters$SingleBytes" = some m.cls := hown
  have hl : lv_has ls 2 [(0, .int p0)] := hl
  obtain ⟨RES, hRES⟩ : ∃ z, z = m_SingleBytes_windowsByteOf p0 := ⟨_, rfl⟩
  have hF := hRES
  rw [m_SingleBytes_windowsByteOf] at hF
  refine lv_iload_n hx hb d_SingleBytes_windowsByteOf_0 rfl (lv_at hl 0 rfl) ?_
  refine lv_sipush (v := 160) hx hb d_SingleBytes_windowsByteOf_1 (by decide) ?_
  refine lv_icmp_lt (tgt := 16) hx hb d_SingleBytes_windowsByteOf_4 (by decide) (fun c_1 => ?_) (fun c_1 => ?_)
  · rw [if_pos c_1] at hF
    refine lv_iload_n hx hb d_SingleBytes_windowsByteOf_16 rfl (lv_at hl 0 rfl) ?_
    refine lv_ldc hx hb hown (hts _ k_484) d_SingleBytes_windowsByteOf_17 ?_
    refine lv_icmp_ne (tgt := 26) hx hb d_SingleBytes_windowsByteOf_19 (by decide) (fun c_2 => ?_) (fun c_2 => ?_)
    · rw [if_neg c_2] at hF
      refine va_gets hx hb (gZ_st1 hZ) hS hown (hts _ k_479) (fun _ h9 => h9) d_SingleBytes_windowsByteOf_26 ?_
      refine lv_iload_n hx hb d_SingleBytes_windowsByteOf_29 rfl (lv_at hl 0 rfl) ?_
      refine g_Si (As := [.ref (Z.2.2 1), .int p0]) (rest := []) (wr := []) ⟨hx, hb, hml, hown, hts⟩ (c_SingleBytes_placeIn l D Z kI H.size 1 p0 (by decide)) (cw_SingleBytes_placeIn hts k_759 ⟨Nat.le_of_ble_eq_true rfl, Nat.le_of_ble_eq_true rfl⟩) hK hZ hP hD hS hA [] [] rfl rfl (by decide) (by decide) (by decide) rfl hl.1 rfl (Nat.le_of_ble_eq_true rfl) d_SingleBytes_windowsByteOf_30 ⟨Nat.zero_le _, Nat.zero_le _⟩ (fun r_3 u_3 H locs hw hP hD hS => ?_)
      have e_3 := hw
      subst e_3
      have hP : va_P D vwCl [] H := hP
      have hD : va_D A [] := hD
      refine lv_istore_n (lv' := [(1, .int (m_SingleBytes_placeIn 1 p0)), (0, .int p0)]) hx hb d_SingleBytes_windowsByteOf_33 rfl hl (by decide) rfl (fun ls hl => ?_)
      refine lv_iload_n hx hb d_SingleBytes_windowsByteOf_34 rfl (lv_at hl 0 rfl) ?_
      refine lv_iconst (v := (-1)) hx hb d_SingleBytes_windowsByteOf_35 (by decide) ?_
      refine lv_icmp_ne (tgt := 44) hx hb d_SingleBytes_windowsByteOf_36 (by decide) (fun c_4 => ?_) (fun c_4 => ?_)
      · rw [if_neg c_4] at hF
        refine lv_sipush (v := 128) hx hb d_SingleBytes_windowsByteOf_44 (by decide) ?_
        refine lv_iload_n hx hb d_SingleBytes_windowsByteOf_47 rfl (lv_at hl 0 rfl) ?_
        refine lv_iadd hx hb d_SingleBytes_windowsByteOf_48 ?_
        exact hret (128 + (m_SingleBytes_placeIn 1 p0)) () _ _ _ _ d_SingleBytes_windowsByteOf_49 rfl (hRES.symm.trans hF) hP hD hS
      · rw [if_pos c_4] at hF
        refine lv_bipush (v := 63) hx hb d_SingleBytes_windowsByteOf_39 (by decide) ?_
        refine lv_goto (tgt := 49) hx hb d_SingleBytes_windowsByteOf_41 (by decide) ?_
        exact hret 63 () _ _ _ _ d_SingleBytes_windowsByteOf_49 rfl (hRES.symm.trans hF) hP hD hS
    · rw [if_pos c_2] at hF
      refine lv_iconst (v := (-1)) hx hb d_SingleBytes_windowsByteOf_22 (by decide) ?_
      refine lv_goto (tgt := 33) hx hb d_SingleBytes_windowsByteOf_23 (by decide) ?_
      refine lv_istore_n (lv' := [(1, .int (-1)), (0, .int p0)]) hx hb d_SingleBytes_windowsByteOf_33 rfl hl (by decide) rfl (fun ls hl => ?_)
      refine lv_iload_n hx hb d_SingleBytes_windowsByteOf_34 rfl (lv_at hl 0 rfl) ?_
      refine lv_iconst (v := (-1)) hx hb d_SingleBytes_windowsByteOf_35 (by decide) ?_
      refine lv_icmp_ne (tgt := 44) hx hb d_SingleBytes_windowsByteOf_36 (by decide) (fun c_5 => ?_) (fun c_5 => ?_)
      · exact absurd c_5 (by decide)
      · refine lv_bipush (v := 63) hx hb d_SingleBytes_windowsByteOf_39 (by decide) ?_
        refine lv_goto (tgt := 49) hx hb d_SingleBytes_windowsByteOf_41 (by decide) ?_
        exact hret 63 () _ _ _ _ d_SingleBytes_windowsByteOf_49 rfl (hRES.symm.trans hF) hP hD hS
  · rw [if_neg c_1] at hF
    refine lv_iload_n hx hb d_SingleBytes_windowsByteOf_7 rfl (lv_at hl 0 rfl) ?_
    refine lv_sipush (v := 256) hx hb d_SingleBytes_windowsByteOf_8 (by decide) ?_
    refine lv_icmp_ge (tgt := 16) hx hb d_SingleBytes_windowsByteOf_11 (by decide) (fun c_6 => ?_) (fun c_6 => ?_)
    · rw [if_pos c_6] at hF
      refine lv_iload_n hx hb d_SingleBytes_windowsByteOf_16 rfl (lv_at hl 0 rfl) ?_
      refine lv_ldc hx hb hown (hts _ k_484) d_SingleBytes_windowsByteOf_17 ?_
      refine lv_icmp_ne (tgt := 26) hx hb d_SingleBytes_windowsByteOf_19 (by decide) (fun c_7 => ?_) (fun c_7 => ?_)
      · rw [if_neg c_7] at hF
        refine va_gets hx hb (gZ_st1 hZ) hS hown (hts _ k_479) (fun _ h9 => h9) d_SingleBytes_windowsByteOf_26 ?_
        refine lv_iload_n hx hb d_SingleBytes_windowsByteOf_29 rfl (lv_at hl 0 rfl) ?_
        refine g_Si (As := [.ref (Z.2.2 1), .int p0]) (rest := []) (wr := []) ⟨hx, hb, hml, hown, hts⟩ (c_SingleBytes_placeIn l D Z kI H.size 1 p0 (by decide)) (cw_SingleBytes_placeIn hts k_759 ⟨Nat.le_of_ble_eq_true rfl, Nat.le_of_ble_eq_true rfl⟩) hK hZ hP hD hS hA [] [] rfl rfl (by decide) (by decide) (by decide) rfl hl.1 rfl (Nat.le_of_ble_eq_true rfl) d_SingleBytes_windowsByteOf_30 ⟨Nat.zero_le _, Nat.zero_le _⟩ (fun r_8 u_8 H locs hw hP hD hS => ?_)
        have e_8 := hw
        subst e_8
        have hP : va_P D vwCl [] H := hP
        have hD : va_D A [] := hD
        refine lv_istore_n (lv' := [(1, .int (m_SingleBytes_placeIn 1 p0)), (0, .int p0)]) hx hb d_SingleBytes_windowsByteOf_33 rfl hl (by decide) rfl (fun ls hl => ?_)
        refine lv_iload_n hx hb d_SingleBytes_windowsByteOf_34 rfl (lv_at hl 0 rfl) ?_
        refine lv_iconst (v := (-1)) hx hb d_SingleBytes_windowsByteOf_35 (by decide) ?_
        refine lv_icmp_ne (tgt := 44) hx hb d_SingleBytes_windowsByteOf_36 (by decide) (fun c_9 => ?_) (fun c_9 => ?_)
        · rw [if_neg c_9] at hF
          refine lv_sipush (v := 128) hx hb d_SingleBytes_windowsByteOf_44 (by decide) ?_
          refine lv_iload_n hx hb d_SingleBytes_windowsByteOf_47 rfl (lv_at hl 0 rfl) ?_
          refine lv_iadd hx hb d_SingleBytes_windowsByteOf_48 ?_
          exact hret (128 + (m_SingleBytes_placeIn 1 p0)) () _ _ _ _ d_SingleBytes_windowsByteOf_49 rfl (hRES.symm.trans hF) hP hD hS
        · rw [if_pos c_9] at hF
          refine lv_bipush (v := 63) hx hb d_SingleBytes_windowsByteOf_39 (by decide) ?_
          refine lv_goto (tgt := 49) hx hb d_SingleBytes_windowsByteOf_41 (by decide) ?_
          exact hret 63 () _ _ _ _ d_SingleBytes_windowsByteOf_49 rfl (hRES.symm.trans hF) hP hD hS
      · rw [if_pos c_7] at hF
        refine lv_iconst (v := (-1)) hx hb d_SingleBytes_windowsByteOf_22 (by decide) ?_
        refine lv_goto (tgt := 33) hx hb d_SingleBytes_windowsByteOf_23 (by decide) ?_
        refine lv_istore_n (lv' := [(1, .int (-1)), (0, .int p0)]) hx hb d_SingleBytes_windowsByteOf_33 rfl hl (by decide) rfl (fun ls hl => ?_)
        refine lv_iload_n hx hb d_SingleBytes_windowsByteOf_34 rfl (lv_at hl 0 rfl) ?_
        refine lv_iconst (v := (-1)) hx hb d_SingleBytes_windowsByteOf_35 (by decide) ?_
        refine lv_icmp_ne (tgt := 44) hx hb d_SingleBytes_windowsByteOf_36 (by decide) (fun c_10 => ?_) (fun c_10 => ?_)
        · exact absurd c_10 (by decide)
        · refine lv_bipush (v := 63) hx hb d_SingleBytes_windowsByteOf_39 (by decide) ?_
          refine lv_goto (tgt := 49) hx hb d_SingleBytes_windowsByteOf_41 (by decide) ?_
          exact hret 63 () _ _ _ _ d_SingleBytes_windowsByteOf_49 rfl (hRES.symm.trans hF) hP hD hS
    · rw [if_neg c_6] at hF
      refine lv_iload_n hx hb d_SingleBytes_windowsByteOf_14 rfl (lv_at hl 0 rfl) ?_
      exact hret p0 () _ _ _ _ d_SingleBytes_windowsByteOf_15 rfl (hRES.symm.trans hF) hP hD hS
theorem cw_SingleBytes_windowsByteOf {R : Room} {s : State} {args : Array Value} {own : String} {idx : Nat} (hts : ∀ w ∈ gW, w.before args s = true) (hl : Cond.methodLink own idx y_SingleBytes_windowsByteOf ∈ gW) (hR : rm_SingleBytes_windowsByteOf.frames + 1 ≤ R.frames ∧ 8 + (2 + 11) + rm_SingleBytes_windowsByteOf.locals ≤ R.locals) : CallB R s args own idx y_SingleBytes_windowsByteOf b_SingleBytes_windowsByteOf 2 (some .int) w_SingleBytes_windowsByteOf rm_SingleBytes_windowsByteOf 0 0 1 ∧ (Cond.static y_SingleBytes_windowsByteOf).before args s = true := va_cwS 1 hts (gW_S hl k_757 k_88 k_758) rfl rfl rfl (by decide +kernel) hR
def m_Coder_putLetter (n2 : Nat) (v0_inLine : Int32) (v1_value : Int32) (v1_held : Int32) (l2 : List Int32) (o2 : Int32) : Int32 × Int32 × List Int32 × Int32 :=
  if v0_inLine = 76 then
    match (m_Coder_endLine n2 l2 o2) with
    | (l2_5, o2_5, v0_inLine_5) =>
      match (m_Bits_take v1_value v1_held 6) with
      | (r_6, v0_held_6) =>
        match (m_Row_put n2 l2_5 o2_5 (m_Letters_letterOf r_6)) with
        | (l0_8, o0_8) =>
          ((v0_inLine_5 + 1), v0_held_6, l0_8, o0_8)
  else
    match (m_Bits_take v1_value v1_held 6) with
    | (r_2, v1_held_2) =>
      match (m_Row_put n2 l2 o2 (m_Letters_letterOf r_2)) with
      | (l1_4, o1_4) =>
        ((v0_inLine + 1), v1_held_2, l1_4, o1_4)
def rm_Coder_putLetter : Room := { frames := 2, cells := 0, slots := 0, locals := 42 }
set_option maxHeartbeats 4000000 in
set_option maxRecDepth 100000 in
theorem c_Coder_putLetter (l : Launch) (D : va_G) (Z : gZT) (kI : ClassId) (a0 : Nat) (a1 : Nat) (a2 : Nat) (b2 : Nat) (n2 : Nat) (sz : Nat) (v0_inLine : Int32) (v1_value : Int32) (v1_held : Int32) (f2 : Nat → Int32) (l2 : List Int32) (o2 : Int32) (hr2 : g_rw n2 f2 l2) : gMv l y_Coder_putLetter w_Coder_putLetter rm_Coder_putLetter D Z kI [.ref a0, .ref a2] sz [(a0, .inr (1, [.ref a1, .int v0_inLine])), (a1, .inr (0, [.int v1_value, .int v1_held])), (a2, .inr (4, [.ref b2, .int (nI l2.length), .int o2])), (b2, .inl (kI, n2, .inl f2))] (fun (u : Int32 × Int32 × (Nat → Int32) × List Int32 × Int32) => m_Coder_putLetter n2 v0_inLine v1_value v1_held l2 o2 = (u.1, u.2.1, u.2.2.2.1, u.2.2.2.2) ∧ g_rw n2 u.2.2.1 u.2.2.2.1) (fun (u : Int32 × Int32 × (Nat → Int32) × List Int32 × Int32) => ([(a0, .inr (1, [.ref a1, .int u.1])), (a1, .inr (0, [.int v1_value, .int u.2.1])), (a2, .inr (4, [.ref b2, .int (nI u.2.2.2.1.length), .int u.2.2.2.2])), (b2, .inl (kI, n2, .inl u.2.2.1))] : va_W)) := by
  refine g_ofv (cc := b_Coder_putLetter) (maxL := 2) (by decide) rfl (Nat.le_of_ble_eq_true rfl) ?_
  intro p e s m below meth c A Q H ls hx hb hml hown hts hA hK hZ hP hD hS hl hret
  have hown : s.vm.findClass "MailCharacters$Coder" = some m.cls := hown
  have hl : lv_has ls 2 [(0, .ref a0), (1, .ref a2)] := hl
  obtain ⟨RES, hRES⟩ : ∃ z, z = m_Coder_putLetter n2 v0_inLine v1_value v1_held l2 o2 := ⟨_, rfl⟩
  have hF := hRES
  rw [m_Coder_putLetter] at hF
  refine lv_aload_n hx hb d_Coder_putLetter_0 rfl (lv_at hl 0 rfl) ?_
  refine va_get (D := D) (ci := 1) (v := .int v0_inLine) (C := "MailCharacters$Coder") (T := F_Coder) (N := 2) hx hb hts i_Coder hown hK hP 0 rfl rfl 1 (by decide) (hts _ k_176) (fun _ h9 => h9) rfl d_Coder_putLetter_1 ?_
  refine lv_bipush (v := 76) hx hb d_Coder_putLetter_4 (by decide) ?_
  refine lv_icmp_ne (tgt := 14) hx hb d_Coder_putLetter_6 (by decide) (fun c_1 => ?_) (fun c_1 => ?_)
  · rw [if_neg c_1] at hF
    refine lv_aload_n hx hb d_Coder_putLetter_14 rfl (lv_at hl 1 rfl) ?_
    refine lv_aload_n hx hb d_Coder_putLetter_15 rfl (lv_at hl 0 rfl) ?_
    refine va_get (D := D) (ci := 1) (v := .ref a1) (C := "MailCharacters$Coder") (T := F_Coder) (N := 2) hx hb hts i_Coder hown hK hP 0 rfl rfl 0 (by decide) (hts _ k_175) (fun _ h9 => h9) rfl d_Coder_putLetter_16 ?_
    refine lv_bipush (v := 6) hx hb d_Coder_putLetter_19 (by decide) ?_
    refine g_Vi (As := [.int 6]) (rest := [.ref a2]) (wr := [(a0, .inr (1, [.ref a1, .int v0_inLine])), (a2, .inr (4, [.ref b2, .int (nI l2.length), .int o2])), (b2, .inl (kI, n2, .inl f2))]) ⟨hx, hb, hml, hown, hts⟩ (c_Bits_take l D Z kI a1 H.size v1_value v1_held 6) (cw_Bits_take hts k_795 ⟨Nat.le_of_ble_eq_true rfl, Nat.le_of_ble_eq_true rfl⟩) hK hZ hP hD hS hA [1] [0, 2, 3] (g_recv hK hP (ci := 0) (q0 := 1) rfl rfl) rfl rfl (by decide) (by decide) (by decide) rfl hl.1 rfl (Nat.le_of_ble_eq_true rfl) d_Coder_putLetter_21 ⟨Nat.zero_le _, Nat.zero_le _⟩ (fun r_2 v1_held_2 H locs hw hP hD hS => ?_)
    have e_2 := hw
    have hP : va_P D vwCl [(a0, .inr (1, [.ref a1, .int v0_inLine])), (a2, .inr (4, [.ref b2, .int (nI l2.length), .int o2])), (b2, .inl (kI, n2, .inl f2)), (a1, .inr (0, [.int v1_value, .int v1_held_2]))] H := hP
    have hD : va_D A [(a0, .inr (1, [.ref a1, .int v0_inLine])), (a2, .inr (4, [.ref b2, .int (nI l2.length), .int o2])), (b2, .inl (kI, n2, .inl f2)), (a1, .inr (0, [.int v1_value, .int v1_held_2]))] := hD
    rw [e_2] at hF; dsimp only at hF
    refine g_Si (As := [.int r_2]) (rest := [.ref a2]) (wr := [(a0, .inr (1, [.ref a1, .int v0_inLine])), (a2, .inr (4, [.ref b2, .int (nI l2.length), .int o2])), (b2, .inl (kI, n2, .inl f2)), (a1, .inr (0, [.int v1_value, .int v1_held_2]))]) ⟨hx, hb, hml, hown, hts⟩ (c_Letters_letterOf l D Z kI H.size r_2) (cw_Letters_letterOf hts k_796 ⟨Nat.le_of_ble_eq_true rfl, Nat.le_of_ble_eq_true rfl⟩) hK hZ hP hD hS hA [] [0, 1, 2, 3] rfl rfl (by decide) (by decide) (by decide) rfl hl.1 rfl (Nat.le_of_ble_eq_true rfl) d_Coder_putLetter_24 ⟨Nat.zero_le _, Nat.zero_le _⟩ (fun r_3 u_3 H locs hw hP hD hS => ?_)
    have e_3 := hw
    subst e_3
    have hP : va_P D vwCl [(a0, .inr (1, [.ref a1, .int v0_inLine])), (a2, .inr (4, [.ref b2, .int (nI l2.length), .int o2])), (b2, .inl (kI, n2, .inl f2)), (a1, .inr (0, [.int v1_value, .int v1_held_2]))] H := hP
    have hD : va_D A [(a0, .inr (1, [.ref a1, .int v0_inLine])), (a2, .inr (4, [.ref b2, .int (nI l2.length), .int o2])), (b2, .inl (kI, n2, .inl f2)), (a1, .inr (0, [.int v1_value, .int v1_held_2]))] := hD
    refine g_Vv (As := [.int (m_Letters_letterOf r_2)]) (rest := []) (wr := [(a0, .inr (1, [.ref a1, .int v0_inLine])), (a1, .inr (0, [.int v1_value, .int v1_held_2]))]) ⟨hx, hb, hml, hown, hts⟩ (c_Row_put l D Z kI a2 b2 n2 H.size f2 l2 o2 (m_Letters_letterOf r_2) hr2) (cw_Row_put hts k_794 ⟨Nat.le_of_ble_eq_true rfl, Nat.le_of_ble_eq_true rfl⟩) hK hZ hP hD hS hA [1, 2] [0, 3] (g_recv hK hP (ci := 4) (q0 := 1) rfl rfl) rfl rfl (by decide) (by decide) (by decide) rfl hl.1 rfl (Nat.le_of_ble_eq_true rfl) d_Coder_putLetter_27 ⟨Nat.zero_le _, Nat.zero_le _⟩ (fun u_4 H locs hw hP hD hS => ?_)
    obtain ⟨f1_4, l1_4, o1_4⟩ := u_4
    have e_4 := hw.1
    have hr1_4 := hw.2
    have hP : va_P D vwCl [(a0, .inr (1, [.ref a1, .int v0_inLine])), (a1, .inr (0, [.int v1_value, .int v1_held_2])), (a2, .inr (4, [.ref b2, .int (nI l1_4.length), .int o1_4])), (b2, .inl (kI, n2, .inl f1_4))] H := hP
    have hD : va_D A [(a0, .inr (1, [.ref a1, .int v0_inLine])), (a1, .inr (0, [.int v1_value, .int v1_held_2])), (a2, .inr (4, [.ref b2, .int (nI l1_4.length), .int o1_4])), (b2, .inl (kI, n2, .inl f1_4))] := hD
    rw [e_4] at hF; dsimp only at hF
    refine lv_aload_n hx hb d_Coder_putLetter_30 rfl (lv_at hl 0 rfl) ?_
    refine lv_dup hx hb d_Coder_putLetter_31 rfl ?_
    refine va_get (D := D) (ci := 1) (v := .int v0_inLine) (C := "MailCharacters$Coder") (T := F_Coder) (N := 2) hx hb hts i_Coder hown hK hP 0 rfl rfl 1 (by decide) (hts _ k_176) (fun _ h9 => h9) rfl d_Coder_putLetter_32 ?_
    refine lv_iconst (v := 1) hx hb d_Coder_putLetter_35 (by decide) ?_
    refine lv_iadd hx hb d_Coder_putLetter_36 ?_
    refine va_put (D := D) (ci := 1) (v := .int (v0_inLine + 1)) (ty := .int) (C := "MailCharacters$Coder") (T := F_Coder) (N := 2) hx hb hts i_Coder t_Coder t_Coder_ok n_Coder hown hK hP hD hS 0 rfl rfl 1 (by decide) (hts _ k_176) (fun _ h9 => h9) rfl (by decide +kernel) rfl rfl (Nat.le_of_ble_eq_true rfl) d_Coder_putLetter_37 (fun H locs hP hD hS => ?_)
    have hP : va_P D vwCl [(a0, .inr (1, [.ref a1, .int (v0_inLine + 1)])), (a1, .inr (0, [.int v1_value, .int v1_held_2])), (a2, .inr (4, [.ref b2, .int (nI l1_4.length), .int o1_4])), (b2, .inl (kI, n2, .inl f1_4))] H := hP
    have hD : va_D A [(a0, .inr (1, [.ref a1, .int (v0_inLine + 1)])), (a1, .inr (0, [.int v1_value, .int v1_held_2])), (a2, .inr (4, [.ref b2, .int (nI l1_4.length), .int o1_4])), (b2, .inl (kI, n2, .inl f1_4))] := hD
    exact hret ((v0_inLine + 1), v1_held_2, f1_4, l1_4, o1_4) _ _ _ _ d_Coder_putLetter_40 (⟨hRES.symm.trans hF, hr1_4⟩) hP hD hS
  · rw [if_pos c_1] at hF
    refine lv_aload_n hx hb d_Coder_putLetter_9 rfl (lv_at hl 0 rfl) ?_
    refine lv_aload_n hx hb d_Coder_putLetter_10 rfl (lv_at hl 1 rfl) ?_
    refine g_Vv (As := [.ref a2]) (rest := []) (wr := [(a1, .inr (0, [.int v1_value, .int v1_held]))]) ⟨hx, hb, hml, hown, hts⟩ (c_Coder_endLine l D Z kI a2 b2 n2 a0 a1 H.size f2 l2 o2 v0_inLine hr2) (cw_Coder_endLine hts k_790 ⟨Nat.le_of_ble_eq_true rfl, Nat.le_of_ble_eq_true rfl⟩) hK hZ hP hD hS hA [2, 3, 0] [1] (g_recv hK hP (ci := 1) (q0 := 0) rfl rfl) rfl rfl (by decide) (by decide) (by decide) rfl hl.1 rfl (Nat.le_of_ble_eq_true rfl) d_Coder_putLetter_11 ⟨Nat.zero_le _, Nat.zero_le _⟩ (fun u_5 H locs hw hP hD hS => ?_)
    obtain ⟨f2_5, l2_5, o2_5, v0_inLine_5⟩ := u_5
    have e_5 := hw.1
    have hr2_5 := hw.2
    have hP : va_P D vwCl [(a1, .inr (0, [.int v1_value, .int v1_held])), (a2, .inr (4, [.ref b2, .int (nI l2_5.length), .int o2_5])), (b2, .inl (kI, n2, .inl f2_5)), (a0, .inr (1, [.ref a1, .int v0_inLine_5]))] H := hP
    have hD : va_D A [(a1, .inr (0, [.int v1_value, .int v1_held])), (a2, .inr (4, [.ref b2, .int (nI l2_5.length), .int o2_5])), (b2, .inl (kI, n2, .inl f2_5)), (a0, .inr (1, [.ref a1, .int v0_inLine_5]))] := hD
    rw [e_5] at hF; dsimp only at hF
    refine lv_aload_n hx hb d_Coder_putLetter_14 rfl (lv_at hl 1 rfl) ?_
    refine lv_aload_n hx hb d_Coder_putLetter_15 rfl (lv_at hl 0 rfl) ?_
    refine va_get (D := D) (ci := 1) (v := .ref a1) (C := "MailCharacters$Coder") (T := F_Coder) (N := 2) hx hb hts i_Coder hown hK hP 3 rfl rfl 0 (by decide) (hts _ k_175) (fun _ h9 => h9) rfl d_Coder_putLetter_16 ?_
    refine lv_bipush (v := 6) hx hb d_Coder_putLetter_19 (by decide) ?_
    refine g_Vi (As := [.int 6]) (rest := [.ref a2]) (wr := [(a2, .inr (4, [.ref b2, .int (nI l2_5.length), .int o2_5])), (b2, .inl (kI, n2, .inl f2_5)), (a0, .inr (1, [.ref a1, .int v0_inLine_5]))]) ⟨hx, hb, hml, hown, hts⟩ (c_Bits_take l D Z kI a1 H.size v1_value v1_held 6) (cw_Bits_take hts k_795 ⟨Nat.le_of_ble_eq_true rfl, Nat.le_of_ble_eq_true rfl⟩) hK hZ hP hD hS hA [0] [1, 2, 3] (g_recv hK hP (ci := 0) (q0 := 0) rfl rfl) rfl rfl (by decide) (by decide) (by decide) rfl hl.1 rfl (Nat.le_of_ble_eq_true rfl) d_Coder_putLetter_21 ⟨Nat.zero_le _, Nat.zero_le _⟩ (fun r_6 v0_held_6 H locs hw hP hD hS => ?_)
    have e_6 := hw
    have hP : va_P D vwCl [(a2, .inr (4, [.ref b2, .int (nI l2_5.length), .int o2_5])), (b2, .inl (kI, n2, .inl f2_5)), (a0, .inr (1, [.ref a1, .int v0_inLine_5])), (a1, .inr (0, [.int v1_value, .int v0_held_6]))] H := hP
    have hD : va_D A [(a2, .inr (4, [.ref b2, .int (nI l2_5.length), .int o2_5])), (b2, .inl (kI, n2, .inl f2_5)), (a0, .inr (1, [.ref a1, .int v0_inLine_5])), (a1, .inr (0, [.int v1_value, .int v0_held_6]))] := hD
    rw [e_6] at hF; dsimp only at hF
    refine g_Si (As := [.int r_6]) (rest := [.ref a2]) (wr := [(a2, .inr (4, [.ref b2, .int (nI l2_5.length), .int o2_5])), (b2, .inl (kI, n2, .inl f2_5)), (a0, .inr (1, [.ref a1, .int v0_inLine_5])), (a1, .inr (0, [.int v1_value, .int v0_held_6]))]) ⟨hx, hb, hml, hown, hts⟩ (c_Letters_letterOf l D Z kI H.size r_6) (cw_Letters_letterOf hts k_796 ⟨Nat.le_of_ble_eq_true rfl, Nat.le_of_ble_eq_true rfl⟩) hK hZ hP hD hS hA [] [0, 1, 2, 3] rfl rfl (by decide) (by decide) (by decide) rfl hl.1 rfl (Nat.le_of_ble_eq_true rfl) d_Coder_putLetter_24 ⟨Nat.zero_le _, Nat.zero_le _⟩ (fun r_7 u_7 H locs hw hP hD hS => ?_)
    have e_7 := hw
    subst e_7
    have hP : va_P D vwCl [(a2, .inr (4, [.ref b2, .int (nI l2_5.length), .int o2_5])), (b2, .inl (kI, n2, .inl f2_5)), (a0, .inr (1, [.ref a1, .int v0_inLine_5])), (a1, .inr (0, [.int v1_value, .int v0_held_6]))] H := hP
    have hD : va_D A [(a2, .inr (4, [.ref b2, .int (nI l2_5.length), .int o2_5])), (b2, .inl (kI, n2, .inl f2_5)), (a0, .inr (1, [.ref a1, .int v0_inLine_5])), (a1, .inr (0, [.int v1_value, .int v0_held_6]))] := hD
    refine g_Vv (As := [.int (m_Letters_letterOf r_6)]) (rest := []) (wr := [(a0, .inr (1, [.ref a1, .int v0_inLine_5])), (a1, .inr (0, [.int v1_value, .int v0_held_6]))]) ⟨hx, hb, hml, hown, hts⟩ (c_Row_put l D Z kI a2 b2 n2 H.size f2_5 l2_5 o2_5 (m_Letters_letterOf r_6) hr2_5) (cw_Row_put hts k_794 ⟨Nat.le_of_ble_eq_true rfl, Nat.le_of_ble_eq_true rfl⟩) hK hZ hP hD hS hA [0, 1] [2, 3] (g_recv hK hP (ci := 4) (q0 := 0) rfl rfl) rfl rfl (by decide) (by decide) (by decide) rfl hl.1 rfl (Nat.le_of_ble_eq_true rfl) d_Coder_putLetter_27 ⟨Nat.zero_le _, Nat.zero_le _⟩ (fun u_8 H locs hw hP hD hS => ?_)
    obtain ⟨f0_8, l0_8, o0_8⟩ := u_8
    have e_8 := hw.1
    have hr0_8 := hw.2
    have hP : va_P D vwCl [(a0, .inr (1, [.ref a1, .int v0_inLine_5])), (a1, .inr (0, [.int v1_value, .int v0_held_6])), (a2, .inr (4, [.ref b2, .int (nI l0_8.length), .int o0_8])), (b2, .inl (kI, n2, .inl f0_8))] H := hP
    have hD : va_D A [(a0, .inr (1, [.ref a1, .int v0_inLine_5])), (a1, .inr (0, [.int v1_value, .int v0_held_6])), (a2, .inr (4, [.ref b2, .int (nI l0_8.length), .int o0_8])), (b2, .inl (kI, n2, .inl f0_8))] := hD
    rw [e_8] at hF; dsimp only at hF
    refine lv_aload_n hx hb d_Coder_putLetter_30 rfl (lv_at hl 0 rfl) ?_
    refine lv_dup hx hb d_Coder_putLetter_31 rfl ?_
    refine va_get (D := D) (ci := 1) (v := .int v0_inLine_5) (C := "MailCharacters$Coder") (T := F_Coder) (N := 2) hx hb hts i_Coder hown hK hP 0 rfl rfl 1 (by decide) (hts _ k_176) (fun _ h9 => h9) rfl d_Coder_putLetter_32 ?_
    refine lv_iconst (v := 1) hx hb d_Coder_putLetter_35 (by decide) ?_
    refine lv_iadd hx hb d_Coder_putLetter_36 ?_
    refine va_put (D := D) (ci := 1) (v := .int (v0_inLine_5 + 1)) (ty := .int) (C := "MailCharacters$Coder") (T := F_Coder) (N := 2) hx hb hts i_Coder t_Coder t_Coder_ok n_Coder hown hK hP hD hS 0 rfl rfl 1 (by decide) (hts _ k_176) (fun _ h9 => h9) rfl (by decide +kernel) rfl rfl (Nat.le_of_ble_eq_true rfl) d_Coder_putLetter_37 (fun H locs hP hD hS => ?_)
    have hP : va_P D vwCl [(a0, .inr (1, [.ref a1, .int (v0_inLine_5 + 1)])), (a1, .inr (0, [.int v1_value, .int v0_held_6])), (a2, .inr (4, [.ref b2, .int (nI l0_8.length), .int o0_8])), (b2, .inl (kI, n2, .inl f0_8))] H := hP
    have hD : va_D A [(a0, .inr (1, [.ref a1, .int (v0_inLine_5 + 1)])), (a1, .inr (0, [.int v1_value, .int v0_held_6])), (a2, .inr (4, [.ref b2, .int (nI l0_8.length), .int o0_8])), (b2, .inl (kI, n2, .inl f0_8))] := hD
    exact hret ((v0_inLine_5 + 1), v0_held_6, f0_8, l0_8, o0_8) _ _ _ _ d_Coder_putLetter_40 (⟨hRES.symm.trans hF, hr0_8⟩) hP hD hS
theorem cw_Coder_putLetter {R : Room} {s : State} {args : Array Value} {own : String} {idx : Nat} (hts : ∀ w ∈ gW, w.before args s = true) (hl : Cond.methodLink own idx y_Coder_putLetter ∈ gW) (hR : rm_Coder_putLetter.frames + 1 ≤ R.frames ∧ 8 + (2 + 11) + rm_Coder_putLetter.locals ≤ R.locals) : CallW R s args own "MailCharacters$Coder" idx y_Coder_putLetter b_Coder_putLetter 2 none w_Coder_putLetter rm_Coder_putLetter 0 0 1 := cwV 1 hts (gW_V hl k_788 k_20 k_73 k_789) rfl rfl rfl (by decide +kernel) hR
