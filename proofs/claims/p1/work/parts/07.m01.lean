def m_Bits_has (v0_held : Int32) (p1 : Int32) : Int32 :=
  if v0_held < p1 then
    0
  else
    1
def rm_Bits_has : Room := { frames := 0, cells := 0, slots := 0, locals := 0 }
set_option maxHeartbeats 4000000 in
set_option maxRecDepth 100000 in
theorem c_Bits_has (l : Launch) (D : va_G) (Z : gZT) (kI : ClassId) (a0 : Nat) (sz : Nat) (v0_value : Int32) (v0_held : Int32) (p1 : Int32) : gMi l y_Bits_has w_Bits_has rm_Bits_has D Z kI [.ref a0, .int p1] sz [(a0, .inr (0, [.int v0_value, .int v0_held]))] (fun (r : Int32) (_u : Unit) => m_Bits_has v0_held p1 = r) (fun (_u : Unit) => ([(a0, .inr (0, [.int v0_value, .int v0_held]))] : va_W)) := by
  refine g_ofi (cc := b_Bits_has) (maxL := 2) (ty := .boolean) (by decide) rfl (Nat.le_of_ble_eq_true rfl) ?_
  intro p e s m below meth c A Q H ls hx hb hml hown hts hA hK hZ hP hD hS hl hret
  have hown : s.vm.findClass "MailCharacters$Bits" = some m.cls := hown
  have hl : lv_has ls 2 [(0, .ref a0), (1, .int p1)] := hl
  obtain ⟨RES, hRES⟩ : ∃ z, z = m_Bits_has v0_held p1 := ⟨_, rfl⟩
  have hF := hRES
  rw [m_Bits_has] at hF
  refine lv_aload_n hx hb d_Bits_has_0 rfl (lv_at hl 0 rfl) ?_
  refine va_get (D := D) (ci := 0) (v := .int v0_held) (C := "MailCharacters$Bits") (T := F_Bits) (N := 2) hx hb hts i_Bits hown hK hP 0 rfl rfl 1 (by decide) (hts _ k_132) (fun _ h9 => h9) rfl d_Bits_has_1 ?_
  refine lv_iload_n hx hb d_Bits_has_4 rfl (lv_at hl 1 rfl) ?_
  refine lv_icmp_lt (tgt := 12) hx hb d_Bits_has_5 (by decide) (fun c_1 => ?_) (fun c_1 => ?_)
  · rw [if_pos c_1] at hF
    refine lv_iconst (v := 0) hx hb d_Bits_has_12 (by decide) ?_
    exact hret 0 () _ _ _ _ d_Bits_has_13 rfl (hRES.symm.trans hF) hP hD hS
  · rw [if_neg c_1] at hF
    refine lv_iconst (v := 1) hx hb d_Bits_has_8 (by decide) ?_
    refine lv_goto (tgt := 13) hx hb d_Bits_has_9 (by decide) ?_
    exact hret 1 () _ _ _ _ d_Bits_has_13 rfl (hRES.symm.trans hF) hP hD hS
theorem cw_Bits_has {R : Room} {s : State} {args : Array Value} {own : String} {idx : Nat} (hts : ∀ w ∈ gW, w.before args s = true) (hl : Cond.methodLink own idx y_Bits_has ∈ gW) (hR : rm_Bits_has.frames + 1 ≤ R.frames ∧ 8 + (2 + 11) + rm_Bits_has.locals ≤ R.locals) : CallW R s args own "MailCharacters$Bits" idx y_Bits_has b_Bits_has 2 (some .boolean) w_Bits_has rm_Bits_has 0 0 1 := cwV 1 hts (gW_V hl k_457 k_458 k_71 k_459) rfl rfl rfl (by decide +kernel) hR
def m_Bits_take (v0_value : Int32) (v0_held : Int32) (p1 : Int32) : Int32 × Int32 :=
  (((v0_value >>> ((v0_held - p1) &&& 31)) &&& (((1 : Int32) <<< (p1 &&& 31)) - 1)), (v0_held - p1))
def rm_Bits_take : Room := { frames := 0, cells := 0, slots := 0, locals := 0 }
set_option maxHeartbeats 4000000 in
set_option maxRecDepth 100000 in
theorem c_Bits_take (l : Launch) (D : va_G) (Z : gZT) (kI : ClassId) (a0 : Nat) (sz : Nat) (v0_value : Int32) (v0_held : Int32) (p1 : Int32) : gMi l y_Bits_take w_Bits_take rm_Bits_take D Z kI [.ref a0, .int p1] sz [(a0, .inr (0, [.int v0_value, .int v0_held]))] (fun (r : Int32) (u : Int32) => m_Bits_take v0_value v0_held p1 = (r, u)) (fun (u : Int32) => ([(a0, .inr (0, [.int v0_value, .int u]))] : va_W)) := by
  refine g_ofi (cc := b_Bits_take) (maxL := 2) (ty := .int) (by decide) rfl (Nat.le_of_ble_eq_true rfl) ?_
  intro p e s m below meth c A Q H ls hx hb hml hown hts hA hK hZ hP hD hS hl hret
  have hown : s.vm.findClass "MailCharacters$Bits" = some m.cls := hown
  have hl : lv_has ls 2 [(0, .ref a0), (1, .int p1)] := hl
  obtain ⟨RES, hRES⟩ : ∃ z, z = m_Bits_take v0_value v0_held p1 := ⟨_, rfl⟩
  have hF := hRES
  rw [m_Bits_take] at hF
  refine lv_aload_n hx hb d_Bits_take_0 rfl (lv_at hl 0 rfl) ?_
  refine lv_dup hx hb d_Bits_take_1 rfl ?_
  refine va_get (D := D) (ci := 0) (v := .int v0_held) (C := "MailCharacters$Bits") (T := F_Bits) (N := 2) hx hb hts i_Bits hown hK hP 0 rfl rfl 1 (by decide) (hts _ k_132) (fun _ h9 => h9) rfl d_Bits_take_2 ?_
  refine lv_iload_n hx hb d_Bits_take_5 rfl (lv_at hl 1 rfl) ?_
  refine lv_isub hx hb d_Bits_take_6 ?_
  refine va_put (D := D) (ci := 0) (v := .int (v0_held - p1)) (ty := .int) (C := "MailCharacters$Bits") (T := F_Bits) (N := 2) hx hb hts i_Bits t_Bits t_Bits_ok n_Bits hown hK hP hD hS 0 rfl rfl 1 (by decide) (hts _ k_132) (fun _ h9 => h9) rfl (by decide +kernel) rfl rfl (Nat.le_of_ble_eq_true rfl) d_Bits_take_7 (fun H locs hP hD hS => ?_)
  have hP : va_P D vwCl [(a0, .inr (0, [.int v0_value, .int (v0_held - p1)]))] H := hP
  have hD : va_D A [(a0, .inr (0, [.int v0_value, .int (v0_held - p1)]))] := hD
  refine lv_aload_n hx hb d_Bits_take_10 rfl (lv_at hl 0 rfl) ?_
  refine va_get (D := D) (ci := 0) (v := .int v0_value) (C := "MailCharacters$Bits") (T := F_Bits) (N := 2) hx hb hts i_Bits hown hK hP 0 rfl rfl 0 (by decide) (hts _ k_131) (fun _ h9 => h9) rfl d_Bits_take_11 ?_
  refine lv_aload_n hx hb d_Bits_take_14 rfl (lv_at hl 0 rfl) ?_
  refine va_get (D := D) (ci := 0) (v := .int (v0_held - p1)) (C := "MailCharacters$Bits") (T := F_Bits) (N := 2) hx hb hts i_Bits hown hK hP 0 rfl rfl 1 (by decide) (hts _ k_132) (fun _ h9 => h9) rfl d_Bits_take_15 ?_
  refine lv_ishr hx hb d_Bits_take_18 ?_
  refine lv_iconst (v := 1) hx hb d_Bits_take_19 (by decide) ?_
  refine lv_iload_n hx hb d_Bits_take_20 rfl (lv_at hl 1 rfl) ?_
  refine lv_ishl hx hb d_Bits_take_21 ?_
  refine lv_iconst (v := 1) hx hb d_Bits_take_22 (by decide) ?_
  refine lv_isub hx hb d_Bits_take_23 ?_
  refine lv_iand hx hb d_Bits_take_24 ?_
  exact hret ((v0_value >>> ((v0_held - p1) &&& 31)) &&& (((1 : Int32) <<< (p1 &&& 31)) - 1)) (v0_held - p1) _ _ _ _ d_Bits_take_25 rfl (hRES.symm.trans hF) hP hD hS
theorem cw_Bits_take {R : Room} {s : State} {args : Array Value} {own : String} {idx : Nat} (hts : ∀ w ∈ gW, w.before args s = true) (hl : Cond.methodLink own idx y_Bits_take ∈ gW) (hR : rm_Bits_take.frames + 1 ≤ R.frames ∧ 8 + (2 + 11) + rm_Bits_take.locals ≤ R.locals) : CallW R s args own "MailCharacters$Bits" idx y_Bits_take b_Bits_take 2 (some .int) w_Bits_take rm_Bits_take 0 0 1 := cwV 1 hts (gW_V hl k_461 k_462 k_71 k_463) rfl rfl rfl (by decide +kernel) hR
def m_Bits_clear : Int32 × Int32 :=
  (0, 0)
def rm_Bits_clear : Room := { frames := 0, cells := 0, slots := 0, locals := 0 }
set_option maxHeartbeats 4000000 in
set_option maxRecDepth 100000 in
theorem c_Bits_clear (l : Launch) (D : va_G) (Z : gZT) (kI : ClassId) (a0 : Nat) (sz : Nat) (v0_value : Int32) (v0_held : Int32) : gMv l y_Bits_clear w_Bits_clear rm_Bits_clear D Z kI [.ref a0] sz [(a0, .inr (0, [.int v0_value, .int v0_held]))] (fun (u : Int32 × Int32) => m_Bits_clear = (u.1, u.2)) (fun (u : Int32 × Int32) => ([(a0, .inr (0, [.int u.1, .int u.2]))] : va_W)) := by
  refine g_ofv (cc := b_Bits_clear) (maxL := 1) (by decide) rfl (Nat.le_of_ble_eq_true rfl) ?_
  intro p e s m below meth c A Q H ls hx hb hml hown hts hA hK hZ hP hD hS hl hret
  have hown : s.vm.findClass "MailCharacters$Bits" = some m.cls := hown
  have hl : lv_has ls 1 [(0, .ref a0)] := hl
  obtain ⟨RES, hRES⟩ : ∃ z, z = m_Bits_clear := ⟨_, rfl⟩
  have hF := hRES
  rw [m_Bits_clear] at hF
  refine lv_aload_n hx hb d_Bits_clear_0 rfl (lv_at hl 0 rfl) ?_
  refine lv_iconst (v := 0) hx hb d_Bits_clear_1 (by decide) ?_
  refine va_put (D := D) (ci := 0) (v := .int 0) (ty := .int) (C := "MailCharacters$Bits") (T := F_Bits) (N := 2) hx hb hts i_Bits t_Bits t_Bits_ok n_Bits hown hK hP hD hS 0 rfl rfl 0 (by decide) (hts _ k_131) (fun _ h9 => h9) rfl (by decide +kernel) rfl rfl (Nat.le_of_ble_eq_true rfl) d_Bits_clear_2 (fun H locs hP hD hS => ?_)
  have hP : va_P D vwCl [(a0, .inr (0, [.int 0, .int v0_held]))] H := hP
  have hD : va_D A [(a0, .inr (0, [.int 0, .int v0_held]))] := hD
  refine lv_aload_n hx hb d_Bits_clear_5 rfl (lv_at hl 0 rfl) ?_
  refine lv_iconst (v := 0) hx hb d_Bits_clear_6 (by decide) ?_
  refine va_put (D := D) (ci := 0) (v := .int 0) (ty := .int) (C := "MailCharacters$Bits") (T := F_Bits) (N := 2) hx hb hts i_Bits t_Bits t_Bits_ok n_Bits hown hK hP hD hS 0 rfl rfl 1 (by decide) (hts _ k_132) (fun _ h9 => h9) rfl (by decide +kernel) rfl rfl (Nat.le_of_ble_eq_true rfl) d_Bits_clear_7 (fun H locs hP hD hS => ?_)
  have hP : va_P D vwCl [(a0, .inr (0, [.int 0, .int 0]))] H := hP
  have hD : va_D A [(a0, .inr (0, [.int 0, .int 0]))] := hD
  exact hret (0, 0) _ _ _ _ d_Bits_clear_10 (hRES.symm.trans hF) hP hD hS
theorem cw_Bits_clear {R : Room} {s : State} {args : Array Value} {own : String} {idx : Nat} (hts : ∀ w ∈ gW, w.before args s = true) (hl : Cond.methodLink own idx y_Bits_clear ∈ gW) (hR : rm_Bits_clear.frames + 1 ≤ R.frames ∧ 8 + (1 + 11) + rm_Bits_clear.locals ≤ R.locals) : CallW R s args own "MailCharacters$Bits" idx y_Bits_clear b_Bits_clear 1 none w_Bits_clear rm_Bits_clear 0 0 0 := cwV 0 hts (gW_V hl k_465 k_466 k_71 k_467) rfl rfl rfl (by decide +kernel) hR
def m_SingleBytes_latin9CharacterOf (p0 : Int32) : Int32 :=
  if 164 = p0 then
    8364
  else
    if 166 = p0 then
      352
    else
      if 168 = p0 then
        353
      else
        if 180 = p0 then
          381
        else
          if 184 = p0 then
            382
          else
            if 188 = p0 then
              338
            else
              if 189 = p0 then
                339
              else
                if 190 = p0 then
                  376
                else
                  p0
def rm_SingleBytes_latin9CharacterOf : Room := { frames := 0, cells := 0, slots := 0, locals := 0 }
set_option maxHeartbeats 4000000 in
set_option maxRecDepth 100000 in
theorem c_SingleBytes_latin9CharacterOf (l : Launch) (D : va_G) (Z : gZT) (kI : ClassId) (sz : Nat) (p0 : Int32) : gMi l y_SingleBytes_latin9CharacterOf w_SingleBytes_latin9CharacterOf rm_SingleBytes_latin9CharacterOf D Z kI [.int p0] sz [] (fun (r : Int32) (_u : Unit) => m_SingleBytes_latin9CharacterOf p0 = r) (fun (_u : Unit) => ([] : va_W)) := by
  refine g_ofi (cc := b_SingleBytes_latin9CharacterOf) (maxL := 2) (ty := .int) (by decide) rfl (Nat.le_of_ble_eq_true rfl) ?_
  intro p e s m below meth c A Q H ls hx hb hml hown hts hA hK hZ hP hD hS hl hret
  have hown : s.vm.findClass "MailCharacters$SingleBytes" = some m.cls := hown
  have hl : lv_has ls 2 [(0, .int p0)] := hl
  obtain ⟨RES, hRES⟩ : ∃ z, z = m_SingleBytes_latin9CharacterOf p0 := ⟨_, rfl⟩
  have hF := hRES
  rw [m_SingleBytes_latin9CharacterOf] at hF
  refine lv_iconst (v := 0) hx hb d_SingleBytes_latin9CharacterOf_0 (by decide) ?_
  refine lv_istore_n (lv' := [(1, .int 0), (0, .int p0)]) hx hb d_SingleBytes_latin9CharacterOf_1 rfl hl (by decide) rfl (fun ls hl => ?_)
  refine lv_iload_n hx hb d_SingleBytes_latin9CharacterOf_2 rfl (lv_at hl 0 rfl) ?_
  refine lv_iconst (v := 1) hx hb d_SingleBytes_latin9CharacterOf_3 (by decide) ?_
  refine lv_iadd hx hb d_SingleBytes_latin9CharacterOf_4 ?_
  refine lv_topi (fun x_1 ex_1 => ?_)
  obtain rfl : x_1 = 1 := ex_1.trans (by decide)
  refine va_gets hx hb (gZ_st0 hZ) hS hown (hts _ k_477) (fun _ h9 => h9) d_SingleBytes_latin9CharacterOf_5 ?_
  refine va_tlen (v := 16) hx hb (gZ_tab hZ (by decide)) hS rfl d_SingleBytes_latin9CharacterOf_8 ?_
  refine lv_icmp_ge (tgt := 35) hx hb d_SingleBytes_latin9CharacterOf_9 (by decide) (fun c_2 => ?_) (fun c_2 => ?_)
  · exact absurd c_2 (by decide)
  · refine va_gets hx hb (gZ_st0 hZ) hS hown (hts _ k_477) (fun _ h9 => h9) d_SingleBytes_latin9CharacterOf_12 ?_
    refine lv_iload_n hx hb d_SingleBytes_latin9CharacterOf_15 rfl (lv_at hl 0 rfl) ?_
    refine va_ti (v := .int 164) hx hb (gZ_tab hZ (by decide)) hS (by unfold vp_in; decide) rfl d_SingleBytes_latin9CharacterOf_16 ?_
    refine lv_iload_n hx hb d_SingleBytes_latin9CharacterOf_17 rfl (lv_at hl 1 rfl) ?_
    refine lv_icmp_ne (tgt := 29) hx hb d_SingleBytes_latin9CharacterOf_18 (by decide) (fun c_3 => ?_) (fun c_3 => ?_)
    · rw [if_neg c_3] at hF
      refine lv_iinc (v := 2) (lv' := [(1, .int 2), (0, .int p0)]) hx hb d_SingleBytes_latin9CharacterOf_29 hl (k := 0) rfl (by decide) (by decide) rfl (fun ls hl => ?_)
      refine lv_goto (tgt := 2) hx hb d_SingleBytes_latin9CharacterOf_32 (by decide) ?_
      refine lv_iload_n hx hb d_SingleBytes_latin9CharacterOf_2 rfl (lv_at hl 0 rfl) ?_
      refine lv_iconst (v := 1) hx hb d_SingleBytes_latin9CharacterOf_3 (by decide) ?_
      refine lv_iadd hx hb d_SingleBytes_latin9CharacterOf_4 ?_
      refine lv_topi (fun x_4 ex_4 => ?_)
      obtain rfl : x_4 = 3 := ex_4.trans (by decide)
      refine va_gets hx hb (gZ_st0 hZ) hS hown (hts _ k_477) (fun _ h9 => h9) d_SingleBytes_latin9CharacterOf_5 ?_
      refine va_tlen (v := 16) hx hb (gZ_tab hZ (by decide)) hS rfl d_SingleBytes_latin9CharacterOf_8 ?_
      refine lv_icmp_ge (tgt := 35) hx hb d_SingleBytes_latin9CharacterOf_9 (by decide) (fun c_5 => ?_) (fun c_5 => ?_)
      · exact absurd c_5 (by decide)
      · refine va_gets hx hb (gZ_st0 hZ) hS hown (hts _ k_477) (fun _ h9 => h9) d_SingleBytes_latin9CharacterOf_12 ?_
        refine lv_iload_n hx hb d_SingleBytes_latin9CharacterOf_15 rfl (lv_at hl 0 rfl) ?_
        refine va_ti (v := .int 166) hx hb (gZ_tab hZ (by decide)) hS (by unfold vp_in; decide) rfl d_SingleBytes_latin9CharacterOf_16 ?_
        refine lv_iload_n hx hb d_SingleBytes_latin9CharacterOf_17 rfl (lv_at hl 1 rfl) ?_
        refine lv_icmp_ne (tgt := 29) hx hb d_SingleBytes_latin9CharacterOf_18 (by decide) (fun c_6 => ?_) (fun c_6 => ?_)
        · rw [if_neg c_6] at hF
          refine lv_iinc (v := 4) (lv' := [(1, .int 4), (0, .int p0)]) hx hb d_SingleBytes_latin9CharacterOf_29 hl (k := 0) rfl (by decide) (by decide) rfl (fun ls hl => ?_)
          refine lv_goto (tgt := 2) hx hb d_SingleBytes_latin9CharacterOf_32 (by decide) ?_
          refine lv_iload_n hx hb d_SingleBytes_latin9CharacterOf_2 rfl (lv_at hl 0 rfl) ?_
          refine lv_iconst (v := 1) hx hb d_SingleBytes_latin9CharacterOf_3 (by decide) ?_
          refine lv_iadd hx hb d_SingleBytes_latin9CharacterOf_4 ?_
          refine lv_topi (fun x_7 ex_7 => ?_)
          obtain rfl : x_7 = 5 := ex_7.trans (by decide)
          refine va_gets hx hb (gZ_st0 hZ) hS hown (hts _ k_477) (fun _ h9 => h9) d_SingleBytes_latin9CharacterOf_5 ?_
          refine va_tlen (v := 16) hx hb (gZ_tab hZ (by decide)) hS rfl d_SingleBytes_latin9CharacterOf_8 ?_
          refine lv_icmp_ge (tgt := 35) hx hb d_SingleBytes_latin9CharacterOf_9 (by decide) (fun c_8 => ?_) (fun c_8 => ?_)
          · exact absurd c_8 (by decide)
          · refine va_gets hx hb (gZ_st0 hZ) hS hown (hts _ k_477) (fun _ h9 => h9) d_SingleBytes_latin9CharacterOf_12 ?_
            refine lv_iload_n hx hb d_SingleBytes_latin9CharacterOf_15 rfl (lv_at hl 0 rfl) ?_
            refine va_ti (v := .int 168) hx hb (gZ_tab hZ (by decide)) hS (by unfold vp_in; decide) rfl d_SingleBytes_latin9CharacterOf_16 ?_
            refine lv_iload_n hx hb d_SingleBytes_latin9CharacterOf_17 rfl (lv_at hl 1 rfl) ?_
            refine lv_icmp_ne (tgt := 29) hx hb d_SingleBytes_latin9CharacterOf_18 (by decide) (fun c_9 => ?_) (fun c_9 => ?_)
            · rw [if_neg c_9] at hF
              refine lv_iinc (v := 6) (lv' := [(1, .int 6), (0, .int p0)]) hx hb d_SingleBytes_latin9CharacterOf_29 hl (k := 0) rfl (by decide) (by decide) rfl (fun ls hl => ?_)
              refine lv_goto (tgt := 2) hx hb d_SingleBytes_latin9CharacterOf_32 (by decide) ?_
              refine lv_iload_n hx hb d_SingleBytes_latin9CharacterOf_2 rfl (lv_at hl 0 rfl) ?_
              refine lv_iconst (v := 1) hx hb d_SingleBytes_latin9CharacterOf_3 (by decide) ?_
              refine lv_iadd hx hb d_SingleBytes_latin9CharacterOf_4 ?_
              refine lv_topi (fun x_10 ex_10 => ?_)
              obtain rfl : x_10 = 7 := ex_10.trans (by decide)
              refine va_gets hx hb (gZ_st0 hZ) hS hown (hts _ k_477) (fun _ h9 => h9) d_SingleBytes_latin9CharacterOf_5 ?_
              refine va_tlen (v := 16) hx hb (gZ_tab hZ (by decide)) hS rfl d_SingleBytes_latin9CharacterOf_8 ?_
              refine lv_icmp_ge (tgt := 35) hx hb d_SingleBytes_latin9CharacterOf_9 (by decide) (fun c_11 => ?_) (fun c_11 => ?_)
              · exact absurd c_11 (by decide)
              · refine va_gets hx hb (gZ_st0 hZ) hS hown (hts _ k_477) (fun _ h9 => h9) d_SingleBytes_latin9CharacterOf_12 ?_
                refine lv_iload_n hx hb d_SingleBytes_latin9CharacterOf_15 rfl (lv_at hl 0 rfl) ?_
                refine va_ti (v := .int 180) hx hb (gZ_tab hZ (by decide)) hS (by unfold vp_in; decide) rfl d_SingleBytes_latin9CharacterOf_16 ?_
                refine lv_iload_n hx hb d_SingleBytes_latin9CharacterOf_17 rfl (lv_at hl 1 rfl) ?_
                refine lv_icmp_ne (tgt := 29) hx hb d_SingleBytes_latin9CharacterOf_18 (by decide) (fun c_12 => ?_) (fun c_12 => ?_)
                · rw [if_neg c_12] at hF
                  refine lv_iinc (v := 8) (lv' := [(1, .int 8), (0, .int p0)]) hx hb d_SingleBytes_latin9CharacterOf_29 hl (k := 0) rfl (by decide) (by decide) rfl (fun ls hl => ?_)
                  refine lv_goto (tgt := 2) hx hb d_SingleBytes_latin9CharacterOf_32 (by decide) ?_
                  refine lv_iload_n hx hb d_SingleBytes_latin9CharacterOf_2 rfl (lv_at hl 0 rfl) ?_
                  refine lv_iconst (v := 1) hx hb d_SingleBytes_latin9CharacterOf_3 (by decide) ?_
                  refine lv_iadd hx hb d_SingleBytes_latin9CharacterOf_4 ?_
                  refine lv_topi (fun x_13 ex_13 => ?_)
                  obtain rfl : x_13 = 9 := ex_13.trans (by decide)
                  refine va_gets hx hb (gZ_st0 hZ) hS hown (hts _ k_477) (fun _ h9 => h9) d_SingleBytes_latin9CharacterOf_5 ?_
                  refine va_tlen (v := 16) hx hb (gZ_tab hZ (by decide)) hS rfl d_SingleBytes_latin9CharacterOf_8 ?_
                  refine lv_icmp_ge (tgt := 35) hx hb d_SingleBytes_latin9CharacterOf_9 (by decide) (fun c_14 => ?_) (fun c_14 => ?_)
                  · exact absurd c_14 (by decide)
                  · refine va_gets hx hb (gZ_st0 hZ) hS hown (hts _ k_477) (fun _ h9 => h9) d_SingleBytes_latin9CharacterOf_12 ?_
                    refine lv_iload_n hx hb d_SingleBytes_latin9CharacterOf_15 rfl (lv_at hl 0 rfl) ?_
                    refine va_ti (v := .int 184) hx hb (gZ_tab hZ (by decide)) hS (by unfold vp_in; decide) rfl d_SingleBytes_latin9CharacterOf_16 ?_
                    refine lv_iload_n hx hb d_SingleBytes_latin9CharacterOf_17 rfl (lv_at hl 1 rfl) ?_
                    refine lv_icmp_ne (tgt := 29) hx hb d_SingleBytes_latin9CharacterOf_18 (by decide) (fun c_15 => ?_) (fun c_15 => ?_)
                    · rw [if_neg c_15] at hF
                      refine lv_iinc (v := 10) (lv' := [(1, .int 10), (0, .int p0)]) hx hb d_SingleBytes_latin9CharacterOf_29 hl (k := 0) rfl (by decide) (by decide) rfl (fun ls hl => ?_)
                      refine lv_goto (tgt := 2) hx hb d_SingleBytes_latin9CharacterOf_32 (by decide) ?_
                      refine lv_iload_n hx hb d_SingleBytes_latin9CharacterOf_2 rfl (lv_at hl 0 rfl) ?_
                      refine lv_iconst (v := 1) hx hb d_SingleBytes_latin9CharacterOf_3 (by decide) ?_
                      refine lv_iadd hx hb d_SingleBytes_latin9CharacterOf_4 ?_
                      refine lv_topi (fun x_16 ex_16 => ?_)
                      obtain rfl : x_16 = 11 := ex_16.trans (by decide)
                      refine va_gets hx hb (gZ_st0 hZ) hS hown (hts _ k_477) (fun _ h9 => h9) d_SingleBytes_latin9CharacterOf_5 ?_
                      refine va_tlen (v := 16) hx hb (gZ_tab hZ (by decide)) hS rfl d_SingleBytes_latin9CharacterOf_8 ?_
                      refine lv_icmp_ge (tgt := 35) hx hb d_SingleBytes_latin9CharacterOf_9 (by decide) (fun c_17 => ?_) (fun c_17 => ?_)
                      · exact absurd c_17 (by decide)
                      · refine va_gets hx hb (gZ_st0 hZ) hS hown (hts _ k_477) (fun _ h9 => h9) d_SingleBytes_latin9CharacterOf_12 ?_
                        refine lv_iload_n hx hb d_SingleBytes_latin9CharacterOf_15 rfl (lv_at hl 0 rfl) ?_
                        refine va_ti (v := .int 188) hx hb (gZ_tab hZ (by decide)) hS (by unfold vp_in; decide) rfl d_SingleBytes_latin9CharacterOf_16 ?_
                        refine lv_iload_n hx hb d_SingleBytes_latin9CharacterOf_17 rfl (lv_at hl 1 rfl) ?_
                        refine lv_icmp_ne (tgt := 29) hx hb d_SingleBytes_latin9CharacterOf_18 (by decide) (fun c_18 => ?_) (fun c_18 => ?_)
                        · rw [if_neg c_18] at hF
                          refine lv_iinc (v := 12) (lv' := [(1, .int 12), (0, .int p0)]) hx hb d_SingleBytes_latin9CharacterOf_29 hl (k := 0) rfl (by decide) (by decide) rfl (fun ls hl => ?_)
                          refine lv_goto (tgt := 2) hx hb d_SingleBytes_latin9CharacterOf_32 (by decide) ?_
                          refine lv_iload_n hx hb d_SingleBytes_latin9CharacterOf_2 rfl (lv_at hl 0 rfl) ?_
                          refine lv_iconst (v := 1) hx hb d_SingleBytes_latin9CharacterOf_3 (by decide) ?_
                          refine lv_iadd hx hb d_SingleBytes_latin9CharacterOf_4 ?_
                          refine lv_topi (fun x_19 ex_19 => ?_)
                          obtain rfl : x_19 = 13 := ex_19.trans (by decide)
                          refine va_gets hx hb (gZ_st0 hZ) hS hown (hts _ k_477) (fun _ h9 => h9) d_SingleBytes_latin9CharacterOf_5 ?_
                          refine va_tlen (v := 16) hx hb (gZ_tab hZ (by decide)) hS rfl d_SingleBytes_latin9CharacterOf_8 ?_
                          refine lv_icmp_ge (tgt := 35) hx hb d_SingleBytes_latin9CharacterOf_9 (by decide) (fun c_20 => ?_) (fun c_20 => ?_)
                          · exact absurd c_20 (by decide)
                          · refine va_gets hx hb (gZ_st0 hZ) hS hown (hts _ k_477) (fun _ h9 => h9) d_SingleBytes_latin9CharacterOf_12 ?_
                            refine lv_iload_n hx hb d_SingleBytes_latin9CharacterOf_15 rfl (lv_at hl 0 rfl) ?_
                            refine va_ti (v := .int 189) hx hb (gZ_tab hZ (by decide)) hS (by unfold vp_in; decide) rfl d_SingleBytes_latin9CharacterOf_16 ?_
                            refine lv_iload_n hx hb d_SingleBytes_latin9CharacterOf_17 rfl (lv_at hl 1 rfl) ?_
                            refine lv_icmp_ne (tgt := 29) hx hb d_SingleBytes_latin9CharacterOf_18 (by decide) (fun c_21 => ?_) (fun c_21 => ?_)
                            · rw [if_neg c_21] at hF
                              refine lv_iinc (v := 14) (lv' := [(1, .int 14), (0, .int p0)]) hx hb d_SingleBytes_latin9CharacterOf_29 hl (k := 0) rfl (by decide) (by decide) rfl (fun ls hl => ?_)
                              refine lv_goto (tgt := 2) hx hb d_SingleBytes_latin9CharacterOf_32 (by decide) ?_
                              refine lv_iload_n hx hb d_SingleBytes_latin9CharacterOf_2 rfl (lv_at hl 0 rfl) ?_
                              refine lv_iconst (v := 1) hx hb d_SingleBytes_latin9CharacterOf_3 (by decide) ?_
                              refine lv_iadd hx hb d_SingleBytes_latin9CharacterOf_4 ?_
                              refine lv_topi (fun x_22 ex_22 => ?_)
                              obtain rfl : x_22 = 15 := ex_22.trans (by decide)
                              refine va_gets hx hb (gZ_st0 hZ) hS hown (hts _ k_477) (fun _ h9 => h9) d_SingleBytes_latin9CharacterOf_5 ?_
                              refine va_tlen (v := 16) hx hb (gZ_tab hZ (by decide)) hS rfl d_SingleBytes_latin9CharacterOf_8 ?_
                              refine lv_icmp_ge (tgt := 35) hx hb d_SingleBytes_latin9CharacterOf_9 (by decide) (fun c_23 => ?_) (fun c_23 => ?_)
                              · exact absurd c_23 (by decide)
                              · refine va_gets hx hb (gZ_st0 hZ) hS hown (hts _ k_477) (fun _ h9 => h9) d_SingleBytes_latin9CharacterOf_12 ?_
                                refine lv_iload_n hx hb d_SingleBytes_latin9CharacterOf_15 rfl (lv_at hl 0 rfl) ?_
                                refine va_ti (v := .int 190) hx hb (gZ_tab hZ (by decide)) hS (by unfold vp_in; decide) rfl d_SingleBytes_latin9CharacterOf_16 ?_
                                refine lv_iload_n hx hb d_SingleBytes_latin9CharacterOf_17 rfl (lv_at hl 1 rfl) ?_
                                refine lv_icmp_ne (tgt := 29) hx hb d_SingleBytes_latin9CharacterOf_18 (by decide) (fun c_24 => ?_) (fun c_24 => ?_)
                                · rw [if_neg c_24] at hF
                                  refine lv_iinc (v := 16) (lv' := [(1, .int 16), (0, .int p0)]) hx hb d_SingleBytes_latin9CharacterOf_29 hl (k := 0) rfl (by decide) (by decide) rfl (fun ls hl => ?_)
                                  refine lv_goto (tgt := 2) hx hb d_SingleBytes_latin9CharacterOf_32 (by decide) ?_
                                  refine lv_iload_n hx hb d_SingleBytes_latin9CharacterOf_2 rfl (lv_at hl 0 rfl) ?_
                                  refine lv_iconst (v := 1) hx hb d_SingleBytes_latin9CharacterOf_3 (by decide) ?_
                                  refine lv_iadd hx hb d_SingleBytes_latin9CharacterOf_4 ?_
                                  refine lv_topi (fun x_25 ex_25 => ?_)
                                  obtain rfl : x_25 = 17 := ex_25.trans (by decide)
                                  refine va_gets hx hb (gZ_st0 hZ) hS hown (hts _ k_477) (fun _ h9 => h9) d_SingleBytes_latin9CharacterOf_5 ?_
                                  refine va_tlen (v := 16) hx hb (gZ_tab hZ (by decide)) hS rfl d_SingleBytes_latin9CharacterOf_8 ?_
                                  refine lv_icmp_ge (tgt := 35) hx hb d_SingleBytes_latin9CharacterOf_9 (by decide) (fun c_26 => ?_) (fun c_26 => ?_)
                                  · refine lv_iload_n hx hb d_SingleBytes_latin9CharacterOf_35 rfl (lv_at hl 1 rfl) ?_
                                    exact hret p0 () _ _ _ _ d_SingleBytes_latin9CharacterOf_36 rfl (hRES.symm.trans hF) hP hD hS
                                  · exact absurd c_26 (by decide)
                                · rw [if_pos c_24] at hF
                                  refine va_gets hx hb (gZ_st0 hZ) hS hown (hts _ k_477) (fun _ h9 => h9) d_SingleBytes_latin9CharacterOf_21 ?_
                                  refine lv_iload_n hx hb d_SingleBytes_latin9CharacterOf_24 rfl (lv_at hl 0 rfl) ?_
                                  refine lv_iconst (v := 1) hx hb d_SingleBytes_latin9CharacterOf_25 (by decide) ?_
                                  refine lv_iadd hx hb d_SingleBytes_latin9CharacterOf_26 ?_
                                  refine lv_topi (fun x_27 ex_27 => ?_)
                                  obtain rfl : x_27 = 15 := ex_27.trans (by decide)
                                  refine va_ti (v := .int 376) hx hb (gZ_tab hZ (by decide)) hS (by unfold vp_in; decide) rfl d_SingleBytes_latin9CharacterOf_27 ?_
                                  exact hret 376 () _ _ _ _ d_SingleBytes_latin9CharacterOf_28 rfl (hRES.symm.trans hF) hP hD hS
                            · rw [if_pos c_21] at hF
                              refine va_gets hx hb (gZ_st0 hZ) hS hown (hts _ k_477) (fun _ h9 => h9) d_SingleBytes_latin9CharacterOf_21 ?_
                              refine lv_iload_n hx hb d_SingleBytes_latin9CharacterOf_24 rfl (lv_at hl 0 rfl) ?_
                              refine lv_iconst (v := 1) hx hb d_SingleBytes_latin9CharacterOf_25 (by decide) ?_
                              refine lv_iadd hx hb d_SingleBytes_latin9CharacterOf_26 ?_
                              refine lv_topi (fun x_28 ex_28 => ?_)
                              obtain rfl : x_28 = 13 := ex_28.trans (by decide)
                              refine va_ti (v := .int 339) hx hb (gZ_tab hZ (by decide)) hS (by unfold vp_in; decide) rfl d_SingleBytes_latin9CharacterOf_27 ?_
                              exact hret 339 () _ _ _ _ d_SingleBytes_latin9CharacterOf_28 rfl (hRES.symm.trans hF) hP hD hS
                        · rw [if_pos c_18] at hF
                          refine va_gets hx hb (gZ_st0 hZ) hS hown (hts _ k_477) (fun _ h9 => h9) d_SingleBytes_latin9CharacterOf_21 ?_
                          refine lv_iload_n hx hb d_SingleBytes_latin9CharacterOf_24 rfl (lv_at hl 0 rfl) ?_
                          refine lv_iconst (v := 1) hx hb d_SingleBytes_latin9CharacterOf_25 (by decide) ?_
                          refine lv_iadd hx hb d_SingleBytes_latin9CharacterOf_26 ?_
                          refine lv_topi (fun x_29 ex_29 => ?_)
                          obtain rfl : x_29 = 11 := ex_29.trans (by decide)
                          refine va_ti (v := .int 338) hx hb (gZ_tab hZ (by decide)) hS (by unfold vp_in; decide) rfl d_SingleBytes_latin9CharacterOf_27 ?_
                          exact hret 338 () _ _ _ _ d_SingleBytes_latin9CharacterOf_28 rfl (hRES.symm.trans hF) hP hD hS
                    · rw [if_pos c_15] at hF
                      refine va_gets hx hb (gZ_st0 hZ) hS hown (hts _ k_477) (fun _ h9 => h9) d_SingleBytes_latin9CharacterOf_21 ?_
                      refine lv_iload_n hx hb d_SingleBytes_latin9CharacterOf_24 rfl (lv_at hl 0 rfl) ?_
                      refine lv_iconst (v := 1) hx hb d_SingleBytes_latin9CharacterOf_25 (by decide) ?_
                      refine lv_iadd hx hb d_SingleBytes_latin9CharacterOf_26 ?_
                      refine lv_topi (fun x_30 ex_30 => ?_)
                      obtain rfl : x_30 = 9 := ex_30.trans (by decide)
                      refine va_ti (v := .int 382) hx hb (gZ_tab hZ (by decide)) hS (by unfold vp_in; decide) rfl d_SingleBytes_latin9CharacterOf_27 ?_
                      exact hret 382 () _ _ _ _ d_SingleBytes_latin9CharacterOf_28 rfl (hRES.symm.trans hF) hP hD hS
                · rw [if_pos c_12] at hF
                  refine va_gets hx hb (gZ_st0 hZ) hS hown (hts _ k_477) (fun _ h9 => h9) d_SingleBytes_latin9CharacterOf_21 ?_
                  refine lv_iload_n hx hb d_SingleBytes_latin9CharacterOf_24 rfl (lv_at hl 0 rfl) ?_
                  refine lv_iconst (v := 1) hx hb d_SingleBytes_latin9CharacterOf_25 (by decide) ?_
                  refine lv_iadd hx hb d_SingleBytes_latin9CharacterOf_26 ?_
                  refine lv_topi (fun x_31 ex_31 => ?_)
                  obtain rfl : x_31 = 7 := ex_31.trans (by decide)
                  refine va_ti (v := .int 381) hx hb (gZ_tab hZ (by decide)) hS (by unfold vp_in; decide) rfl d_SingleBytes_latin9CharacterOf_27 ?_
                  exact hret 381 () _ _ _ _ d_SingleBytes_latin9CharacterOf_28 rfl (hRES.symm.trans hF) hP hD hS
            · rw [if_pos c_9] at hF
              refine va_gets hx hb (gZ_st0 hZ) hS hown (hts _ k_477) (fun _ h9 => h9) d_SingleBytes_latin9CharacterOf_21 ?_
              refine lv_iload_n hx hb d_SingleBytes_latin9CharacterOf_24 rfl (lv_at hl 0 rfl) ?_
              refine lv_iconst (v := 1) hx hb d_SingleBytes_latin9CharacterOf_25 (by decide) ?_
              refine lv_iadd hx hb d_SingleBytes_latin9CharacterOf_26 ?_
              refine lv_topi (fun x_32 ex_32 => ?_)
              obtain rfl : x_32 = 5 := ex_32.trans (by decide)
              refine va_ti (v := .int 353) hx hb (gZ_tab hZ (by decide)) hS (by unfold vp_in; decide) rfl d_SingleBytes_latin9CharacterOf_27 ?_
              exact hret 353 () _ _ _ _ d_SingleBytes_latin9CharacterOf_28 rfl (hRES.symm.trans hF) hP hD hS
        · rw [if_pos c_6] at hF
          refine va_gets hx hb (gZ_st0 hZ) hS hown (hts _ k_477) (fun _ h9 => h9) d_SingleBytes_latin9CharacterOf_21 ?_
          refine lv_iload_n hx hb d_SingleBytes_latin9CharacterOf_24 rfl (lv_at hl 0 rfl) ?_
          refine lv_iconst (v := 1) hx hb d_SingleBytes_latin9CharacterOf_25 (by decide) ?_
          refine lv_iadd hx hb d_SingleBytes_latin9CharacterOf_26 ?_
          refine lv_topi (fun x_33 ex_33 => ?_)
          obtain rfl : x_33 = 3 := ex_33.trans (by decide)
          refine va_ti (v := .int 352) hx hb (gZ_tab hZ (by decide)) hS (by unfold vp_in; decide) rfl d_SingleBytes_latin9CharacterOf_27 ?_
          exact hret 352 () _ _ _ _ d_SingleBytes_latin9CharacterOf_28 rfl (hRES.symm.trans hF) hP hD hS
    · rw [if_pos c_3] at hF
      refine va_gets hx hb (gZ_st0 hZ) hS hown (hts _ k_477) (fun _ h9 => h9) d_SingleBytes_latin9CharacterOf_21 ?_
      refine lv_iload_n hx hb d_SingleBytes_latin9CharacterOf_24 rfl (lv_at hl 0 rfl) ?_
      refine lv_iconst (v := 1) hx hb d_SingleBytes_latin9CharacterOf_25 (by decide) ?_
      refine lv_iadd hx hb d_SingleBytes_latin9CharacterOf_26 ?_
      refine lv_topi (fun x_34 ex_34 => ?_)
      obtain rfl : x_34 = 1 := ex_34.trans (by decide)
      refine va_ti (v := .int 8364) hx hb (gZ_tab hZ (by decide)) hS (by unfold vp_in; decide) rfl d_SingleBytes_latin9CharacterOf_27 ?_
      exact hret 8364 () _ _ _ _ d_SingleBytes_latin9CharacterOf_28 rfl (hRES.symm.trans hF) hP hD hS
theorem cw_SingleBytes_latin9CharacterOf {R : Room} {s : State} {args : Array Value} {own : String} {idx : Nat} (hts : ∀ w ∈ gW, w.before args s = true) (hl : Cond.methodLink own idx y_SingleBytes_latin9CharacterOf ∈ gW) (hR : rm_SingleBytes_latin9CharacterOf.frames + 1 ≤ R.frames ∧ 8 + (2 + 11) + rm_SingleBytes_latin9CharacterOf.locals ≤ R.locals) : CallB R s args own idx y_SingleBytes_latin9CharacterOf b_SingleBytes_latin9CharacterOf 2 (some .int) w_SingleBytes_latin9CharacterOf rm_SingleBytes_latin9CharacterOf 0 0 1 ∧ (Cond.static y_SingleBytes_latin9CharacterOf).before args s = true := va_cwS 1 hts (gW_S hl k_475 k_88 k_476) rfl rfl rfl (by decide +kernel) hR
def m_SingleBytes_inRow (t0 : Nat) (p1 : Int32) : Int32 :=
  if p1 < 0 then
    65533
  else
    if (nI (tN t0)) ≤ p1 then
      65533
    else
      (tF t0 p1.toNatClampNeg)
def rm_SingleBytes_inRow : Room := { frames := 0, cells := 0, slots := 0, locals := 0 }
set_option maxHeartbeats 4000000 in
set_option maxRecDepth 100000 in
theorem c_SingleBytes_inRow (l : Launch) (D : va_G) (Z : gZT) (kI : ClassId) (sz : Nat) (t0 : Nat) (p1 : Int32) (ht0 : t0 < gnT) : gMi l y_SingleBytes_inRow w_SingleBytes_inRow rm_SingleBytes_inRow D Z kI [.ref (Z.2.2 t0), .int p1] sz [] (fun (r : Int32) (_u : Unit) => m_SingleBytes_inRow t0 p1 = r) (fun (_u : Unit) => ([] : va_W)) := by
  refine g_ofi (cc := b_SingleBytes_inRow) (maxL := 2) (ty := .int) (by decide) rfl (Nat.le_of_ble_eq_true rfl) ?_
  intro p e s m below meth c A Q H ls hx hb hml hown hts hA hK hZ hP hD hS hl hret
  have hown : s.vm.findClass "MailCharacters$SingleBytes" = some m.cls := hown
  have hl : lv_has ls 2 [(0, .ref (Z.2.2 t0)), (1, .int p1)] := hl
  obtain ⟨RES, hRES⟩ : ∃ z, z = m_SingleBytes_inRow t0 p1 := ⟨_, rfl⟩
  have hF := hRES
  rw [m_SingleBytes_inRow] at hF
  refine lv_iload_n hx hb d_SingleBytes_inRow_0 rfl (lv_at hl 1 rfl) ?_
  refine lv_if_lt (tgt := 16) hx hb d_SingleBytes_inRow_1 (by decide) (fun c_1 => ?_) (fun c_1 => ?_)
  · rw [if_pos c_1] at hF
    refine lv_ldc hx hb hown (hts _ k_484) d_SingleBytes_inRow_16 ?_
    exact hret 65533 () _ _ _ _ d_SingleBytes_inRow_18 rfl (hRES.symm.trans hF) hP hD hS
  · rw [if_neg c_1] at hF
    refine lv_iload_n hx hb d_SingleBytes_inRow_4 rfl (lv_at hl 1 rfl) ?_
    refine lv_aload_n hx hb d_SingleBytes_inRow_5 rfl (lv_at hl 0 rfl) ?_
    refine va_tlen (v := (nI (tN t0))) hx hb (gZ_tab hZ ht0) hS rfl d_SingleBytes_inRow_6 ?_
    refine lv_icmp_ge (tgt := 16) hx hb d_SingleBytes_inRow_7 (by decide) (fun c_2 => ?_) (fun c_2 => ?_)
    · rw [if_pos c_2] at hF
      refine lv_ldc hx hb hown (hts _ k_484) d_SingleBytes_inRow_16 ?_
      exact hret 65533 () _ _ _ _ d_SingleBytes_inRow_18 rfl (hRES.symm.trans hF) hP hD hS
    · rw [if_neg c_2] at hF
      refine lv_aload_n hx hb d_SingleBytes_inRow_10 rfl (lv_at hl 0 rfl) ?_
      refine lv_iload_n hx hb d_SingleBytes_inRow_11 rfl (lv_at hl 1 rfl) ?_
      refine va_ti (v := .int (tF t0 p1.toNatClampNeg)) hx hb (gZ_tab hZ ht0) hS (g_in c_1 c_2 (gT_small ht0)) rfl d_SingleBytes_inRow_12 ?_
      refine lv_goto (tgt := 18) hx hb d_SingleBytes_inRow_13 (by decide) ?_
      exact hret (tF t0 p1.toNatClampNeg) () _ _ _ _ d_SingleBytes_inRow_18 rfl (hRES.symm.trans hF) hP hD hS
theorem cw_SingleBytes_inRow {R : Room} {s : State} {args : Array Value} {own : String} {idx : Nat} (hts : ∀ w ∈ gW, w.before args s = true) (hl : Cond.methodLink own idx y_SingleBytes_inRow ∈ gW) (hR : rm_SingleBytes_inRow.frames + 1 ≤ R.frames ∧ 8 + (2 + 11) + rm_SingleBytes_inRow.locals ≤ R.locals) : CallB R s args own idx y_SingleBytes_inRow b_SingleBytes_inRow 2 (some .int) w_SingleBytes_inRow rm_SingleBytes_inRow 0 0 2 ∧ (Cond.static y_SingleBytes_inRow).before args s = true := va_cwS 2 hts (gW_S hl k_482 k_88 k_483) rfl rfl rfl (by decide +kernel) hR
def m_SingleBytes_koiCharacterOf (p0 : Int32) : Int32 :=
  if p0 < 224 then
    if p0 < 192 then
      if p0 = 163 then
        1105
      else
        if p0 = 179 then
          1025
        else
          65533
    else
      (m_SingleBytes_inRow 2 (p0 - 192))
  else
    ((m_SingleBytes_inRow 2 (p0 - 224)) - 32)
def rm_SingleBytes_koiCharacterOf : Room := { frames := 1, cells := 0, slots := 0, locals := 21 }
set_option maxHeartbeats 4000000 in
set_option maxRecDepth 100000 in
theorem c_SingleBytes_koiCharacterOf (l : Launch) (D : va_G) (Z : gZT) (kI : ClassId) (sz : Nat) (p0 : Int32) : gMi l y_SingleBytes_koiCharacterOf w_SingleBytes_koiCharacterOf rm_SingleBytes_koiCharacterOf D Z kI [.int p0] sz [] (fun (r : Int32) (_u : Unit) => m_SingleBytes_koiCharacterOf p0 = r) (fun (_u : Unit) => ([] : va_W)) := by
  refine g_ofi (cc := b_SingleBytes_koiCharacterOf) (maxL := 1) (ty := .int) (by decide) rfl (Nat.le_of_ble_eq_true rfl) ?_
  intro p e s m below meth c A Q H ls hx hb hml hown hts hA hK hZ hP hD hS hl hret
  have hown : s.vm.findClass "MailCharacters$SingleBytes" = some m.cls := hown
  have hl : lv_has ls 1 [(0, .int p0)] := hl
  obtain ⟨RES, hRES⟩ : ∃ z, z = m_SingleBytes_koiCharacterOf p0 := ⟨_, rfl⟩
  have hF := hRES
  rw [m_SingleBytes_koiCharacterOf] at hF
  refine lv_iload_n hx hb d_SingleBytes_koiCharacterOf_0 rfl (lv_at hl 0 rfl) ?_
  refine lv_sipush (v := 224) hx hb d_SingleBytes_koiCharacterOf_1 (by decide) ?_
  refine lv_icmp_lt (tgt := 22) hx hb d_SingleBytes_koiCharacterOf_4 (by decide) (fun c_1 => ?_) (fun c_1 => ?_)
  · rw [if_pos c_1] at hF
    refine lv_iload_n hx hb d_SingleBytes_koiCharacterOf_22 rfl (lv_at hl 0 rfl) ?_
    refine lv_sipush (v := 192) hx hb d_SingleBytes_koiCharacterOf_23 (by decide) ?_
    refine lv_icmp_lt (tgt := 41) hx hb d_SingleBytes_koiCharacterOf_26 (by decide) (fun c_2 => ?_) (fun c_2 => ?_)
    · rw [if_pos c_2] at hF
      refine lv_iload_n hx hb d_SingleBytes_koiCharacterOf_41 rfl (lv_at hl 0 rfl) ?_
      refine lv_sipush (v := 163) hx hb d_SingleBytes_koiCharacterOf_42 (by decide) ?_
      refine lv_icmp_ne (tgt := 52) hx hb d_SingleBytes_koiCharacterOf_45 (by decide) (fun c_3 => ?_) (fun c_3 => ?_)
      · rw [if_neg c_3] at hF
        refine lv_iload_n hx hb d_SingleBytes_koiCharacterOf_52 rfl (lv_at hl 0 rfl) ?_
        refine lv_sipush (v := 179) hx hb d_SingleBytes_koiCharacterOf_53 (by decide) ?_
        refine lv_icmp_ne (tgt := 65) hx hb d_SingleBytes_koiCharacterOf_56 (by decide) (fun c_4 => ?_) (fun c_4 => ?_)
        · rw [if_neg c_4] at hF
          refine lv_ldc hx hb hown (hts _ k_484) d_SingleBytes_koiCharacterOf_65 ?_
          exact hret 65533 () _ _ _ _ d_SingleBytes_koiCharacterOf_67 rfl (hRES.symm.trans hF) hP hD hS
        · rw [if_pos c_4] at hF
          refine lv_sipush (v := 1025) hx hb d_SingleBytes_koiCharacterOf_59 (by decide) ?_
          refine lv_goto (tgt := 67) hx hb d_SingleBytes_koiCharacterOf_62 (by decide) ?_
          exact hret 1025 () _ _ _ _ d_SingleBytes_koiCharacterOf_67 rfl (hRES.symm.trans hF) hP hD hS
      · rw [if_pos c_3] at hF
        refine lv_sipush (v := 1105) hx hb d_SingleBytes_koiCharacterOf_48 (by decide) ?_
        exact hret 1105 () _ _ _ _ d_SingleBytes_koiCharacterOf_51 rfl (hRES.symm.trans hF) hP hD hS
    · rw [if_neg c_2] at hF
      refine va_gets hx hb (gZ_st2 hZ) hS hown (hts _ k_488) (fun _ h9 => h9) d_SingleBytes_koiCharacterOf_29 ?_
      refine lv_iload_n hx hb d_SingleBytes_koiCharacterOf_32 rfl (lv_at hl 0 rfl) ?_
      refine lv_sipush (v := 192) hx hb d_SingleBytes_koiCharacterOf_33 (by decide) ?_
      refine lv_isub hx hb d_SingleBytes_koiCharacterOf_36 ?_
      refine g_Si (As := [.ref (Z.2.2 2), .int (p0 - 192)]) (rest := []) (wr := []) ⟨hx, hb, hml, hown, hts⟩ (c_SingleBytes_inRow l D Z kI H.size 2 (p0 - 192) (by decide)) (cw_SingleBytes_inRow hts k_481 ⟨Nat.le_of_ble_eq_true rfl, Nat.le_of_ble_eq_true rfl⟩) hK hZ hP hD hS hA [] [] rfl rfl (by decide) (by decide) (by decide) rfl hl.1 rfl (Nat.le_of_ble_eq_true rfl) d_SingleBytes_koiCharacterOf_37 ⟨Nat.zero_le _, Nat.zero_le _⟩ (fun r_5 u_5 H locs hw hP hD hS => ?_)
      have e_5 := hw
      subst e_5
      have hP : va_P D vwCl [] H := hP
      have hD : va_D A [] := hD
      exact hret (m_SingleBytes_inRow 2 (p0 - 192)) () _ _ _ _ d_SingleBytes_koiCharacterOf_40 rfl (hRES.symm.trans hF) hP hD hS
  · rw [if_neg c_1] at hF
    refine va_gets hx hb (gZ_st2 hZ) hS hown (hts _ k_488) (fun _ h9 => h9) d_SingleBytes_koiCharacterOf_7 ?_
    refine lv_iload_n hx hb d_SingleBytes_koiCharacterOf_10 rfl (lv_at hl 0 rfl) ?_
    refine lv_sipush (v := 224) hx hb d_SingleBytes_koiCharacterOf_11 (by decide) ?_
    refine lv_isub hx hb d_SingleBytes_koiCharacterOf_14 ?_
    refine g_Si (As := [.ref (Z.2.2 2), .int (p0 - 224)]) (rest := []) (wr := []) ⟨hx, hb, hml, hown, hts⟩ (c_SingleBytes_inRow l D Z kI H.size 2 (p0 - 224) (by decide)) (cw_SingleBytes_inRow hts k_481 ⟨Nat.le_of_ble_eq_true rfl, Nat.le_of_ble_eq_true rfl⟩) hK hZ hP hD hS hA [] [] rfl rfl (by decide) (by decide) (by decide) rfl hl.1 rfl (Nat.le_of_ble_eq_true rfl) d_SingleBytes_koiCharacterOf_15 ⟨Nat.zero_le _, Nat.zero_le _⟩ (fun r_6 u_6 H locs hw hP hD hS => ?_)
    have e_6 := hw
    subst e_6
    have hP : va_P D vwCl [] H := hP
    have hD : va_D A [] := hD
    refine lv_bipush (v := 32) hx hb d_SingleBytes_koiCharacterOf_18 (by decide) ?_
    refine lv_isub hx hb d_SingleBytes_koiCharacterOf_20 ?_
    exact hret ((m_SingleBytes_inRow 2 (p0 - 224)) - 32) () _ _ _ _ d_SingleBytes_koiCharacterOf_21 rfl (hRES.symm.trans hF) hP hD hS
theorem cw_SingleBytes_koiCharacterOf {R : Room} {s : State} {args : Array Value} {own : String} {idx : Nat} (hts : ∀ w ∈ gW, w.before args s = true) (hl : Cond.methodLink own idx y_SingleBytes_koiCharacterOf ∈ gW) (hR : rm_SingleBytes_koiCharacterOf.frames + 1 ≤ R.frames ∧ 8 + (1 + 11) + rm_SingleBytes_koiCharacterOf.locals ≤ R.locals) : CallB R s args own idx y_SingleBytes_koiCharacterOf b_SingleBytes_koiCharacterOf 1 (some .int) w_SingleBytes_koiCharacterOf rm_SingleBytes_koiCharacterOf 0 0 1 ∧ (Cond.static y_SingleBytes_koiCharacterOf).before args s = true := va_cwS 1 hts (gW_S hl k_486 k_88 k_487) rfl rfl rfl (by decide +kernel) hR
def m_Uncoder_unbase_l10 (n3 : Nat) : Nat → Int32 → Int32 → List Int32 → Int32 → Int32 → List Int32 → Int32 → Int32 × Int32 × List Int32 × Int32
  | 0, _, _, _, v2_value, v2_held, l3, o3 => (v2_value, v2_held, l3, o3)
  | nf10 + 1, i3, i5, l0, v2_value, v2_held, l3, o3 =>
    if i3 ≤ i5 then
      (v2_value, v2_held, l3, o3)
    else
      if (m_Row_get l0 i5) = 61 then
        (v2_value, v2_held, l3, o3)
      else
        if (m_Letters_sixBitsOf (m_Row_get l0 i5)) = (-1) then
          if (m_Bits_has v2_held 8) = 0 then
            m_Uncoder_unbase_l10 n3 nf10 i3 (i5 + 1) l0 v2_value v2_held l3 o3
          else
            match (m_Bits_take v2_value v2_held 8) with
            | (r_8, v3_held_8) =>
              match (m_Row_put n3 l3 o3 r_8) with
              | (l1_9, o1_9) =>
                m_Uncoder_unbase_l10 n3 nf10 i3 (i5 + 1) l0 v2_value v3_held_8 l1_9 o1_9
        else
          match (m_Bits_add v2_value v2_held (m_Letters_sixBitsOf (m_Row_get l0 i5)) 6) with
          | (v1_value_10, v1_held_10) =>
            if (m_Bits_has v1_held_10 8) = 0 then
              m_Uncoder_unbase_l10 n3 nf10 i3 (i5 + 1) l0 v1_value_10 v1_held_10 l3 o3
            else
              match (m_Bits_take v1_value_10 v1_held_10 8) with
              | (r_13, v3_held_13) =>
                match (m_Row_put n3 l3 o3 r_13) with
                | (l1_14, o1_14) =>
                  m_Uncoder_unbase_l10 n3 nf10 i3 (i5 + 1) l0 v1_value_10 v3_held_13 l1_14 o1_14
def m_Uncoder_unbase (n3 : Nat) (l0 : List Int32) (l3 : List Int32) (o3 : Int32) (p2 : Int32) (p3 : Int32) : Int32 × Int32 × List Int32 × Int32 :=
  match m_Bits_clear with
  | (v2_value_15, v2_held_15) =>
    m_Uncoder_unbase_l10 n3 ((p3.toInt - p2.toInt).toNat + 1) p3 p2 l0 v2_value_15 v2_held_15 l3 o3
def rm_Uncoder_unbase : Room := { frames := 1, cells := 0, slots := 0, locals := 22 }
set_option maxHeartbeats 4000000 in
set_option maxRecDepth 100000 in
theorem c_Uncoder_unbase (l : Launch) (D : va_G) (Z : gZT) (kI : ClassId) (a0 : Nat) (b0 : Nat) (n0 : Nat) (a1 : Nat) (x1_line : Nat) (a2 : Nat) (a3 : Nat) (b3 : Nat) (n3 : Nat) (sz : Nat) (f0 : Nat → Int32) (l0 : List Int32) (o0 : Int32) (v2_value : Int32) (v2_held : Int32) (f3 : Nat → Int32) (l3 : List Int32) (o3 : Int32) (p2 : Int32) (p3 : Int32) (hr0 : g_rw n0 f0 l0) (hr3 : g_rw n3 f3 l3) : gMv l y_Uncoder_unbase w_Uncoder_unbase rm_Uncoder_unbase D Z kI [.ref a1, .ref a0, .int p2, .int p3, .ref a3] sz [(a0, .inr (4, [.ref b0, .int (nI l0.length), .int o0])), (b0, .inl (kI, n0, .inl f0)), (a1, .inr (5, [.ref a2, .ref x1_line])), (a2, .inr (0, [.int v2_value, .int v2_held])), (a3, .inr (4, [.ref b3, .int (nI l3.length), .int o3])), (b3, .inl (kI, n3, .inl f3))] (fun (u : Int32 × Int32 × (Nat → Int32) × List Int32 × Int32) => m_Uncoder_unbase n3 l0 l3 o3 p2 p3 = (u.1, u.2.1, u.2.2.2.1, u.2.2.2.2) ∧ g_rw n3 u.2.2.1 u.2.2.2.1) (fun (u : Int32 × Int32 × (Nat → Int32) × List Int32 × Int32) => ([(a0, .inr (4, [.ref b0, .int (nI l0.length), .int o0])), (b0, .inl (kI, n0, .inl f0)), (a1, .inr (5, [.ref a2, .ref x1_line])), (a2, .inr (0, [.int u.1, .int u.2.1])), (a3, .inr (4, [.ref b3, .int (nI u.2.2.2.1.length), .int u.2.2.2.2])), (b3, .inl (kI, n3, .inl u.2.2.1))] : va_W)) := by
  refine g_ofv (cc := b_Uncoder_unbase) (maxL := 8) (by decide) rfl (Nat.le_of_ble_eq_true rfl) ?_
  intro p e s m below meth c A Q H ls hx hb hml hown hts hA hK hZ hP hD hS hl hret
  have hown : s.vm.findClass "MailCharacters$Uncoder" = some m.cls := hown
  have hl : lv_has ls 8 [(0, .ref a1), (1, .ref a0), (2, .int p2), (3, .int p3), (4, .ref a3)] := hl
  obtain ⟨RES, hRES⟩ : ∃ z, z = m_Uncoder_unbase n3 l0 l3 o3 p2 p3 := ⟨_, rfl⟩
  have lp10 : ∀ (nf10 : Nat) (i3 : Int32) (i5 : Int32) (v2_value : Int32) (v2_held : Int32) (f3 : Nat → Int32) (l3 : List Int32) (o3 : Int32) (hr3 : g_rw n3 f3 l3) (H : Heap) (locs : List Loc) (ls : Array Slot), (i3.toInt - i5.toInt).toNat < nf10 → RES = m_Uncoder_unbase_l10 n3 nf10 i3 i5 l0 v2_value v2_held l3 o3 → va_P D vwCl [(a0, .inr (4, [.ref b0, .int (nI l0.length), .int o0])), (b0, .inl (kI, n0, .inl f0)), (a1, .inr (5, [.ref a2, .ref x1_line])), (a2, .inr (0, [.int v2_value, .int v2_held])), (a3, .inr (4, [.ref b3, .int (nI l3.length), .int o3])), (b3, .inl (kI, n3, .inl f3))] H → va_D A [(a0, .inr (4, [.ref b0, .int (nI l0.length), .int o0])), (b0, .inl (kI, n0, .inl f0)), (a1, .inr (5, [.ref a2, .ref x1_line])), (a2, .inr (0, [.int v2_value, .int v2_held])), (a3, .inr (4, [.ref b3, .int (nI l3.length), .int o3])), (b3, .inl (kI, n3, .inl f3))] → va_S A s.heap H locs → lv_has ls 8 [(0, .ref a1), (1, .ref a0), (3, .int i3), (4, .ref a3), (5, .int i5)] → W p l e rm_Uncoder_unbase s m ([.ref a1, .ref a0, .int p2, .int p3, .ref a3] : List Value).toArray below meth c H locs 0 0 Q (F0 m 10 ls []) := by
    intro nf10
    induction nf10 with
    | zero => intro i3 i5 v2_value v2_held f3 l3 o3 hr3 H locs ls hn10; exact absurd hn10 (Nat.not_lt_zero _)
    | succ nf10 ih10 =>
      intro i3 i5 v2_value v2_held f3 l3 o3 hr3 H locs ls hn10 hF hP hD hS hl
      rw [m_Uncoder_unbase_l10] at hF
      refine lv_iload hx hb d_Uncoder_unbase_10 (lv_at hl 4 rfl) ?_
      refine lv_iload_n hx hb d_Uncoder_unbase_12 rfl (lv_at hl 2 rfl) ?_
      refine lv_icmp_ge (tgt := 88) hx hb d_Uncoder_unbase_13 (by decide) (fun c_1 => ?_) (fun c_1 => ?_)
      · rw [if_pos c_1] at hF
        exact hret (v2_value, v2_held, f3, l3, o3) _ _ _ _ d_Uncoder_unbase_88 (⟨hRES.symm.trans hF, hr3⟩) hP hD hS
      · rw [if_neg c_1] at hF
        refine lv_aload_n hx hb d_Uncoder_unbase_16 rfl (lv_at hl 1 rfl) ?_
        refine lv_iload hx hb d_Uncoder_unbase_17 (lv_at hl 4 rfl) ?_
        refine g_Vi (As := [.int i5]) (rest := []) (wr := [(a1, .inr (5, [.ref a2, .ref x1_line])), (a2, .inr (0, [.int v2_value, .int v2_held])), (a3, .inr (4, [.ref b3, .int (nI l3.length), .int o3])), (b3, .inl (kI, n3, .inl f3))]) ⟨hx, hb, hml, hown, hts⟩ (c_Row_get l D Z kI a0 b0 n0 H.size f0 l0 o0 i5 hr0) (cw_Row_get hts k_503 ⟨Nat.le_of_ble_eq_true rfl, Nat.le_of_ble_eq_true rfl⟩) hK hZ hP hD hS hA [0, 1] [2, 3, 4, 5] (g_recv hK hP (ci := 4) (q0 := 0) rfl rfl) rfl rfl (by decide) (by decide) (by decide) rfl hl.1 rfl (Nat.le_of_ble_eq_true rfl) d_Uncoder_unbase_19 ⟨Nat.zero_le _, Nat.zero_le _⟩ (fun r_2 u_2 H locs hw hP hD hS => ?_)
        have e_2 := hw
        subst e_2
        have hP : va_P D vwCl [(a1, .inr (5, [.ref a2, .ref x1_line])), (a2, .inr (0, [.int v2_value, .int v2_held])), (a3, .inr (4, [.ref b3, .int (nI l3.length), .int o3])), (b3, .inl (kI, n3, .inl f3)), (a0, .inr (4, [.ref b0, .int (nI l0.length), .int o0])), (b0, .inl (kI, n0, .inl f0))] H := hP
        have hD : va_D A [(a1, .inr (5, [.ref a2, .ref x1_line])), (a2, .inr (0, [.int v2_value, .int v2_held])), (a3, .inr (4, [.ref b3, .int (nI l3.length), .int o3])), (b3, .inl (kI, n3, .inl f3)), (a0, .inr (4, [.ref b0, .int (nI l0.length), .int o0])), (b0, .inl (kI, n0, .inl f0))] := hD
        refine lv_istore (lv' := [(6, .int (m_Row_get l0 i5)), (0, .ref a1), (1, .ref a0), (3, .int i3), (4, .ref a3), (5, .int i5)]) hx hb d_Uncoder_unbase_22 hl (by decide) rfl (fun ls hl => ?_)
        refine lv_iload hx hb d_Uncoder_unbase_24 (lv_at hl 0 rfl) ?_
        refine lv_bipush (v := 61) hx hb d_Uncoder_unbase_26 (by decide) ?_
        refine lv_icmp_ne (tgt := 32) hx hb d_Uncoder_unbase_28 (by decide) (fun c_3 => ?_) (fun c_3 => ?_)
        · rw [if_neg c_3] at hF
          refine lv_iload hx hb d_Uncoder_unbase_32 (lv_at hl 0 rfl) ?_
          refine g_Si (As := [.int (m_Row_get l0 i5)]) (rest := []) (wr := [(a1, .inr (5, [.ref a2, .ref x1_line])), (a2, .inr (0, [.int v2_value, .int v2_held])), (a3, .inr (4, [.ref b3, .int (nI l3.length), .int o3])), (b3, .inl (kI, n3, .inl f3)), (a0, .inr (4, [.ref b0, .int (nI l0.length), .int o0])), (b0, .inl (kI, n0, .inl f0))]) ⟨hx, hb, hml, hown, hts⟩ (c_Letters_sixBitsOf l D Z kI H.size (m_Row_get l0 i5)) (cw_Letters_sixBitsOf hts k_504 ⟨Nat.le_of_ble_eq_true rfl, Nat.le_of_ble_eq_true rfl⟩) hK hZ hP hD hS hA [] [0, 1, 2, 3, 4, 5] rfl rfl (by decide) (by decide) (by decide) rfl hl.1 rfl (Nat.le_of_ble_eq_true rfl) d_Uncoder_unbase_34 ⟨Nat.zero_le _, Nat.zero_le _⟩ (fun r_4 u_4 H locs hw hP hD hS => ?_)
          have e_4 := hw
          subst e_4
          have hP : va_P D vwCl [(a1, .inr (5, [.ref a2, .ref x1_line])), (a2, .inr (0, [.int v2_value, .int v2_held])), (a3, .inr (4, [.ref b3, .int (nI l3.length), .int o3])), (b3, .inl (kI, n3, .inl f3)), (a0, .inr (4, [.ref b0, .int (nI l0.length), .int o0])), (b0, .inl (kI, n0, .inl f0))] H := hP
          have hD : va_D A [(a1, .inr (5, [.ref a2, .ref x1_line])), (a2, .inr (0, [.int v2_value, .int v2_held])), (a3, .inr (4, [.ref b3, .int (nI l3.length), .int o3])), (b3, .inl (kI, n3, .inl f3)), (a0, .inr (4, [.ref b0, .int (nI l0.length), .int o0])), (b0, .inl (kI, n0, .inl f0))] := hD
          refine lv_istore (lv' := [(7, .int (m_Letters_sixBitsOf (m_Row_get l0 i5))), (6, .int (m_Row_get l0 i5)), (0, .ref a1), (1, .ref a0), (3, .int i3), (4, .ref a3), (5, .int i5)]) hx hb d_Uncoder_unbase_37 hl (by decide) rfl (fun ls hl => ?_)
          refine lv_iload hx hb d_Uncoder_unbase_39 (lv_at hl 0 rfl) ?_
          refine lv_iconst (v := (-1)) hx hb d_Uncoder_unbase_41 (by decide) ?_
          refine lv_icmp_eq (tgt := 56) hx hb d_Uncoder_unbase_42 (by decide) (fun c_5 => ?_) (fun c_5 => ?_)
          · rw [if_pos c_5] at hF
            refine lv_aload_n hx hb d_Uncoder_unbase_56 rfl (lv_at hl 2 rfl) ?_
            refine va_get (D := D) (ci := 5) (v := .ref a2) (C := "MailCharacters$Uncoder") (T := F_Uncoder) (N := 2) hx hb hts i_Uncoder hown hK hP 0 rfl rfl 0 (by decide) (hts _ k_160) (fun _ h9 => h9) rfl d_Uncoder_unbase_57 ?_
            refine lv_bipush (v := 8) hx hb d_Uncoder_unbase_60 (by decide) ?_
            refine g_Vi (As := [.int 8]) (rest := []) (wr := [(a1, .inr (5, [.ref a2, .ref x1_line])), (a3, .inr (4, [.ref b3, .int (nI l3.length), .int o3])), (b3, .inl (kI, n3, .inl f3)), (a0, .inr (4, [.ref b0, .int (nI l0.length), .int o0])), (b0, .inl (kI, n0, .inl f0))]) ⟨hx, hb, hml, hown, hts⟩ (c_Bits_has l D Z kI a2 H.size v2_value v2_held 8) (cw_Bits_has hts k_506 ⟨Nat.le_of_ble_eq_true rfl, Nat.le_of_ble_eq_true rfl⟩) hK hZ hP hD hS hA [1] [0, 2, 3, 4, 5] (g_recv hK hP (ci := 0) (q0 := 1) rfl rfl) rfl rfl (by decide) (by decide) (by decide) rfl hl.1 rfl (Nat.le_of_ble_eq_true rfl) d_Uncoder_unbase_62 ⟨Nat.zero_le _, Nat.zero_le _⟩ (fun r_6 u_6 H locs hw hP hD hS => ?_)
            have e_6 := hw
            subst e_6
            have hP : va_P D vwCl [(a1, .inr (5, [.ref a2, .ref x1_line])), (a3, .inr (4, [.ref b3, .int (nI l3.length), .int o3])), (b3, .inl (kI, n3, .inl f3)), (a0, .inr (4, [.ref b0, .int (nI l0.length), .int o0])), (b0, .inl (kI, n0, .inl f0)), (a2, .inr (0, [.int v2_value, .int v2_held]))] H := hP
            have hD : va_D A [(a1, .inr (5, [.ref a2, .ref x1_line])), (a3, .inr (4, [.ref b3, .int (nI l3.length), .int o3])), (b3, .inl (kI, n3, .inl f3)), (a0, .inr (4, [.ref b0, .int (nI l0.length), .int o0])), (b0, .inl (kI, n0, .inl f0)), (a2, .inr (0, [.int v2_value, .int v2_held]))] := hD
            refine lv_if_eq (tgt := 82) hx hb d_Uncoder_unbase_65 (by decide) (fun c_7 => ?_) (fun c_7 => ?_)
            · rw [if_pos c_7] at hF
              refine lv_iinc (v := (i5 + 1)) (lv' := [(5, .int (i5 + 1)), (7, .int (m_Letters_sixBitsOf (m_Row_get l0 i5))), (6, .int (m_Row_get l0 i5)), (0, .ref a1), (1, .ref a0), (3, .int i3), (4, .ref a3)]) hx hb d_Uncoder_unbase_82 hl (k := 6) rfl rfl (by decide) rfl (fun ls hl => ?_)
              refine lv_goto (tgt := 10) hx hb d_Uncoder_unbase_85 (by decide) ?_
              exact ih10 i3 (i5 + 1) v2_value v2_held f3 l3 o3 hr3 _ _ _  (Nat.lt_of_lt_of_le (g_dec1 c_1) (Nat.le_of_lt_succ hn10)) hF (hP.sub [3, 4, 0, 5, 1, 2] rfl) (hD.sub [3, 4, 0, 5, 1, 2] (by decide) rfl) hS (lv_sub hl [3, 4, 5, 6, 0] rfl)
            · rw [if_neg c_7] at hF
              refine lv_aload hx hb d_Uncoder_unbase_68 (lv_at hl 5 rfl) ?_
              refine lv_aload_n hx hb d_Uncoder_unbase_70 rfl (lv_at hl 2 rfl) ?_
              refine va_get (D := D) (ci := 5) (v := .ref a2) (C := "MailCharacters$Uncoder") (T := F_Uncoder) (N := 2) hx hb hts i_Uncoder hown hK hP 0 rfl rfl 0 (by decide) (hts _ k_160) (fun _ h9 => h9) rfl d_Uncoder_unbase_71 ?_
              refine lv_bipush (v := 8) hx hb d_Uncoder_unbase_74 (by decide) ?_
              refine g_Vi (As := [.int 8]) (rest := [.ref a3]) (wr := [(a1, .inr (5, [.ref a2, .ref x1_line])), (a3, .inr (4, [.ref b3, .int (nI l3.length), .int o3])), (b3, .inl (kI, n3, .inl f3)), (a0, .inr (4, [.ref b0, .int (nI l0.length), .int o0])), (b0, .inl (kI, n0, .inl f0))]) ⟨hx, hb, hml, hown, hts⟩ (c_Bits_take l D Z kI a2 H.size v2_value v2_held 8) (cw_Bits_take hts k_507 ⟨Nat.le_of_ble_eq_true rfl, Nat.le_of_ble_eq_true rfl⟩) hK hZ hP hD hS hA [5] [0, 1, 2, 3, 4] (g_recv hK hP (ci := 0) (q0 := 5) rfl rfl) rfl rfl (by decide) (by decide) (by decide) rfl hl.1 rfl (Nat.le_of_ble_eq_true rfl) d_Uncoder_unbase_76 ⟨Nat.zero_le _, Nat.zero_le _⟩ (fun r_8 v3_held_8 H locs hw hP hD hS => ?_)
              have e_8 := hw
              have hP : va_P D vwCl [(a1, .inr (5, [.ref a2, .ref x1_line])), (a3, .inr (4, [.ref b3, .int (nI l3.length), .int o3])), (b3, .inl (kI, n3, .inl f3)), (a0, .inr (4, [.ref b0, .int (nI l0.length), .int o0])), (b0, .inl (kI, n0, .inl f0)), (a2, .inr (0, [.int v2_value, .int v3_held_8]))] H := hP
              have hD : va_D A [(a1, .inr (5, [.ref a2, .ref x1_line])), (a3, .inr (4, [.ref b3, .int (nI l3.length), .int o3])), (b3, .inl (kI, n3, .inl f3)), (a0, .inr (4, [.ref b0, .int (nI l0.length), .int o0])), (b0, .inl (kI, n0, .inl f0)), (a2, .inr (0, [.int v2_value, .int v3_held_8]))] := hD
              rw [e_8] at hF; dsimp only at hF
              refine g_Vv (As := [.int r_8]) (rest := []) (wr := [(a1, .inr (5, [.ref a2, .ref x1_line])), (a0, .inr (4, [.ref b0, .int (nI l0.length), .int o0])), (b0, .inl (kI, n0, .inl f0)), (a2, .inr (0, [.int v2_value, .int v3_held_8]))]) ⟨hx, hb, hml, hown, hts⟩ (c_Row_put l D Z kI a3 b3 n3 H.size f3 l3 o3 r_8 hr3) (cw_Row_put hts k_508 ⟨Nat.le_of_ble_eq_true rfl, Nat.le_of_ble_eq_true rfl⟩) hK hZ hP hD hS hA [1, 2] [0, 3, 4, 5] (g_recv hK hP (ci := 4) (q0 := 1) rfl rfl) rfl rfl (by decide) (by decide) (by decide) rfl hl.1 rfl (Nat.le_of_ble_eq_true rfl) d_Uncoder_unbase_79 ⟨Nat.zero_le _, Nat.zero_le _⟩ (fun u_9 H locs hw hP hD hS => ?_)
              obtain ⟨f1_9, l1_9, o1_9⟩ := u_9
              have e_9 := hw.1
              have hr1_9 := hw.2
              have hP : va_P D vwCl [(a1, .inr (5, [.ref a2, .ref x1_line])), (a0, .inr (4, [.ref b0, .int (nI l0.length), .int o0])), (b0, .inl (kI, n0, .inl f0)), (a2, .inr (0, [.int v2_value, .int v3_held_8])), (a3, .inr (4, [.ref b3, .int (nI l1_9.length), .int o1_9])), (b3, .inl (kI, n3, .inl f1_9))] H := hP
              have hD : va_D A [(a1, .inr (5, [.ref a2, .ref x1_line])), (a0, .inr (4, [.ref b0, .int (nI l0.length), .int o0])), (b0, .inl (kI, n0, .inl f0)), (a2, .inr (0, [.int v2_value, .int v3_held_8])), (a3, .inr (4, [.ref b3, .int (nI l1_9.length), .int o1_9])), (b3, .inl (kI, n3, .inl f1_9))] := hD
              rw [e_9] at hF; dsimp only at hF
              refine lv_iinc (v := (i5 + 1)) (lv' := [(5, .int (i5 + 1)), (7, .int (m_Letters_sixBitsOf (m_Row_get l0 i5))), (6, .int (m_Row_get l0 i5)), (0, .ref a1), (1, .ref a0), (3, .int i3), (4, .ref a3)]) hx hb d_Uncoder_unbase_82 hl (k := 6) rfl rfl (by decide) rfl (fun ls hl => ?_)
              refine lv_goto (tgt := 10) hx hb d_Uncoder_unbase_85 (by decide) ?_
              exact ih10 i3 (i5 + 1) v2_value v3_held_8 f1_9 l1_9 o1_9 hr1_9 _ _ _  (Nat.lt_of_lt_of_le (g_dec1 c_1) (Nat.le_of_lt_succ hn10)) hF (hP.sub [1, 2, 0, 3, 4, 5] rfl) (hD.sub [1, 2, 0, 3, 4, 5] (by decide) rfl) hS (lv_sub hl [3, 4, 5, 6, 0] rfl)
          · rw [if_neg c_5] at hF
            refine lv_aload_n hx hb d_Uncoder_unbase_45 rfl (lv_at hl 2 rfl) ?_
            refine va_get (D := D) (ci := 5) (v := .ref a2) (C := "MailCharacters$Uncoder") (T := F_Uncoder) (N := 2) hx hb hts i_Uncoder hown hK hP 0 rfl rfl 0 (by decide) (hts _ k_160) (fun _ h9 => h9) rfl d_Uncoder_unbase_46 ?_
            refine lv_iload hx hb d_Uncoder_unbase_49 (lv_at hl 0 rfl) ?_
            refine lv_bipush (v := 6) hx hb d_Uncoder_unbase_51 (by decide) ?_
            refine g_Vv (As := [.int (m_Letters_sixBitsOf (m_Row_get l0 i5)), .int 6]) (rest := []) (wr := [(a1, .inr (5, [.ref a2, .ref x1_line])), (a3, .inr (4, [.ref b3, .int (nI l3.length), .int o3])), (b3, .inl (kI, n3, .inl f3)), (a0, .inr (4, [.ref b0, .int (nI l0.length), .int o0])), (b0, .inl (kI, n0, .inl f0))]) ⟨hx, hb, hml, hown, hts⟩ (c_Bits_add l D Z kI a2 H.size v2_value v2_held (m_Letters_sixBitsOf (m_Row_get l0 i5)) 6) (cw_Bits_add hts k_505 ⟨Nat.le_of_ble_eq_true rfl, Nat.le_of_ble_eq_true rfl⟩) hK hZ hP hD hS hA [1] [0, 2, 3, 4, 5] (g_recv hK hP (ci := 0) (q0 := 1) rfl rfl) rfl rfl (by decide) (by decide) (by decide) rfl hl.1 rfl (Nat.le_of_ble_eq_true rfl) d_Uncoder_unbase_53 ⟨Nat.zero_le _, Nat.zero_le _⟩ (fun u_10 H locs hw hP hD hS => ?_)
            obtain ⟨v1_value_10, v1_held_10⟩ := u_10
            have e_10 := hw
            have hP : va_P D vwCl [(a1, .inr (5, [.ref a2, .ref x1_line])), (a3, .inr (4, [.ref b3, .int (nI l3.length), .int o3])), (b3, .inl (kI, n3, .inl f3)), (a0, .inr (4, [.ref b0, .int (nI l0.length), .int o0])), (b0, .inl (kI, n0, .inl f0)), (a2, .inr (0, [.int v1_value_10, .int v1_held_10]))] H := hP
            have hD : va_D A [(a1, .inr (5, [.ref a2, .ref x1_line])), (a3, .inr (4, [.ref b3, .int (nI l3.length), .int o3])), (b3, .inl (kI, n3, .inl f3)), (a0, .inr (4, [.ref b0, .int (nI l0.length), .int o0])), (b0, .inl (kI, n0, .inl f0)), (a2, .inr (0, [.int v1_value_10, .int v1_held_10]))] := hD
            rw [e_10] at hF; dsimp only at hF
            refine lv_aload_n hx hb d_Uncoder_unbase_56 rfl (lv_at hl 2 rfl) ?_
            refine va_get (D := D) (ci := 5) (v := .ref a2) (C := "MailCharacters$Uncoder") (T := F_Uncoder) (N := 2) hx hb hts i_Uncoder hown hK hP 0 rfl rfl 0 (by decide) (hts _ k_160) (fun _ h9 => h9) rfl d_Uncoder_unbase_57 ?_
            refine lv_bipush (v := 8) hx hb d_Uncoder_unbase_60 (by decide) ?_
            refine g_Vi (As := [.int 8]) (rest := []) (wr := [(a1, .inr (5, [.ref a2, .ref x1_line])), (a3, .inr (4, [.ref b3, .int (nI l3.length), .int o3])), (b3, .inl (kI, n3, .inl f3)), (a0, .inr (4, [.ref b0, .int (nI l0.length), .int o0])), (b0, .inl (kI, n0, .inl f0))]) ⟨hx, hb, hml, hown, hts⟩ (c_Bits_has l D Z kI a2 H.size v1_value_10 v1_held_10 8) (cw_Bits_has hts k_506 ⟨Nat.le_of_ble_eq_true rfl, Nat.le_of_ble_eq_true rfl⟩) hK hZ hP hD hS hA [5] [0, 1, 2, 3, 4] (g_recv hK hP (ci := 0) (q0 := 5) rfl rfl) rfl rfl (by decide) (by decide) (by decide) rfl hl.1 rfl (Nat.le_of_ble_eq_true rfl) d_Uncoder_unbase_62 ⟨Nat.zero_le _, Nat.zero_le _⟩ (fun r_11 u_11 H locs hw hP hD hS => ?_)
            have e_11 := hw
            subst e_11
            have hP : va_P D vwCl [(a1, .inr (5, [.ref a2, .ref x1_line])), (a3, .inr (4, [.ref b3, .int (nI l3.length), .int o3])), (b3, .inl (kI, n3, .inl f3)), (a0, .inr (4, [.ref b0, .int (nI l0.length), .int o0])), (b0, .inl (kI, n0, .inl f0)), (a2, .inr (0, [.int v1_value_10, .int v1_held_10]))] H := hP
            have hD : va_D A [(a1, .inr (5, [.ref a2, .ref x1_line])), (a3, .inr (4, [.ref b3, .int (nI l3.length), .int o3])), (b3, .inl (kI, n3, .inl f3)), (a0, .inr (4, [.ref b0, .int (nI l0.length), .int o0])), (b0, .inl (kI, n0, .inl f0)), (a2, .inr (0, [.int v1_value_10, .int v1_held_10]))] := hD
            refine lv_if_eq (tgt := 82) hx hb d_Uncoder_unbase_65 (by decide) (fun c_12 => ?_) (fun c_12 => ?_)
            · rw [if_pos c_12] at hF
              refine lv_iinc (v := (i5 + 1)) (lv' := [(5, .int (i5 + 1)), (7, .int (m_Letters_sixBitsOf (m_Row_get l0 i5))), (6, .int (m_Row_get l0 i5)), (0, .ref a1), (1, .ref a0), (3, .int i3), (4, .ref a3)]) hx hb d_Uncoder_unbase_82 hl (k := 6) rfl rfl (by decide) rfl (fun ls hl => ?_)
              refine lv_goto (tgt := 10) hx hb d_Uncoder_unbase_85 (by decide) ?_
              exact ih10 i3 (i5 + 1) v1_value_10 v1_held_10 f3 l3 o3 hr3 _ _ _  (Nat.lt_of_lt_of_le (g_dec1 c_1) (Nat.le_of_lt_succ hn10)) hF (hP.sub [3, 4, 0, 5, 1, 2] rfl) (hD.sub [3, 4, 0, 5, 1, 2] (by decide) rfl) hS (lv_sub hl [3, 4, 5, 6, 0] rfl)
            · rw [if_neg c_12] at hF
              refine lv_aload hx hb d_Uncoder_unbase_68 (lv_at hl 5 rfl) ?_
              refine lv_aload_n hx hb d_Uncoder_unbase_70 rfl (lv_at hl 2 rfl) ?_
              refine va_get (D := D) (ci := 5) (v := .ref a2) (C := "MailCharacters$Uncoder") (T := F_Uncoder) (N := 2) hx hb hts i_Uncoder hown hK hP 0 rfl rfl 0 (by decide) (hts _ k_160) (fun _ h9 => h9) rfl d_Uncoder_unbase_71 ?_
              refine lv_bipush (v := 8) hx hb d_Uncoder_unbase_74 (by decide) ?_
              refine g_Vi (As := [.int 8]) (rest := [.ref a3]) (wr := [(a1, .inr (5, [.ref a2, .ref x1_line])), (a3, .inr (4, [.ref b3, .int (nI l3.length), .int o3])), (b3, .inl (kI, n3, .inl f3)), (a0, .inr (4, [.ref b0, .int (nI l0.length), .int o0])), (b0, .inl (kI, n0, .inl f0))]) ⟨hx, hb, hml, hown, hts⟩ (c_Bits_take l D Z kI a2 H.size v1_value_10 v1_held_10 8) (cw_Bits_take hts k_507 ⟨Nat.le_of_ble_eq_true rfl, Nat.le_of_ble_eq_true rfl⟩) hK hZ hP hD hS hA [5] [0, 1, 2, 3, 4] (g_recv hK hP (ci := 0) (q0 := 5) rfl rfl) rfl rfl (by decide) (by decide) (by decide) rfl hl.1 rfl (Nat.le_of_ble_eq_true rfl) d_Uncoder_unbase_76 ⟨Nat.zero_le _, Nat.zero_le _⟩ (fun r_13 v3_held_13 H locs hw hP hD hS => ?_)
              have e_13 := hw
              have hP : va_P D vwCl [(a1, .inr (5, [.ref a2, .ref x1_line])), (a3, .inr (4, [.ref b3, .int (nI l3.length), .int o3])), (b3, .inl (kI, n3, .inl f3)), (a0, .inr (4, [.ref b0, .int (nI l0.length), .int o0])), (b0, .inl (kI, n0, .inl f0)), (a2, .inr (0, [.int v1_value_10, .int v3_held_13]))] H := hP
              have hD : va_D A [(a1, .inr (5, [.ref a2, .ref x1_line])), (a3, .inr (4, [.ref b3, .int (nI l3.length), .int o3])), (b3, .inl (kI, n3, .inl f3)), (a0, .inr (4, [.ref b0, .int (nI l0.length), .int o0])), (b0, .inl (kI, n0, .inl f0)), (a2, .inr (0, [.int v1_value_10, .int v3_held_13]))] := hD
              rw [e_13] at hF; dsimp only at hF
              refine g_Vv (As := [.int r_13]) (rest := []) (wr := [(a1, .inr (5, [.ref a2, .ref x1_line])), (a0, .inr (4, [.ref b0, .int (nI l0.length), .int o0])), (b0, .inl (kI, n0, .inl f0)), (a2, .inr (0, [.int v1_value_10, .int v3_held_13]))]) ⟨hx, hb, hml, hown, hts⟩ (c_Row_put l D Z kI a3 b3 n3 H.size f3 l3 o3 r_13 hr3) (cw_Row_put hts k_508 ⟨Nat.le_of_ble_eq_true rfl, Nat.le_of_ble_eq_true rfl⟩) hK hZ hP hD hS hA [1, 2] [0, 3, 4, 5] (g_recv hK hP (ci := 4) (q0 := 1) rfl rfl) rfl rfl (by decide) (by decide) (by decide) rfl hl.1 rfl (Nat.le_of_ble_eq_true rfl) d_Uncoder_unbase_79 ⟨Nat.zero_le _, Nat.zero_le _⟩ (fun u_14 H locs hw hP hD hS => ?_)
              obtain ⟨f1_14, l1_14, o1_14⟩ := u_14
              have e_14 := hw.1
              have hr1_14 := hw.2
              have hP : va_P D vwCl [(a1, .inr (5, [.ref a2, .ref x1_line])), (a0, .inr (4, [.ref b0, .int (nI l0.length), .int o0])), (b0, .inl (kI, n0, .inl f0)), (a2, .inr (0, [.int v1_value_10, .int v3_held_13])), (a3, .inr (4, [.ref b3, .int (nI l1_14.length), .int o1_14])), (b3, .inl (kI, n3, .inl f1_14))] H := hP
              have hD : va_D A [(a1, .inr (5, [.ref a2, .ref x1_line])), (a0, .inr (4, [.ref b0, .int (nI l0.length), .int o0])), (b0, .inl (kI, n0, .inl f0)), (a2, .inr (0, [.int v1_value_10, .int v3_held_13])), (a3, .inr (4, [.ref b3, .int (nI l1_14.length), .int o1_14])), (b3, .inl (kI, n3, .inl f1_14))] := hD
              rw [e_14] at hF; dsimp only at hF
              refine lv_iinc (v := (i5 + 1)) (lv' := [(5, .int (i5 + 1)), (7, .int (m_Letters_sixBitsOf (m_Row_get l0 i5))), (6, .int (m_Row_get l0 i5)), (0, .ref a1), (1, .ref a0), (3, .int i3), (4, .ref a3)]) hx hb d_Uncoder_unbase_82 hl (k := 6) rfl rfl (by decide) rfl (fun ls hl => ?_)
              refine lv_goto (tgt := 10) hx hb d_Uncoder_unbase_85 (by decide) ?_
              exact ih10 i3 (i5 + 1) v1_value_10 v3_held_13 f1_14 l1_14 o1_14 hr1_14 _ _ _  (Nat.lt_of_lt_of_le (g_dec1 c_1) (Nat.le_of_lt_succ hn10)) hF (hP.sub [1, 2, 0, 3, 4, 5] rfl) (hD.sub [1, 2, 0, 3, 4, 5] (by decide) rfl) hS (lv_sub hl [3, 4, 5, 6, 0] rfl)
        · rw [if_pos c_3] at hF
          exact hret (v2_value, v2_held, f3, l3, o3) _ _ _ _ d_Uncoder_unbase_31 (⟨hRES.symm.trans hF, hr3⟩) (hP.sub [4, 5, 0, 1, 2, 3] rfl) (hD.sub [4, 5, 0, 1, 2, 3] (by decide) rfl) hS
  have hF := hRES
  rw [m_Uncoder_unbase] at hF
  refine lv_aload_n hx hb d_Uncoder_unbase_0 rfl (lv_at hl 0 rfl) ?_
  refine va_get (D := D) (ci := 5) (v := .ref a2) (C := "MailCharacters$Uncoder") (T := F_Uncoder) (N := 2) hx hb hts i_Uncoder hown hK hP 2 rfl rfl 0 (by decide) (hts _ k_160) (fun _ h9 => h9) rfl d_Uncoder_unbase_1 ?_
  refine g_Vv (As := []) (rest := []) (wr := [(a0, .inr (4, [.ref b0, .int (nI l0.length), .int o0])), (b0, .inl (kI, n0, .inl f0)), (a1, .inr (5, [.ref a2, .ref x1_line])), (a3, .inr (4, [.ref b3, .int (nI l3.length), .int o3])), (b3, .inl (kI, n3, .inl f3))]) ⟨hx, hb, hml, hown, hts⟩ (c_Bits_clear l D Z kI a2 H.size v2_value v2_held) (cw_Bits_clear hts k_502 ⟨Nat.le_of_ble_eq_true rfl, Nat.le_of_ble_eq_true rfl⟩) hK hZ hP hD hS hA [3] [0, 1, 2, 4, 5] (g_recv hK hP (ci := 0) (q0 := 3) rfl rfl) rfl rfl (by decide) (by decide) (by decide) rfl hl.1 rfl (Nat.le_of_ble_eq_true rfl) d_Uncoder_unbase_4 ⟨Nat.zero_le _, Nat.zero_le _⟩ (fun u_15 H locs hw hP hD hS => ?_)
  obtain ⟨v2_value_15, v2_held_15⟩ := u_15
  have e_15 := hw
  have hP : va_P D vwCl [(a0, .inr (4, [.ref b0, .int (nI l0.length), .int o0])), (b0, .inl (kI, n0, .inl f0)), (a1, .inr (5, [.ref a2, .ref x1_line])), (a3, .inr (4, [.ref b3, .int (nI l3.length), .int o3])), (b3, .inl (kI, n3, .inl f3)), (a2, .inr (0, [.int v2_value_15, .int v2_held_15]))] H := hP
  have hD : va_D A [(a0, .inr (4, [.ref b0, .int (nI l0.length), .int o0])), (b0, .inl (kI, n0, .inl f0)), (a1, .inr (5, [.ref a2, .ref x1_line])), (a3, .inr (4, [.ref b3, .int (nI l3.length), .int o3])), (b3, .inl (kI, n3, .inl f3)), (a2, .inr (0, [.int v2_value_15, .int v2_held_15]))] := hD
  rw [e_15] at hF; dsimp only at hF
  refine lv_iload_n hx hb d_Uncoder_unbase_7 rfl (lv_at hl 2 rfl) ?_
  refine lv_istore (lv' := [(5, .int p2), (0, .ref a1), (1, .ref a0), (2, .int p2), (3, .int p3), (4, .ref a3)]) hx hb d_Uncoder_unbase_8 hl (by decide) rfl (fun ls hl => ?_)
  exact lp10 ((p3.toInt - p2.toInt).toNat + 1) p3 p2 v2_value_15 v2_held_15 f3 l3 o3 hr3 _ _ _  (Nat.lt_succ_self _) hF (hP.sub [0, 1, 2, 5, 3, 4] rfl) (hD.sub [0, 1, 2, 5, 3, 4] (by decide) rfl) hS (lv_sub hl [1, 2, 4, 5, 0] rfl)
theorem cw_Uncoder_unbase {R : Room} {s : State} {args : Array Value} {own : String} {idx : Nat} (hts : ∀ w ∈ gW, w.before args s = true) (hl : Cond.methodLink own idx y_Uncoder_unbase ∈ gW) (hR : rm_Uncoder_unbase.frames + 1 ≤ R.frames ∧ 8 + (8 + 11) + rm_Uncoder_unbase.locals ≤ R.locals) : CallW R s args own "MailCharacters$Uncoder" idx y_Uncoder_unbase b_Uncoder_unbase 8 none w_Uncoder_unbase rm_Uncoder_unbase 0 0 4 := cwV 4 hts (gW_V hl k_500 k_9 k_70 k_501) rfl rfl rfl (by decide +kernel) hR
def m_Letters_hexOf (p0 : Int32) : Int32 :=
  if p0 < 48 then
    if p0 < 65 then
      if p0 < 97 then
        (-1)
      else
        if 102 < p0 then
          (-1)
        else
          ((p0 - 97) + 10)
    else
      if 70 < p0 then
        if p0 < 97 then
          (-1)
        else
          if 102 < p0 then
            (-1)
          else
            ((p0 - 97) + 10)
      else
        ((p0 - 65) + 10)
  else
    if 57 < p0 then
      if p0 < 65 then
        if p0 < 97 then
          (-1)
        else
          if 102 < p0 then
            (-1)
          else
            ((p0 - 97) + 10)
      else
        if 70 < p0 then
          if p0 < 97 then
            (-1)
          else
            if 102 < p0 then
              (-1)
            else
              ((p0 - 97) + 10)
        else
          ((p0 - 65) + 10)
    else
      (p0 - 48)
def rm_Letters_hexOf : Room := { frames := 0, cells := 0, slots := 0, locals := 0 }
set_option maxHeartbeats 4000000 in
set_option maxRecDepth 100000 in
theorem c_Letters_hexOf (l : Launch) (D : va_G) (Z : gZT) (kI : ClassId) (sz : Nat) (p0 : Int32) : gMi l y_Letters_hexOf w_Letters_hexOf rm_Letters_hexOf D Z kI [.int p0] sz [] (fun (r : Int32) (_u : Unit) => m_Letters_hexOf p0 = r) (fun (_u : Unit) => ([] : va_W)) := by
  refine g_ofi (cc := b_Letters_hexOf) (maxL := 1) (ty := .int) (by decide) rfl (Nat.le_of_ble_eq_true rfl) ?_
  intro p e s m below meth c A Q H ls hx hb hml hown hts hA hK hZ hP hD hS hl hret
  have hown : s.vm.findClass "MailCharacters$Letters" = some m.cls := hown
  have hl : lv_has ls 1 [(0, .int p0)] := hl
  obtain ⟨RES, hRES⟩ : ∃ z, z = m_Letters_hexOf p0 := ⟨_, rfl⟩
  have hF := hRES
  rw [m_Letters_hexOf] at hF
  refine lv_iload_n hx hb d_Letters_hexOf_0 rfl (lv_at hl 0 rfl) ?_
  refine lv_bipush (v := 48) hx hb d_Letters_hexOf_1 (by decide) ?_
  refine lv_icmp_lt (tgt := 17) hx hb d_Letters_hexOf_3 (by decide) (fun c_1 => ?_) (fun c_1 => ?_)
  · rw [if_pos c_1] at hF
    refine lv_iload_n hx hb d_Letters_hexOf_17 rfl (lv_at hl 0 rfl) ?_
    refine lv_bipush (v := 65) hx hb d_Letters_hexOf_18 (by decide) ?_
    refine lv_icmp_lt (tgt := 37) hx hb d_Letters_hexOf_20 (by decide) (fun c_2 => ?_) (fun c_2 => ?_)
    · rw [if_pos c_2] at hF
      refine lv_iload_n hx hb d_Letters_hexOf_37 rfl (lv_at hl 0 rfl) ?_
      refine lv_bipush (v := 97) hx hb d_Letters_hexOf_38 (by decide) ?_
      refine lv_icmp_lt (tgt := 59) hx hb d_Letters_hexOf_40 (by decide) (fun c_3 => ?_) (fun c_3 => ?_)
      · rw [if_pos c_3] at hF
        refine lv_iconst (v := (-1)) hx hb d_Letters_hexOf_59 (by decide) ?_
        exact hret (-1) () _ _ _ _ d_Letters_hexOf_60 rfl (hRES.symm.trans hF) hP hD hS
      · rw [if_neg c_3] at hF
        refine lv_iload_n hx hb d_Letters_hexOf_43 rfl (lv_at hl 0 rfl) ?_
        refine lv_bipush (v := 102) hx hb d_Letters_hexOf_44 (by decide) ?_
        refine lv_icmp_gt (tgt := 59) hx hb d_Letters_hexOf_46 (by decide) (fun c_4 => ?_) (fun c_4 => ?_)
        · rw [if_pos c_4] at hF
          refine lv_iconst (v := (-1)) hx hb d_Letters_hexOf_59 (by decide) ?_
          exact hret (-1) () _ _ _ _ d_Letters_hexOf_60 rfl (hRES.symm.trans hF) hP hD hS
        · rw [if_neg c_4] at hF
          refine lv_iload_n hx hb d_Letters_hexOf_49 rfl (lv_at hl 0 rfl) ?_
          refine lv_bipush (v := 97) hx hb d_Letters_hexOf_50 (by decide) ?_
          refine lv_isub hx hb d_Letters_hexOf_52 ?_
          refine lv_bipush (v := 10) hx hb d_Letters_hexOf_53 (by decide) ?_
          refine lv_iadd hx hb d_Letters_hexOf_55 ?_
          refine lv_goto (tgt := 60) hx hb d_Letters_hexOf_56 (by decide) ?_
          exact hret ((p0 - 97) + 10) () _ _ _ _ d_Letters_hexOf_60 rfl (hRES.symm.trans hF) hP hD hS
    · rw [if_neg c_2] at hF
      refine lv_iload_n hx hb d_Letters_hexOf_23 rfl (lv_at hl 0 rfl) ?_
      refine lv_bipush (v := 70) hx hb d_Letters_hexOf_24 (by decide) ?_
      refine lv_icmp_gt (tgt := 37) hx hb d_Letters_hexOf_26 (by decide) (fun c_5 => ?_) (fun c_5 => ?_)
      · rw [if_pos c_5] at hF
        refine lv_iload_n hx hb d_Letters_hexOf_37 rfl (lv_at hl 0 rfl) ?_
        refine lv_bipush (v := 97) hx hb d_Letters_hexOf_38 (by decide) ?_
        refine lv_icmp_lt (tgt := 59) hx hb d_Letters_hexOf_40 (by decide) (fun c_6 => ?_) (fun c_6 => ?_)
        · rw [if_pos c_6] at hF
          refine lv_iconst (v := (-1)) hx hb d_Letters_hexOf_59 (by decide) ?_
          exact hret (-1) () _ _ _ _ d_Letters_hexOf_60 rfl (hRES.symm.trans hF) hP hD hS
        · rw [if_neg c_6] at hF
          refine lv_iload_n hx hb d_Letters_hexOf_43 rfl (lv_at hl 0 rfl) ?_
          refine lv_bipush (v := 102) hx hb d_Letters_hexOf_44 (by decide) ?_
          refine lv_icmp_gt (tgt := 59) hx hb d_Letters_hexOf_46 (by decide) (fun c_7 => ?_) (fun c_7 => ?_)
          · rw [if_pos c_7] at hF
            refine lv_iconst (v := (-1)) hx hb d_Letters_hexOf_59 (by decide) ?_
            exact hret (-1) () _ _ _ _ d_Letters_hexOf_60 rfl (hRES.symm.trans hF) hP hD hS
          · rw [if_neg c_7] at hF
            refine lv_iload_n hx hb d_Letters_hexOf_49 rfl (lv_at hl 0 rfl) ?_
            refine lv_bipush (v := 97) hx hb d_Letters_hexOf_50 (by decide) ?_
            refine lv_isub hx hb d_Letters_hexOf_52 ?_
            refine lv_bipush (v := 10) hx hb d_Letters_hexOf_53 (by decide) ?_
            refine lv_iadd hx hb d_Letters_hexOf_55 ?_
            refine lv_goto (tgt := 60) hx hb d_Letters_hexOf_56 (by decide) ?_
            exact hret ((p0 - 97) + 10) () _ _ _ _ d_Letters_hexOf_60 rfl (hRES.symm.trans hF) hP hD hS
      · rw [if_neg c_5] at hF
        refine lv_iload_n hx hb d_Letters_hexOf_29 rfl (lv_at hl 0 rfl) ?_
        refine lv_bipush (v := 65) hx hb d_Letters_hexOf_30 (by decide) ?_
        refine lv_isub hx hb d_Letters_hexOf_32 ?_
        refine lv_bipush (v := 10) hx hb d_Letters_hexOf_33 (by decide) ?_
        refine lv_iadd hx hb d_Letters_hexOf_35 ?_
        exact hret ((p0 - 65) + 10) () _ _ _ _ d_Letters_hexOf_36 rfl (hRES.symm.trans hF) hP hD hS
  · rw [if_neg c_1] at hF
    refine lv_iload_n hx hb d_Letters_hexOf_6 rfl (lv_at hl 0 rfl) ?_
    refine lv_bipush (v := 57) hx hb d_Letters_hexOf_7 (by decide) ?_
    refine lv_icmp_gt (tgt := 17) hx hb d_Letters_hexOf_9 (by decide) (fun c_8 => ?_) (fun c_8 => ?_)
    · rw [if_pos c_8] at hF
      refine lv_iload_n hx hb d_Letters_hexOf_17 rfl (lv_at hl 0 rfl) ?_
      refine lv_bipush (v := 65) hx hb d_Letters_hexOf_18 (by decide) ?_
      refine lv_icmp_lt (tgt := 37) hx hb d_Letters_hexOf_20 (by decide) (fun c_9 => ?_) (fun c_9 => ?_)
      · rw [if_pos c_9] at hF
        refine lv_iload_n hx hb d_Letters_hexOf_37 rfl (lv_at hl 0 rfl) ?_
        refine lv_bipush (v := 97) hx hb d_Letters_hexOf_38 (by decide) ?_
        refine lv_icmp_lt (tgt := 59) hx hb d_Letters_hexOf_40 (by decide) (fun c_10 => ?_) (fun c_10 => ?_)
        · rw [if_pos c_10] at hF
          refine lv_iconst (v := (-1)) hx hb d_Letters_hexOf_59 (by decide) ?_
          exact hret (-1) () _ _ _ _ d_Letters_hexOf_60 rfl (hRES.symm.trans hF) hP hD hS
        · rw [if_neg c_10] at hF
          refine lv_iload_n hx hb d_Letters_hexOf_43 rfl (lv_at hl 0 rfl) ?_
          refine lv_bipush (v := 102) hx hb d_Letters_hexOf_44 (by decide) ?_
          refine lv_icmp_gt (tgt := 59) hx hb d_Letters_hexOf_46 (by decide) (fun c_11 => ?_) (fun c_11 => ?_)
          · rw [if_pos c_11] at hF
            refine lv_iconst (v := (-1)) hx hb d_Letters_hexOf_59 (by decide) ?_
            exact hret (-1) () _ _ _ _ d_Letters_hexOf_60 rfl (hRES.symm.trans hF) hP hD hS
          · rw [if_neg c_11] at hF
            refine lv_iload_n hx hb d_Letters_hexOf_49 rfl (lv_at hl 0 rfl) ?_
            refine lv_bipush (v := 97) hx hb d_Letters_hexOf_50 (by decide) ?_
            refine lv_isub hx hb d_Letters_hexOf_52 ?_
            refine lv_bipush (v := 10) hx hb d_Letters_hexOf_53 (by decide) ?_
            refine lv_iadd hx hb d_Letters_hexOf_55 ?_
            refine lv_goto (tgt := 60) hx hb d_Letters_hexOf_56 (by decide) ?_
            exact hret ((p0 - 97) + 10) () _ _ _ _ d_Letters_hexOf_60 rfl (hRES.symm.trans hF) hP hD hS
      · rw [if_neg c_9] at hF
        refine lv_iload_n hx hb d_Letters_hexOf_23 rfl (lv_at hl 0 rfl) ?_
        refine lv_bipush (v := 70) hx hb d_Letters_hexOf_24 (by decide) ?_
        refine lv_icmp_gt (tgt := 37) hx hb d_Letters_hexOf_26 (by decide) (fun c_12 => ?_) (fun c_12 => ?_)
        · rw [if_pos c_12] at hF
          refine lv_iload_n hx hb d_Letters_hexOf_37 rfl (lv_at hl 0 rfl) ?_
          refine lv_bipush (v := 97) hx hb d_Letters_hexOf_38 (by decide) ?_
          refine lv_icmp_lt (tgt := 59) hx hb d_Letters_hexOf_40 (by decide) (fun c_13 => ?_) (fun c_13 => ?_)
          · rw [if_pos c_13] at hF
            refine lv_iconst (v := (-1)) hx hb d_Letters_hexOf_59 (by decide) ?_
            exact hret (-1) () _ _ _ _ d_Letters_hexOf_60 rfl (hRES.symm.trans hF) hP hD hS
          · rw [if_neg c_13] at hF
            refine lv_iload_n hx hb d_Letters_hexOf_43 rfl (lv_at hl 0 rfl) ?_
            refine lv_bipush (v := 102) hx hb d_Letters_hexOf_44 (by decide) ?_
            refine lv_icmp_gt (tgt := 59) hx hb d_Letters_hexOf_46 (by decide) (fun c_14 => ?_) (fun c_14 => ?_)
            · rw [if_pos c_14] at hF
              refine lv_iconst (v := (-1)) hx hb d_Letters_hexOf_59 (by decide) ?_
              exact hret (-1) () _ _ _ _ d_Letters_hexOf_60 rfl (hRES.symm.trans hF) hP hD hS
            · rw [if_neg c_14] at hF
              refine lv_iload_n hx hb d_Letters_hexOf_49 rfl (lv_at hl 0 rfl) ?_
              refine lv_bipush (v := 97) hx hb d_Letters_hexOf_50 (by decide) ?_
              refine lv_isub hx hb d_Letters_hexOf_52 ?_
              refine lv_bipush (v := 10) hx hb d_Letters_hexOf_53 (by decide) ?_
              refine lv_iadd hx hb d_Letters_hexOf_55 ?_
              refine lv_goto (tgt := 60) hx hb d_Letters_hexOf_56 (by decide) ?_
              exact hret ((p0 - 97) + 10) () _ _ _ _ d_Letters_hexOf_60 rfl (hRES.symm.trans hF) hP hD hS
        · rw [if_neg c_12] at hF
          refine lv_iload_n hx hb d_Letters_hexOf_29 rfl (lv_at hl 0 rfl) ?_
          refine lv_bipush (v := 65) hx hb d_Letters_hexOf_30 (by decide) ?_
          refine lv_isub hx hb d_Letters_hexOf_32 ?_
          refine lv_bipush (v := 10) hx hb d_Letters_hexOf_33 (by decide) ?_
          refine lv_iadd hx hb d_Letters_hexOf_35 ?_
          exact hret ((p0 - 65) + 10) () _ _ _ _ d_Letters_hexOf_36 rfl (hRES.symm.trans hF) hP hD hS
    · rw [if_neg c_8] at hF
      refine lv_iload_n hx hb d_Letters_hexOf_12 rfl (lv_at hl 0 rfl) ?_
      refine lv_bipush (v := 48) hx hb d_Letters_hexOf_13 (by decide) ?_
      refine lv_isub hx hb d_Letters_hexOf_15 ?_
      exact hret (p0 - 48) () _ _ _ _ d_Letters_hexOf_16 rfl (hRES.symm.trans hF) hP hD hS
theorem cw_Letters_hexOf {R : Room} {s : State} {args : Array Value} {own : String} {idx : Nat} (hts : ∀ w ∈ gW, w.before args s = true) (hl : Cond.methodLink own idx y_Letters_hexOf ∈ gW) (hR : rm_Letters_hexOf.frames + 1 ≤ R.frames ∧ 8 + (1 + 11) + rm_Letters_hexOf.locals ≤ R.locals) : CallB R s args own idx y_Letters_hexOf b_Letters_hexOf 1 (some .int) w_Letters_hexOf rm_Letters_hexOf 0 0 1 ∧ (Cond.static y_Letters_hexOf).before args s = true := va_cwS 1 hts (gW_S hl k_513 k_87 k_514) rfl rfl rfl (by decide +kernel) hR
def m_MC_byteAt (l1 : List Int32) (p1 : Int32) : Int32 :=
  (m_Row_get l1 p1)
def rm_MC_byteAt : Room := { frames := 1, cells := 0, slots := 0, locals := 21 }
set_option maxHeartbeats 4000000 in
set_option maxRecDepth 100000 in
theorem c_MC_byteAt (l : Launch) (D : va_G) (Z : gZT) (kI : ClassId) (a0 : Nat) (x0_ready : Nat) (x0_text : Nat) (x0_uncoder : Nat) (x0_coder : Nat) (x0_reader : Nat) (x0_writer : Nat) (x0_word : Nat) (x0_spare : Nat) (a1 : Nat) (b1 : Nat) (n1 : Nat) (sz : Nat) (f1 : Nat → Int32) (l1 : List Int32) (o1 : Int32) (p1 : Int32) (hr1 : g_rw n1 f1 l1) : gMi l y_MC_byteAt w_MC_byteAt rm_MC_byteAt D Z kI [.ref a0, .int p1] sz [(a0, .inr (8, [.ref x0_ready, .ref x0_text, .ref x0_uncoder, .ref x0_coder, .ref x0_reader, .ref x0_writer, .ref x0_word, .ref a1, .ref x0_spare])), (a1, .inr (4, [.ref b1, .int (nI l1.length), .int o1])), (b1, .inl (kI, n1, .inl f1))] (fun (r : Int32) (_u : Unit) => m_MC_byteAt l1 p1 = r) (fun (_u : Unit) => ([(a0, .inr (8, [.ref x0_ready, .ref x0_text, .ref x0_uncoder, .ref x0_coder, .ref x0_reader, .ref x0_writer, .ref x0_word, .ref a1, .ref x0_spare])), (a1, .inr (4, [.ref b1, .int (nI l1.length), .int o1])), (b1, .inl (kI, n1, .inl f1))] : va_W)) := by
  refine g_ofi (cc := b_MC_byteAt) (maxL := 2) (ty := .int) (by decide) rfl (Nat.le_of_ble_eq_true rfl) ?_
  intro p e s m below meth c A Q H ls hx hb hml hown hts hA hK hZ hP hD hS hl hret
  have hown : s.vm.findClass "MailCharacters" = some m.cls := hown
  have hl : lv_has ls 2 [(0, .ref a0), (1, .int p1)] := hl
  obtain ⟨RES, hRES⟩ : ∃ z, z = m_MC_byteAt l1 p1 := ⟨_, rfl⟩
  have hF := hRES
  rw [m_MC_byteAt] at hF
  refine lv_aload_n hx hb d_MC_byteAt_0 rfl (lv_at hl 0 rfl) ?_
  refine va_get (D := D) (ci := 8) (v := .ref a1) (C := "MailCharacters") (T := F_MC) (N := 9) hx hb hts i_MC hown hK hP 0 rfl rfl 7 (by decide) (hts _ k_243) (fun _ h9 => h9) rfl d_MC_byteAt_1 ?_
  refine lv_iload_n hx hb d_MC_byteAt_4 rfl (lv_at hl 1 rfl) ?_
  refine g_Vi (As := [.int p1]) (rest := []) (wr := [(a0, .inr (8, [.ref x0_ready, .ref x0_text, .ref x0_uncoder, .ref x0_coder, .ref x0_reader, .ref x0_writer, .ref x0_word, .ref a1, .ref x0_spare]))]) ⟨hx, hb, hml, hown, hts⟩ (c_Row_get l D Z kI a1 b1 n1 H.size f1 l1 o1 p1 hr1) (cw_Row_get hts k_400 ⟨Nat.le_of_ble_eq_true rfl, Nat.le_of_ble_eq_true rfl⟩) hK hZ hP hD hS hA [1, 2] [0] (g_recv hK hP (ci := 4) (q0 := 1) rfl rfl) rfl rfl (by decide) (by decide) (by decide) rfl hl.1 rfl (Nat.le_of_ble_eq_true rfl) d_MC_byteAt_5 ⟨Nat.zero_le _, Nat.zero_le _⟩ (fun r_1 u_1 H locs hw hP hD hS => ?_)
  have e_1 := hw
  subst e_1
  have hP : va_P D vwCl [(a0, .inr (8, [.ref x0_ready, .ref x0_text, .ref x0_uncoder, .ref x0_coder, .ref x0_reader, .ref x0_writer, .ref x0_word, .ref a1, .ref x0_spare])), (a1, .inr (4, [.ref b1, .int (nI l1.length), .int o1])), (b1, .inl (kI, n1, .inl f1))] H := hP
  have hD : va_D A [(a0, .inr (8, [.ref x0_ready, .ref x0_text, .ref x0_uncoder, .ref x0_coder, .ref x0_reader, .ref x0_writer, .ref x0_word, .ref a1, .ref x0_spare])), (a1, .inr (4, [.ref b1, .int (nI l1.length), .int o1])), (b1, .inl (kI, n1, .inl f1))] := hD
  exact hret (m_Row_get l1 p1) () _ _ _ _ d_MC_byteAt_8 rfl (hRES.symm.trans hF) hP hD hS
theorem cw_MC_byteAt {R : Room} {s : State} {args : Array Value} {own : String} {idx : Nat} (hts : ∀ w ∈ gW, w.before args s = true) (hl : Cond.methodLink own idx y_MC_byteAt ∈ gW) (hR : rm_MC_byteAt.frames + 1 ≤ R.frames ∧ 8 + (2 + 11) + rm_MC_byteAt.locals ≤ R.locals) : CallW R s args own "MailCharacters" idx y_MC_byteAt b_MC_byteAt 2 (some .int) w_MC_byteAt rm_MC_byteAt 0 0 1 := cwV 1 hts (gW_V hl k_516 k_517 k_67 k_518) rfl rfl rfl (by decide +kernel) hR
def m_MC_at (l1 : List Int32) (p1 : Int32) : Int32 :=
  (m_Row_get l1 p1)
def rm_MC_at : Room := { frames := 1, cells := 0, slots := 0, locals := 21 }
set_option maxHeartbeats 4000000 in
set_option maxRecDepth 100000 in
theorem c_MC_at (l : Launch) (D : va_G) (Z : gZT) (kI : ClassId) (a0 : Nat) (x0_ready : Nat) (x0_uncoder : Nat) (x0_coder : Nat) (x0_reader : Nat) (x0_writer : Nat) (x0_word : Nat) (x0_tape : Nat) (x0_spare : Nat) (a1 : Nat) (b1 : Nat) (n1 : Nat) (sz : Nat) (f1 : Nat → Int32) (l1 : List Int32) (o1 : Int32) (p1 : Int32) (hr1 : g_rw n1 f1 l1) : gMi l y_MC_at w_MC_at rm_MC_at D Z kI [.ref a0, .int p1] sz [(a0, .inr (8, [.ref x0_ready, .ref a1, .ref x0_uncoder, .ref x0_coder, .ref x0_reader, .ref x0_writer, .ref x0_word, .ref x0_tape, .ref x0_spare])), (a1, .inr (4, [.ref b1, .int (nI l1.length), .int o1])), (b1, .inl (kI, n1, .inl f1))] (fun (r : Int32) (_u : Unit) => m_MC_at l1 p1 = r) (fun (_u : Unit) => ([(a0, .inr (8, [.ref x0_ready, .ref a1, .ref x0_uncoder, .ref x0_coder, .ref x0_reader, .ref x0_writer, .ref x0_word, .ref x0_tape, .ref x0_spare])), (a1, .inr (4, [.ref b1, .int (nI l1.length), .int o1])), (b1, .inl (kI, n1, .inl f1))] : va_W)) := by
  refine g_ofi (cc := b_MC_at) (maxL := 2) (ty := .int) (by decide) rfl (Nat.le_of_ble_eq_true rfl) ?_
  intro p e s m below meth c A Q H ls hx hb hml hown hts hA hK hZ hP hD hS hl hret
  have hown : s.vm.findClass "MailCharacters" = some m.cls := hown
  have hl : lv_has ls 2 [(0, .ref a0), (1, .int p1)] := hl
  obtain ⟨RES, hRES⟩ : ∃ z, z = m_MC_at l1 p1 := ⟨_, rfl⟩
  have hF := hRES
  rw [m_MC_at] at hF
  refine lv_aload_n hx hb d_MC_at_0 rfl (lv_at hl 0 rfl) ?_
  refine va_get (D := D) (ci := 8) (v := .ref a1) (C := "MailCharacters") (T := F_MC) (N := 9) hx hb hts i_MC hown hK hP 0 rfl rfl 1 (by decide) (hts _ k_237) (fun _ h9 => h9) rfl d_MC_at_1 ?_
  refine lv_iload_n hx hb d_MC_at_4 rfl (lv_at hl 1 rfl) ?_
  refine g_Vi (As := [.int p1]) (rest := []) (wr := [(a0, .inr (8, [.ref x0_ready, .ref a1, .ref x0_uncoder, .ref x0_coder, .ref x0_reader, .ref x0_writer, .ref x0_word, .ref x0_tape, .ref x0_spare]))]) ⟨hx, hb, hml, hown, hts⟩ (c_Row_get l D Z kI a1 b1 n1 H.size f1 l1 o1 p1 hr1) (cw_Row_get hts k_400 ⟨Nat.le_of_ble_eq_true rfl, Nat.le_of_ble_eq_true rfl⟩) hK hZ hP hD hS hA [1, 2] [0] (g_recv hK hP (ci := 4) (q0 := 1) rfl rfl) rfl rfl (by decide) (by decide) (by decide) rfl hl.1 rfl (Nat.le_of_ble_eq_true rfl) d_MC_at_5 ⟨Nat.zero_le _, Nat.zero_le _⟩ (fun r_1 u_1 H locs hw hP hD hS => ?_)
  have e_1 := hw
  subst e_1
  have hP : va_P D vwCl [(a0, .inr (8, [.ref x0_ready, .ref a1, .ref x0_uncoder, .ref x0_coder, .ref x0_reader, .ref x0_writer, .ref x0_word, .ref x0_tape, .ref x0_spare])), (a1, .inr (4, [.ref b1, .int (nI l1.length), .int o1])), (b1, .inl (kI, n1, .inl f1))] H := hP
  have hD : va_D A [(a0, .inr (8, [.ref x0_ready, .ref a1, .ref x0_uncoder, .ref x0_coder, .ref x0_reader, .ref x0_writer, .ref x0_word, .ref x0_tape, .ref x0_spare])), (a1, .inr (4, [.ref b1, .int (nI l1.length), .int o1])), (b1, .inl (kI, n1, .inl f1))] := hD
  exact hret (m_Row_get l1 p1) () _ _ _ _ d_MC_at_8 rfl (hRES.symm.trans hF) hP hD hS
theorem cw_MC_at {R : Room} {s : State} {args : Array Value} {own : String} {idx : Nat} (hts : ∀ w ∈ gW, w.before args s = true) (hl : Cond.methodLink own idx y_MC_at ∈ gW) (hR : rm_MC_at.frames + 1 ≤ R.frames ∧ 8 + (2 + 11) + rm_MC_at.locals ≤ R.locals) : CallW R s args own "MailCharacters" idx y_MC_at b_MC_at 2 (some .int) w_MC_at rm_MC_at 0 0 1 := cwV 1 hts (gW_V hl k_520 k_521 k_67 k_522) rfl rfl rfl (by decide +kernel) hR
def m_Row_countOf_l4 : Nat → Int32 → Int32 → Int32 → List Int32 → Int32
  | 0, _, _, _, _ => 0
  | nf4 + 1, i1, i2, i3, l0 =>
    if (nI l0.length) ≤ i3 then
      i2
    else
      if (m_Row_get l0 i3) = i1 then
        m_Row_countOf_l4 nf4 i1 (i2 + 1) (i3 + 1) l0
      else
        m_Row_countOf_l4 nf4 i1 i2 (i3 + 1) l0
def m_Row_countOf (l0 : List Int32) (p1 : Int32) : Int32 :=
  m_Row_countOf_l4 (((nI l0.length).toInt - (0 : Int32).toInt).toNat + 1) p1 0 0 l0
def rm_Row_countOf : Room := { frames := 1, cells := 0, slots := 0, locals := 21 }
set_option maxHeartbeats 4000000 in
set_option maxRecDepth 100000 in
theorem c_Row_countOf (l : Launch) (D : va_G) (Z : gZT) (kI : ClassId) (a0 : Nat) (b0 : Nat) (n0 : Nat) (sz : Nat) (f0 : Nat → Int32) (l0 : List Int32) (o0 : Int32) (p1 : Int32) (hr0 : g_rw n0 f0 l0) : gMi l y_Row_countOf w_Row_countOf rm_Row_countOf D Z kI [.ref a0, .int p1] sz [(a0, .inr (4, [.ref b0, .int (nI l0.length), .int o0])), (b0, .inl (kI, n0, .inl f0))] (fun (r : Int32) (_u : Unit) => m_Row_countOf l0 p1 = r) (fun (_u : Unit) => ([(a0, .inr (4, [.ref b0, .int (nI l0.length), .int o0])), (b0, .inl (kI, n0, .inl f0))] : va_W)) := by
  refine g_ofi (cc := b_Row_countOf) (maxL := 4) (ty := .int) (by decide) rfl (Nat.le_of_ble_eq_true rfl) ?_
  intro p e s m below meth c A Q H ls hx hb hml hown hts hA hK hZ hP hD hS hl hret
  have hown : s.vm.findClass "MailCharacters$Row" = some m.cls := hown
  have hl : lv_has ls 4 [(0, .ref a0), (1, .int p1)] := hl
  obtain ⟨RES, hRES⟩ : ∃ z, z = m_Row_countOf l0 p1 := ⟨_, rfl⟩
  have lp4 : ∀ (nf4 : Nat) (i1 : Int32) (i2 : Int32) (i3 : Int32) (H : Heap) (locs : List Loc) (ls : Array Slot), ((nI l0.length).toInt - i3.toInt).toNat < nf4 → RES = m_Row_countOf_l4 nf4 i1 i2 i3 l0 → va_P D vwCl [(a0, .inr (4, [.ref b0, .int (nI l0.length), .int o0])), (b0, .inl (kI, n0, .inl f0))] H → va_D A [(a0, .inr (4, [.ref b0, .int (nI l0.length), .int o0])), (b0, .inl (kI, n0, .inl f0))] → va_S A s.heap H locs → lv_has ls 4 [(0, .ref a0), (1, .int i1), (2, .int i2), (3, .int i3)] → W p l e rm_Row_countOf s m ([.ref a0, .int p1] : List Value).toArray below meth c H locs 0 0 Q (F0 m 4 ls []) := by
    intro nf4
    induction nf4 with
    | zero => intro i1 i2 i3 H locs ls hn4; exact absurd hn4 (Nat.not_lt_zero _)
    | succ nf4 ih4 =>
      intro i1 i2 i3 H locs ls hn4 hF hP hD hS hl
      rw [m_Row_countOf_l4] at hF
      refine lv_iload_n hx hb d_Row_countOf_4 rfl (lv_at hl 3 rfl) ?_
      refine lv_aload_n hx hb d_Row_countOf_5 rfl (lv_at hl 0 rfl) ?_
      refine va_get (D := D) (ci := 4) (v := .int (nI l0.length)) (C := "MailCharacters$Row") (T := F_Row) (N := 3) hx hb hts i_Row hown hK hP 0 rfl rfl 1 (by decide) (hts _ k_108) (fun _ h9 => h9) rfl d_Row_countOf_6 ?_
      refine lv_icmp_ge (tgt := 30) hx hb d_Row_countOf_9 (by decide) (fun c_1 => ?_) (fun c_1 => ?_)
      · rw [if_pos c_1] at hF
        refine lv_iload_n hx hb d_Row_countOf_30 rfl (lv_at hl 2 rfl) ?_
        exact hret i2 () _ _ _ _ d_Row_countOf_31 rfl (hRES.symm.trans hF) hP hD hS
      · rw [if_neg c_1] at hF
        refine lv_aload_n hx hb d_Row_countOf_12 rfl (lv_at hl 0 rfl) ?_
        refine lv_iload_n hx hb d_Row_countOf_13 rfl (lv_at hl 3 rfl) ?_
        refine g_Vi (As := [.int i3]) (rest := []) (wr := []) ⟨hx, hb, hml, hown, hts⟩ (c_Row_get l D Z kI a0 b0 n0 H.size f0 l0 o0 i3 hr0) (cw_Row_get hts k_532 ⟨Nat.le_of_ble_eq_true rfl, Nat.le_of_ble_eq_true rfl⟩) hK hZ hP hD hS hA [0, 1] [] (g_recv hK hP (ci := 4) (q0 := 0) rfl rfl) rfl rfl (by decide) (by decide) (by decide) rfl hl.1 rfl (Nat.le_of_ble_eq_true rfl) d_Row_countOf_14 ⟨Nat.zero_le _, Nat.zero_le _⟩ (fun r_2 u_2 H locs hw hP hD hS => ?_)
        have e_2 := hw
        subst e_2
        have hP : va_P D vwCl [(a0, .inr (4, [.ref b0, .int (nI l0.length), .int o0])), (b0, .inl (kI, n0, .inl f0))] H := hP
        have hD : va_D A [(a0, .inr (4, [.ref b0, .int (nI l0.length), .int o0])), (b0, .inl (kI, n0, .inl f0))] := hD
        refine lv_iload_n hx hb d_Row_countOf_17 rfl (lv_at hl 1 rfl) ?_
        refine lv_icmp_ne (tgt := 24) hx hb d_Row_countOf_18 (by decide) (fun c_3 => ?_) (fun c_3 => ?_)
        · rw [if_neg c_3] at hF
          refine lv_iinc (v := (i3 + 1)) (lv' := [(3, .int (i3 + 1)), (0, .ref a0), (1, .int i1), (2, .int i2)]) hx hb d_Row_countOf_24 hl (k := 3) rfl rfl (by decide) rfl (fun ls hl => ?_)
          refine lv_goto (tgt := 4) hx hb d_Row_countOf_27 (by decide) ?_
          exact ih4 i1 i2 (i3 + 1)  _ _ _  (Nat.lt_of_lt_of_le (g_dec1 c_1) (Nat.le_of_lt_succ hn4)) hF hP hD hS (lv_sub hl [1, 2, 3, 0] rfl)
        · rw [if_pos c_3] at hF
          refine lv_iinc (v := (i2 + 1)) (lv' := [(2, .int (i2 + 1)), (0, .ref a0), (1, .int i1), (3, .int i3)]) hx hb d_Row_countOf_21 hl (k := 2) rfl rfl (by decide) rfl (fun ls hl => ?_)
          refine lv_iinc (v := (i3 + 1)) (lv' := [(3, .int (i3 + 1)), (2, .int (i2 + 1)), (0, .ref a0), (1, .int i1)]) hx hb d_Row_countOf_24 hl (k := 3) rfl rfl (by decide) rfl (fun ls hl => ?_)
          refine lv_goto (tgt := 4) hx hb d_Row_countOf_27 (by decide) ?_
          exact ih4 i1 (i2 + 1) (i3 + 1)  _ _ _  (Nat.lt_of_lt_of_le (g_dec1 c_1) (Nat.le_of_lt_succ hn4)) hF hP hD hS (lv_sub hl [2, 3, 1, 0] rfl)
  have hF := hRES
  rw [m_Row_countOf] at hF
  refine lv_iconst (v := 0) hx hb d_Row_countOf_0 (by decide) ?_
  refine lv_istore_n (lv' := [(2, .int 0), (0, .ref a0), (1, .int p1)]) hx hb d_Row_countOf_1 rfl hl (by decide) rfl (fun ls hl => ?_)
  refine lv_iconst (v := 0) hx hb d_Row_countOf_2 (by decide) ?_
  refine lv_istore_n (lv' := [(3, .int 0), (2, .int 0), (0, .ref a0), (1, .int p1)]) hx hb d_Row_countOf_3 rfl hl (by decide) rfl (fun ls hl => ?_)
  exact lp4 (((nI l0.length).toInt - (0 : Int32).toInt).toNat + 1) p1 0 0  _ _ _  (Nat.lt_succ_self _) hF hP hD hS (lv_sub hl [2, 3, 1, 0] rfl)
theorem cw_Row_countOf {R : Room} {s : State} {args : Array Value} {own : String} {idx : Nat} (hts : ∀ w ∈ gW, w.before args s = true) (hl : Cond.methodLink own idx y_Row_countOf ∈ gW) (hR : rm_Row_countOf.frames + 1 ≤ R.frames ∧ 8 + (4 + 11) + rm_Row_countOf.locals ≤ R.locals) : CallW R s args own "MailCharacters$Row" idx y_Row_countOf b_Row_countOf 4 (some .int) w_Row_countOf rm_Row_countOf 0 0 1 := cwV 1 hts (gW_V hl k_529 k_530 k_68 k_531) rfl rfl rfl (by decide +kernel) hR
def m_Line_goToStart : Int32 :=
  0
def rm_Line_goToStart : Room := { frames := 0, cells := 0, slots := 0, locals := 0 }
set_option maxHeartbeats 4000000 in
set_option maxRecDepth 100000 in
theorem c_Line_goToStart (l : Launch) (D : va_G) (Z : gZT) (kI : ClassId) (a0 : Nat) (sz : Nat) (v0_from : Int32) (v0_to : Int32) (v0_ended : Int32) (v0_next : Int32) : gMv l y_Line_goToStart w_Line_goToStart rm_Line_goToStart D Z kI [.ref a0] sz [(a0, .inr (2, [.int v0_from, .int v0_to, .int v0_ended, .int v0_next]))] (fun (u : Int32) => m_Line_goToStart = u) (fun (u : Int32) => ([(a0, .inr (2, [.int v0_from, .int v0_to, .int v0_ended, .int u]))] : va_W)) := by
  refine g_ofv (cc := b_Line_goToStart) (maxL := 1) (by decide) rfl (Nat.le_of_ble_eq_true rfl) ?_
  intro p e s m below meth c A Q H ls hx hb hml hown hts hA hK hZ hP hD hS hl hret
  have hown : s.vm.findClass "MailCharacters$Line" = some m.cls := hown
  have hl : lv_has ls 1 [(0, .ref a0)] := hl
  obtain ⟨RES, hRES⟩ : ∃ z, z = m_Line_goToStart := ⟨_, rfl⟩
  have hF := hRES
  rw [m_Line_goToStart] at hF
  refine lv_aload_n hx hb d_Line_goToStart_0 rfl (lv_at hl 0 rfl) ?_
  refine lv_iconst (v := 0) hx hb d_Line_goToStart_1 (by decide) ?_
  refine va_put (D := D) (ci := 2) (v := .int 0) (ty := .int) (C := "MailCharacters$Line") (T := F_Line) (N := 4) hx hb hts i_Line t_Line t_Line_ok n_Line hown hK hP hD hS 0 rfl rfl 3 (by decide) (hts _ k_150) (fun _ h9 => h9) rfl (by decide +kernel) rfl rfl (Nat.le_of_ble_eq_true rfl) d_Line_goToStart_2 (fun H locs hP hD hS => ?_)
  have hP : va_P D vwCl [(a0, .inr (2, [.int v0_from, .int v0_to, .int v0_ended, .int 0]))] H := hP
  have hD : va_D A [(a0, .inr (2, [.int v0_from, .int v0_to, .int v0_ended, .int 0]))] := hD
  exact hret 0 _ _ _ _ d_Line_goToStart_5 (hRES.symm.trans hF) hP hD hS
theorem cw_Line_goToStart {R : Room} {s : State} {args : Array Value} {own : String} {idx : Nat} (hts : ∀ w ∈ gW, w.before args s = true) (hl : Cond.methodLink own idx y_Line_goToStart ∈ gW) (hR : rm_Line_goToStart.frames + 1 ≤ R.frames ∧ 8 + (1 + 11) + rm_Line_goToStart.locals ≤ R.locals) : CallW R s args own "MailCharacters$Line" idx y_Line_goToStart b_Line_goToStart 1 none w_Line_goToStart rm_Line_goToStart 0 0 0 := cwV 0 hts (gW_V hl k_617 k_618 k_72 k_619) rfl rfl rfl (by decide +kernel) hR
def m_Line_step_l34 : Nat → Int32 → List Int32 → Int32 → Int32 → Int32 × Int32 × Int32 × Int32 × Int32
  | 0, _, _, v1_from, v1_to => (0, v1_from, v1_to, 0, 0)
  | nf34 + 1, i2, l0, v1_from, v1_to =>
    if (m_Row_size l0) ≤ i2 then
      if (m_Row_size l0) ≤ v1_to then
        (1, v1_from, v1_to, 0, (v1_to + 1))
      else
        if v1_to ≤ v1_from then
          (1, v1_from, v1_to, 1, (v1_to + 1))
        else
          if (m_Row_get l0 (v1_to - 1)) = 13 then
            (1, v1_from, (v1_to - 1), 1, (v1_to + 1))
          else
            (1, v1_from, v1_to, 1, (v1_to + 1))
    else
      if (m_Row_get l0 i2) = 10 then
        if i2 ≤ v1_from then
          (1, v1_from, i2, 1, (i2 + 1))
        else
          if (m_Row_get l0 (i2 - 1)) = 13 then
            (1, v1_from, (i2 - 1), 1, (i2 + 1))
          else
            (1, v1_from, i2, 1, (i2 + 1))
      else
        m_Line_step_l34 nf34 (i2 + 1) l0 v1_from v1_to
def m_Line_step (l0 : List Int32) (v1_from : Int32) (v1_to : Int32) (v1_ended : Int32) (v1_next : Int32) : Int32 × Int32 × Int32 × Int32 × Int32 :=
  if v1_next < (m_Row_size l0) then
    m_Line_step_l34 (((m_Row_size l0).toInt - v1_next.toInt).toNat + 1) v1_next l0 v1_next (m_Row_size l0)
  else
    (0, v1_from, v1_to, v1_ended, v1_next)
def rm_Line_step : Room := { frames := 1, cells := 0, slots := 0, locals := 21 }
set_option maxHeartbeats 4000000 in
set_option maxRecDepth 100000 in
theorem c_Line_step (l : Launch) (D : va_G) (Z : gZT) (kI : ClassId) (a0 : Nat) (b0 : Nat) (n0 : Nat) (a1 : Nat) (sz : Nat) (f0 : Nat → Int32) (l0 : List Int32) (o0 : Int32) (v1_from : Int32) (v1_to : Int32) (v1_ended : Int32) (v1_next : Int32) (hr0 : g_rw n0 f0 l0) : gMi l y_Line_step w_Line_step rm_Line_step D Z kI [.ref a1, .ref a0] sz [(a0, .inr (4, [.ref b0, .int (nI l0.length), .int o0])), (b0, .inl (kI, n0, .inl f0)), (a1, .inr (2, [.int v1_from, .int v1_to, .int v1_ended, .int v1_next]))] (fun (r : Int32) (u : Int32 × Int32 × Int32 × Int32) => m_Line_step l0 v1_from v1_to v1_ended v1_next = (r, u.1, u.2.1, u.2.2.1, u.2.2.2)) (fun (u : Int32 × Int32 × Int32 × Int32) => ([(a0, .inr (4, [.ref b0, .int (nI l0.length), .int o0])), (b0, .inl (kI, n0, .inl f0)), (a1, .inr (2, [.int u.1, .int u.2.1, .int u.2.2.1, .int u.2.2.2]))] : va_W)) := by
  refine g_ofi (cc := b_Line_step) (maxL := 3) (ty := .boolean) (by decide) rfl (Nat.le_of_ble_eq_true rfl) ?_
  intro p e s m below meth c A Q H ls hx hb hml hown hts hA hK hZ hP hD hS hl hret
  have hown : s.vm.findClass "MailCharacters$Line" = some m.cls := hown
  have hl : lv_has ls 3 [(0, .ref a1), (1, .ref a0)] := hl
  obtain ⟨RES, hRES⟩ : ∃ z, z = m_Line_step l0 v1_from v1_to v1_ended v1_next := ⟨_, rfl⟩
  have lp34 : ∀ (nf34 : Nat) (i2 : Int32) (v1_from : Int32) (v1_to : Int32) (v1_ended : Int32) (v1_next : Int32) (H : Heap) (locs : List Loc) (ls : Array Slot), ((m_Row_size l0).toInt - i2.toInt).toNat < nf34 → RES = m_Line_step_l34 nf34 i2 l0 v1_from v1_to → va_P D vwCl [(a0, .inr (4, [.ref b0, .int (nI l0.length), .int o0])), (b0, .inl (kI, n0, .inl f0)), (a1, .inr (2, [.int v1_from, .int v1_to, .int v1_ended, .int v1_next]))] H → va_D A [(a0, .inr (4, [.ref b0, .int (nI l0.length), .int o0])), (b0, .inl (kI, n0, .inl f0)), (a1, .inr (2, [.int v1_from, .int v1_to, .int v1_ended, .int v1_next]))] → va_S A s.heap H locs → lv_has ls 3 [(0, .ref a1), (1, .ref a0), (2, .int i2)] → W p l e rm_Line_step s m ([.ref a1, .ref a0] : List Value).toArray below meth c H locs 0 0 Q (F0 m 34 ls []) := by
    intro nf34
    induction nf34 with
    | zero => intro i2 v1_from v1_to v1_ended v1_next H locs ls hn34; exact absurd hn34 (Nat.not_lt_zero _)
    | succ nf34 ih34 =>
      intro i2 v1_from v1_to v1_ended v1_next H locs ls hn34 hF hP hD hS hl
      rw [m_Line_step_l34] at hF
      refine lv_iload_n hx hb d_Line_step_34 rfl (lv_at hl 2 rfl) ?_
      refine lv_aload_n hx hb d_Line_step_35 rfl (lv_at hl 1 rfl) ?_
      refine g_Vi (As := []) (rest := [.int i2]) (wr := [(a1, .inr (2, [.int v1_from, .int v1_to, .int v1_ended, .int v1_next]))]) ⟨hx, hb, hml, hown, hts⟩ (c_Row_size l D Z kI a0 b0 n0 H.size f0 l0 o0 hr0) (cw_Row_size hts k_624 ⟨Nat.le_of_ble_eq_true rfl, Nat.le_of_ble_eq_true rfl⟩) hK hZ hP hD hS hA [0, 1] [2] (g_recv hK hP (ci := 4) (q0 := 0) rfl rfl) rfl rfl (by decide) (by decide) (by decide) rfl hl.1 rfl (Nat.le_of_ble_eq_true rfl) d_Line_step_36 ⟨Nat.zero_le _, Nat.zero_le _⟩ (fun r_2 u_2 H locs hw hP hD hS => ?_)
      have e_2 := hw
      subst e_2
      have hP : va_P D vwCl [(a1, .inr (2, [.int v1_from, .int v1_to, .int v1_ended, .int v1_next])), (a0, .inr (4, [.ref b0, .int (nI l0.length), .int o0])), (b0, .inl (kI, n0, .inl f0))] H := hP
      have hD : va_D A [(a1, .inr (2, [.int v1_from, .int v1_to, .int v1_ended, .int v1_next])), (a0, .inr (4, [.ref b0, .int (nI l0.length), .int o0])), (b0, .inl (kI, n0, .inl f0))] := hD
      refine lv_icmp_ge (tgt := 66) hx hb d_Line_step_39 (by decide) (fun c_3 => ?_) (fun c_3 => ?_)
      · rw [if_pos c_3] at hF
        refine lv_aload_n hx hb d_Line_step_66 rfl (lv_at hl 0 rfl) ?_
        refine lv_aload_n hx hb d_Line_step_67 rfl (lv_at hl 0 rfl) ?_
        refine va_get (D := D) (ci := 2) (v := .int v1_to) (C := "MailCharacters$Line") (T := F_Line) (N := 4) hx hb hts i_Line hown hK hP 0 rfl rfl 1 (by decide) (hts _ k_146) (fun _ h9 => h9) rfl d_Line_step_68 ?_
        refine lv_aload_n hx hb d_Line_step_71 rfl (lv_at hl 1 rfl) ?_
        refine g_Vi (As := []) (rest := [.int v1_to, .ref a1]) (wr := [(a1, .inr (2, [.int v1_from, .int v1_to, .int v1_ended, .int v1_next]))]) ⟨hx, hb, hml, hown, hts⟩ (c_Row_size l D Z kI a0 b0 n0 H.size f0 l0 o0 hr0) (cw_Row_size hts k_624 ⟨Nat.le_of_ble_eq_true rfl, Nat.le_of_ble_eq_true rfl⟩) hK hZ hP hD hS hA [1, 2] [0] (g_recv hK hP (ci := 4) (q0 := 1) rfl rfl) rfl rfl (by decide) (by decide) (by decide) rfl hl.1 rfl (Nat.le_of_ble_eq_true rfl) d_Line_step_72 ⟨Nat.zero_le _, Nat.zero_le _⟩ (fun r_4 u_4 H locs hw hP hD hS => ?_)
        have e_4 := hw
        subst e_4
        have hP : va_P D vwCl [(a1, .inr (2, [.int v1_from, .int v1_to, .int v1_ended, .int v1_next])), (a0, .inr (4, [.ref b0, .int (nI l0.length), .int o0])), (b0, .inl (kI, n0, .inl f0))] H := hP
        have hD : va_D A [(a1, .inr (2, [.int v1_from, .int v1_to, .int v1_ended, .int v1_next])), (a0, .inr (4, [.ref b0, .int (nI l0.length), .int o0])), (b0, .inl (kI, n0, .inl f0))] := hD
        refine lv_icmp_ge (tgt := 82) hx hb d_Line_step_75 (by decide) (fun c_5 => ?_) (fun c_5 => ?_)
        · rw [if_pos c_5] at hF
          refine lv_iconst (v := 0) hx hb d_Line_step_82 (by decide) ?_
          refine va_put (D := D) (ci := 2) (v := .int 0) (ty := .boolean) (C := "MailCharacters$Line") (T := F_Line) (N := 4) hx hb hts i_Line t_Line t_Line_ok n_Line hown hK hP hD hS 0 rfl rfl 2 (by decide) (hts _ k_148) (fun _ h9 => h9) rfl (by decide +kernel) rfl rfl (Nat.le_of_ble_eq_true rfl) d_Line_step_83 (fun H locs hP hD hS => ?_)
          have hP : va_P D vwCl [(a1, .inr (2, [.int v1_from, .int v1_to, .int 0, .int v1_next])), (a0, .inr (4, [.ref b0, .int (nI l0.length), .int o0])), (b0, .inl (kI, n0, .inl f0))] H := hP
          have hD : va_D A [(a1, .inr (2, [.int v1_from, .int v1_to, .int 0, .int v1_next])), (a0, .inr (4, [.ref b0, .int (nI l0.length), .int o0])), (b0, .inl (kI, n0, .inl f0))] := hD
          refine lv_aload_n hx hb d_Line_step_86 rfl (lv_at hl 0 rfl) ?_
          refine lv_aload_n hx hb d_Line_step_87 rfl (lv_at hl 0 rfl) ?_
          refine va_get (D := D) (ci := 2) (v := .int v1_to) (C := "MailCharacters$Line") (T := F_Line) (N := 4) hx hb hts i_Line hown hK hP 0 rfl rfl 1 (by decide) (hts _ k_146) (fun _ h9 => h9) rfl d_Line_step_88 ?_
          refine lv_iconst (v := 1) hx hb d_Line_step_91 (by decide) ?_
          refine lv_iadd hx hb d_Line_step_92 ?_
          refine va_put (D := D) (ci := 2) (v := .int (v1_to + 1)) (ty := .int) (C := "MailCharacters$Line") (T := F_Line) (N := 4) hx hb hts i_Line t_Line t_Line_ok n_Line hown hK hP hD hS 0 rfl rfl 3 (by decide) (hts _ k_150) (fun _ h9 => h9) rfl (by decide +kernel) rfl rfl (Nat.le_of_ble_eq_true rfl) d_Line_step_93 (fun H locs hP hD hS => ?_)
          have hP : va_P D vwCl [(a1, .inr (2, [.int v1_from, .int v1_to, .int 0, .int (v1_to + 1)])), (a0, .inr (4, [.ref b0, .int (nI l0.length), .int o0])), (b0, .inl (kI, n0, .inl f0))] H := hP
          have hD : va_D A [(a1, .inr (2, [.int v1_from, .int v1_to, .int 0, .int (v1_to + 1)])), (a0, .inr (4, [.ref b0, .int (nI l0.length), .int o0])), (b0, .inl (kI, n0, .inl f0))] := hD
          refine lv_aload_n hx hb d_Line_step_96 rfl (lv_at hl 0 rfl) ?_
          refine va_get (D := D) (ci := 2) (v := .int 0) (C := "MailCharacters$Line") (T := F_Line) (N := 4) hx hb hts i_Line hown hK hP 0 rfl rfl 2 (by decide) (hts _ k_148) (fun _ h9 => h9) rfl d_Line_step_97 ?_
          refine lv_if_eq (tgt := 139) hx hb d_Line_step_100 (by decide) (fun c_6 => ?_) (fun c_6 => ?_)
          · refine lv_iconst (v := 1) hx hb d_Line_step_139 (by decide) ?_
            exact hret 1 (v1_from, v1_to, 0, (v1_to + 1)) _ _ _ _ d_Line_step_140 rfl (hRES.symm.trans hF) (hP.sub [1, 2, 0] rfl) (hD.sub [1, 2, 0] (by decide) rfl) hS
          · exact absurd c_6 (by decide)
        · rw [if_neg c_5] at hF
          refine lv_iconst (v := 1) hx hb d_Line_step_78 (by decide) ?_
          refine lv_goto (tgt := 83) hx hb d_Line_step_79 (by decide) ?_
          refine va_put (D := D) (ci := 2) (v := .int 1) (ty := .boolean) (C := "MailCharacters$Line") (T := F_Line) (N := 4) hx hb hts i_Line t_Line t_Line_ok n_Line hown hK hP hD hS 0 rfl rfl 2 (by decide) (hts _ k_148) (fun _ h9 => h9) rfl (by decide +kernel) rfl rfl (Nat.le_of_ble_eq_true rfl) d_Line_step_83 (fun H locs hP hD hS => ?_)
          have hP : va_P D vwCl [(a1, .inr (2, [.int v1_from, .int v1_to, .int 1, .int v1_next])), (a0, .inr (4, [.ref b0, .int (nI l0.length), .int o0])), (b0, .inl (kI, n0, .inl f0))] H := hP
          have hD : va_D A [(a1, .inr (2, [.int v1_from, .int v1_to, .int 1, .int v1_next])), (a0, .inr (4, [.ref b0, .int (nI l0.length), .int o0])), (b0, .inl (kI, n0, .inl f0))] := hD
          refine lv_aload_n hx hb d_Line_step_86 rfl (lv_at hl 0 rfl) ?_
          refine lv_aload_n hx hb d_Line_step_87 rfl (lv_at hl 0 rfl) ?_
          refine va_get (D := D) (ci := 2) (v := .int v1_to) (C := "MailCharacters$Line") (T := F_Line) (N := 4) hx hb hts i_Line hown hK hP 0 rfl rfl 1 (by decide) (hts _ k_146) (fun _ h9 => h9) rfl d_Line_step_88 ?_
          refine lv_iconst (v := 1) hx hb d_Line_step_91 (by decide) ?_
          refine lv_iadd hx hb d_Line_step_92 ?_
          refine va_put (D := D) (ci := 2) (v := .int (v1_to + 1)) (ty := .int) (C := "MailCharacters$Line") (T := F_Line) (N := 4) hx hb hts i_Line t_Line t_Line_ok n_Line hown hK hP hD hS 0 rfl rfl 3 (by decide) (hts _ k_150) (fun _ h9 => h9) rfl (by decide +kernel) rfl rfl (Nat.le_of_ble_eq_true rfl) d_Line_step_93 (fun H locs hP hD hS => ?_)
          have hP : va_P D vwCl [(a1, .inr (2, [.int v1_from, .int v1_to, .int 1, .int (v1_to + 1)])), (a0, .inr (4, [.ref b0, .int (nI l0.length), .int o0])), (b0, .inl (kI, n0, .inl f0))] H := hP
          have hD : va_D A [(a1, .inr (2, [.int v1_from, .int v1_to, .int 1, .int (v1_to + 1)])), (a0, .inr (4, [.ref b0, .int (nI l0.length), .int o0])), (b0, .inl (kI, n0, .inl f0))] := hD
          refine lv_aload_n hx hb d_Line_step_96 rfl (lv_at hl 0 rfl) ?_
          refine va_get (D := D) (ci := 2) (v := .int 1) (C := "MailCharacters$Line") (T := F_Line) (N := 4) hx hb hts i_Line hown hK hP 0 rfl rfl 2 (by decide) (hts _ k_148) (fun _ h9 => h9) rfl d_Line_step_97 ?_
          refine lv_if_eq (tgt := 139) hx hb d_Line_step_100 (by decide) (fun c_7 => ?_) (fun c_7 => ?_)
          · exact absurd c_7 (by decide)
          · refine lv_aload_n hx hb d_Line_step_103 rfl (lv_at hl 0 rfl) ?_
            refine va_get (D := D) (ci := 2) (v := .int v1_to) (C := "MailCharacters$Line") (T := F_Line) (N := 4) hx hb hts i_Line hown hK hP 0 rfl rfl 1 (by decide) (hts _ k_146) (fun _ h9 => h9) rfl d_Line_step_104 ?_
            refine lv_aload_n hx hb d_Line_step_107 rfl (lv_at hl 0 rfl) ?_
            refine va_get (D := D) (ci := 2) (v := .int v1_from) (C := "MailCharacters$Line") (T := F_Line) (N := 4) hx hb hts i_Line hown hK hP 0 rfl rfl 0 (by decide) (hts _ k_144) (fun _ h9 => h9) rfl d_Line_step_108 ?_
            refine lv_icmp_le (tgt := 139) hx hb d_Line_step_111 (by decide) (fun c_8 => ?_) (fun c_8 => ?_)
            · rw [if_pos c_8] at hF
              refine lv_iconst (v := 1) hx hb d_Line_step_139 (by decide) ?_
              exact hret 1 (v1_from, v1_to, 1, (v1_to + 1)) _ _ _ _ d_Line_step_140 rfl (hRES.symm.trans hF) (hP.sub [1, 2, 0] rfl) (hD.sub [1, 2, 0] (by decide) rfl) hS
            · rw [if_neg c_8] at hF
              refine lv_aload_n hx hb d_Line_step_114 rfl (lv_at hl 1 rfl) ?_
              refine lv_aload_n hx hb d_Line_step_115 rfl (lv_at hl 0 rfl) ?_
              refine va_get (D := D) (ci := 2) (v := .int v1_to) (C := "MailCharacters$Line") (T := F_Line) (N := 4) hx hb hts i_Line hown hK hP 0 rfl rfl 1 (by decide) (hts _ k_146) (fun _ h9 => h9) rfl d_Line_step_116 ?_
              refine lv_iconst (v := 1) hx hb d_Line_step_119 (by decide) ?_
              refine lv_isub hx hb d_Line_step_120 ?_
              refine g_Vi (As := [.int (v1_to - 1)]) (rest := []) (wr := [(a1, .inr (2, [.int v1_from, .int v1_to, .int 1, .int (v1_to + 1)]))]) ⟨hx, hb, hml, hown, hts⟩ (c_Row_get l D Z kI a0 b0 n0 H.size f0 l0 o0 (v1_to - 1) hr0) (cw_Row_get hts k_625 ⟨Nat.le_of_ble_eq_true rfl, Nat.le_of_ble_eq_true rfl⟩) hK hZ hP hD hS hA [1, 2] [0] (g_recv hK hP (ci := 4) (q0 := 1) rfl rfl) rfl rfl (by decide) (by decide) (by decide) rfl hl.1 rfl (Nat.le_of_ble_eq_true rfl) d_Line_step_121 ⟨Nat.zero_le _, Nat.zero_le _⟩ (fun r_9 u_9 H locs hw hP hD hS => ?_)
              have e_9 := hw
              subst e_9
              have hP : va_P D vwCl [(a1, .inr (2, [.int v1_from, .int v1_to, .int 1, .int (v1_to + 1)])), (a0, .inr (4, [.ref b0, .int (nI l0.length), .int o0])), (b0, .inl (kI, n0, .inl f0))] H := hP
              have hD : va_D A [(a1, .inr (2, [.int v1_from, .int v1_to, .int 1, .int (v1_to + 1)])), (a0, .inr (4, [.ref b0, .int (nI l0.length), .int o0])), (b0, .inl (kI, n0, .inl f0))] := hD
              refine lv_bipush (v := 13) hx hb d_Line_step_124 (by decide) ?_
              refine lv_icmp_ne (tgt := 139) hx hb d_Line_step_126 (by decide) (fun c_10 => ?_) (fun c_10 => ?_)
              · rw [if_neg c_10] at hF
                refine lv_iconst (v := 1) hx hb d_Line_step_139 (by decide) ?_
                exact hret 1 (v1_from, v1_to, 1, (v1_to + 1)) _ _ _ _ d_Line_step_140 rfl (hRES.symm.trans hF) (hP.sub [1, 2, 0] rfl) (hD.sub [1, 2, 0] (by decide) rfl) hS
              · rw [if_pos c_10] at hF
                refine lv_aload_n hx hb d_Line_step_129 rfl (lv_at hl 0 rfl) ?_
                refine lv_dup hx hb d_Line_step_130 rfl ?_
                refine va_get (D := D) (ci := 2) (v := .int v1_to) (C := "MailCharacters$Line") (T := F_Line) (N := 4) hx hb hts i_Line hown hK hP 0 rfl rfl 1 (by decide) (hts _ k_146) (fun _ h9 => h9) rfl d_Line_step_131 ?_
                refine lv_iconst (v := 1) hx hb d_Line_step_134 (by decide) ?_
                refine lv_isub hx hb d_Line_step_135 ?_
                refine va_put (D := D) (ci := 2) (v := .int (v1_to - 1)) (ty := .int) (C := "MailCharacters$Line") (T := F_Line) (N := 4) hx hb hts i_Line t_Line t_Line_ok n_Line hown hK hP hD hS 0 rfl rfl 1 (by decide) (hts _ k_146) (fun _ h9 => h9) rfl (by decide +kernel) rfl rfl (Nat.le_of_ble_eq_true rfl) d_Line_step_136 (fun H locs hP hD hS => ?_)
                have hP : va_P D vwCl [(a1, .inr (2, [.int v1_from, .int (v1_to - 1), .int 1, .int (v1_to + 1)])), (a0, .inr (4, [.ref b0, .int (nI l0.length), .int o0])), (b0, .inl (kI, n0, .inl f0))] H := hP
                have hD : va_D A [(a1, .inr (2, [.int v1_from, .int (v1_to - 1), .int 1, .int (v1_to + 1)])), (a0, .inr (4, [.ref b0, .int (nI l0.length), .int o0])), (b0, .inl (kI, n0, .inl f0))] := hD
                refine lv_iconst (v := 1) hx hb d_Line_step_139 (by decide) ?_
                exact hret 1 (v1_from, (v1_to - 1), 1, (v1_to + 1)) _ _ _ _ d_Line_step_140 rfl (hRES.symm.trans hF) (hP.sub [1, 2, 0] rfl) (hD.sub [1, 2, 0] (by decide) rfl) hS
      · rw [if_neg c_3] at hF
        refine lv_aload_n hx hb d_Line_step_42 rfl (lv_at hl 1 rfl) ?_
        refine lv_iload_n hx hb d_Line_step_43 rfl (lv_at hl 2 rfl) ?_
        refine g_Vi (As := [.int i2]) (rest := []) (wr := [(a1, .inr (2, [.int v1_from, .int v1_to, .int v1_ended, .int v1_next]))]) ⟨hx, hb, hml, hown, hts⟩ (c_Row_get l D Z kI a0 b0 n0 H.size f0 l0 o0 i2 hr0) (cw_Row_get hts k_625 ⟨Nat.le_of_ble_eq_true rfl, Nat.le_of_ble_eq_true rfl⟩) hK hZ hP hD hS hA [1, 2] [0] (g_recv hK hP (ci := 4) (q0 := 1) rfl rfl) rfl rfl (by decide) (by decide) (by decide) rfl hl.1 rfl (Nat.le_of_ble_eq_true rfl) d_Line_step_44 ⟨Nat.zero_le _, Nat.zero_le _⟩ (fun r_11 u_11 H locs hw hP hD hS => ?_)
        have e_11 := hw
        subst e_11
        have hP : va_P D vwCl [(a1, .inr (2, [.int v1_from, .int v1_to, .int v1_ended, .int v1_next])), (a0, .inr (4, [.ref b0, .int (nI l0.length), .int o0])), (b0, .inl (kI, n0, .inl f0))] H := hP
        have hD : va_D A [(a1, .inr (2, [.int v1_from, .int v1_to, .int v1_ended, .int v1_next])), (a0, .inr (4, [.ref b0, .int (nI l0.length), .int o0])), (b0, .inl (kI, n0, .inl f0))] := hD
        refine lv_bipush (v := 10) hx hb d_Line_step_47 (by decide) ?_
        refine lv_icmp_ne (tgt := 60) hx hb d_Line_step_49 (by decide) (fun c_12 => ?_) (fun c_12 => ?_)
        · rw [if_neg c_12] at hF
          refine lv_iinc (v := (i2 + 1)) (lv' := [(2, .int (i2 + 1)), (0, .ref a1), (1, .ref a0)]) hx hb d_Line_step_60 hl (k := 2) rfl rfl (by decide) rfl (fun ls hl => ?_)
          refine lv_goto (tgt := 34) hx hb d_Line_step_63 (by decide) ?_
          exact ih34 (i2 + 1) v1_from v1_to v1_ended v1_next  _ _ _  (Nat.lt_of_lt_of_le (g_dec1 c_3) (Nat.le_of_lt_succ hn34)) hF (hP.sub [1, 2, 0] rfl) (hD.sub [1, 2, 0] (by decide) rfl) hS (lv_sub hl [1, 2, 0] rfl)
        · rw [if_pos c_12] at hF
          refine lv_aload_n hx hb d_Line_step_52 rfl (lv_at hl 0 rfl) ?_
          refine lv_iload_n hx hb d_Line_step_53 rfl (lv_at hl 2 rfl) ?_
          refine va_put (D := D) (ci := 2) (v := .int i2) (ty := .int) (C := "MailCharacters$Line") (T := F_Line) (N := 4) hx hb hts i_Line t_Line t_Line_ok n_Line hown hK hP hD hS 0 rfl rfl 1 (by decide) (hts _ k_146) (fun _ h9 => h9) rfl (by decide +kernel) rfl rfl (Nat.le_of_ble_eq_true rfl) d_Line_step_54 (fun H locs hP hD hS => ?_)
          have hP : va_P D vwCl [(a1, .inr (2, [.int v1_from, .int i2, .int v1_ended, .int v1_next])), (a0, .inr (4, [.ref b0, .int (nI l0.length), .int o0])), (b0, .inl (kI, n0, .inl f0))] H := hP
          have hD : va_D A [(a1, .inr (2, [.int v1_from, .int i2, .int v1_ended, .int v1_next])), (a0, .inr (4, [.ref b0, .int (nI l0.length), .int o0])), (b0, .inl (kI, n0, .inl f0))] := hD
          refine lv_goto (tgt := 66) hx hb d_Line_step_57 (by decide) ?_
          refine lv_aload_n hx hb d_Line_step_66 rfl (lv_at hl 0 rfl) ?_
          refine lv_aload_n hx hb d_Line_step_67 rfl (lv_at hl 0 rfl) ?_
          refine va_get (D := D) (ci := 2) (v := .int i2) (C := "MailCharacters$Line") (T := F_Line) (N := 4) hx hb hts i_Line hown hK hP 0 rfl rfl 1 (by decide) (hts _ k_146) (fun _ h9 => h9) rfl d_Line_step_68 ?_
          refine lv_aload_n hx hb d_Line_step_71 rfl (lv_at hl 1 rfl) ?_
          refine g_Vi (As := []) (rest := [.int i2, .ref a1]) (wr := [(a1, .inr (2, [.int v1_from, .int i2, .int v1_ended, .int v1_next]))]) ⟨hx, hb, hml, hown, hts⟩ (c_Row_size l D Z kI a0 b0 n0 H.size f0 l0 o0 hr0) (cw_Row_size hts k_624 ⟨Nat.le_of_ble_eq_true rfl, Nat.le_of_ble_eq_true rfl⟩) hK hZ hP hD hS hA [1, 2] [0] (g_recv hK hP (ci := 4) (q0 := 1) rfl rfl) rfl rfl (by decide) (by decide) (by decide) rfl hl.1 rfl (Nat.le_of_ble_eq_true rfl) d_Line_step_72 ⟨Nat.zero_le _, Nat.zero_le _⟩ (fun r_13 u_13 H locs hw hP hD hS => ?_)
          have e_13 := hw
          subst e_13
          have hP : va_P D vwCl [(a1, .inr (2, [.int v1_from, .int i2, .int v1_ended, .int v1_next])), (a0, .inr (4, [.ref b0, .int (nI l0.length), .int o0])), (b0, .inl (kI, n0, .inl f0))] H := hP
          have hD : va_D A [(a1, .inr (2, [.int v1_from, .int i2, .int v1_ended, .int v1_next])), (a0, .inr (4, [.ref b0, .int (nI l0.length), .int o0])), (b0, .inl (kI, n0, .inl f0))] := hD
          refine lv_icmp_ge (tgt := 82) hx hb d_Line_step_75 (by decide) (fun c_14 => ?_) (fun c_14 => ?_)
          · exact absurd c_14 c_3
          · refine lv_iconst (v := 1) hx hb d_Line_step_78 (by decide) ?_
            refine lv_goto (tgt := 83) hx hb d_Line_step_79 (by decide) ?_
            refine va_put (D := D) (ci := 2) (v := .int 1) (ty := .boolean) (C := "MailCharacters$Line") (T := F_Line) (N := 4) hx hb hts i_Line t_Line t_Line_ok n_Line hown hK hP hD hS 0 rfl rfl 2 (by decide) (hts _ k_148) (fun _ h9 => h9) rfl (by decide +kernel) rfl rfl (Nat.le_of_ble_eq_true rfl) d_Line_step_83 (fun H locs hP hD hS => ?_)
            have hP : va_P D vwCl [(a1, .inr (2, [.int v1_from, .int i2, .int 1, .int v1_next])), (a0, .inr (4, [.ref b0, .int (nI l0.length), .int o0])), (b0, .inl (kI, n0, .inl f0))] H := hP
            have hD : va_D A [(a1, .inr (2, [.int v1_from, .int i2, .int 1, .int v1_next])), (a0, .inr (4, [.ref b0, .int (nI l0.length), .int o0])), (b0, .inl (kI, n0, .inl f0))] := hD
            refine lv_aload_n hx hb d_Line_step_86 rfl (lv_at hl 0 rfl) ?_
            refine lv_aload_n hx hb d_Line_step_87 rfl (lv_at hl 0 rfl) ?_
            refine va_get (D := D) (ci := 2) (v := .int i2) (C := "MailCharacters$Line") (T := F_Line) (N := 4) hx hb hts i_Line hown hK hP 0 rfl rfl 1 (by decide) (hts _ k_146) (fun _ h9 => h9) rfl d_Line_step_88 ?_
            refine lv_iconst (v := 1) hx hb d_Line_step_91 (by decide) ?_
            refine lv_iadd hx hb d_Line_step_92 ?_
            refine va_put (D := D) (ci := 2) (v := .int (i2 + 1)) (ty := .int) (C := "MailCharacters$Line") (T := F_Line) (N := 4) hx hb hts i_Line t_Line t_Line_ok n_Line hown hK hP hD hS 0 rfl rfl 3 (by decide) (hts _ k_150) (fun _ h9 => h9) rfl (by decide +kernel) rfl rfl (Nat.le_of_ble_eq_true rfl) d_Line_step_93 (fun H locs hP hD hS => ?_)
            have hP : va_P D vwCl [(a1, .inr (2, [.int v1_from, .int i2, .int 1, .int (i2 + 1)])), (a0, .inr (4, [.ref b0, .int (nI l0.length), .int o0])), (b0, .inl (kI, n0, .inl f0))] H := hP
            have hD : va_D A [(a1, .inr (2, [.int v1_from, .int i2, .int 1, .int (i2 + 1)])), (a0, .inr (4, [.ref b0, .int (nI l0.length), .int o0])), (b0, .inl (kI, n0, .inl f0))] := hD
            refine lv_aload_n hx hb d_Line_step_96 rfl (lv_at hl 0 rfl) ?_
            refine va_get (D := D) (ci := 2) (v := .int 1) (C := "MailCharacters$Line") (T := F_Line) (N := 4) hx hb hts i_Line hown hK hP 0 rfl rfl 2 (by decide) (hts _ k_148) (fun _ h9 => h9) rfl d_Line_step_97 ?_
            refine lv_if_eq (tgt := 139) hx hb d_Line_step_100 (by decide) (fun c_15 => ?_) (fun c_15 => ?_)
            · exact absurd c_15 (by decide)
            · refine lv_aload_n hx hb d_Line_step_103 rfl (lv_at hl 0 rfl) ?_
              refine va_get (D := D) (ci := 2) (v := .int i2) (C := "MailCharacters$Line") (T := F_Line) (N := 4) hx hb hts i_Line hown hK hP 0 rfl rfl 1 (by decide) (hts _ k_146) (fun _ h9 => h9) rfl d_Line_step_104 ?_
              refine lv_aload_n hx hb d_Line_step_107 rfl (lv_at hl 0 rfl) ?_
              refine va_get (D := D) (ci := 2) (v := .int v1_from) (C := "MailCharacters$Line") (T := F_Line) (N := 4) hx hb hts i_Line hown hK hP 0 rfl rfl 0 (by decide) (hts _ k_144) (fun _ h9 => h9) rfl d_Line_step_108 ?_
              refine lv_icmp_le (tgt := 139) hx hb d_Line_step_111 (by decide) (fun c_16 => ?_) (fun c_16 => ?_)
              · rw [if_pos c_16] at hF
                refine lv_iconst (v := 1) hx hb d_Line_step_139 (by decide) ?_
                exact hret 1 (v1_from, i2, 1, (i2 + 1)) _ _ _ _ d_Line_step_140 rfl (hRES.symm.trans hF) (hP.sub [1, 2, 0] rfl) (hD.sub [1, 2, 0] (by decide) rfl) hS
              · rw [if_neg c_16] at hF
                refine lv_aload_n hx hb d_Line_step_114 rfl (lv_at hl 1 rfl) ?_
                refine lv_aload_n hx hb d_Line_step_115 rfl (lv_at hl 0 rfl) ?_
                refine va_get (D := D) (ci := 2) (v := .int i2) (C := "MailCharacters$Line") (T := F_Line) (N := 4) hx hb hts i_Line hown hK hP 0 rfl rfl 1 (by decide) (hts _ k_146) (fun _ h9 => h9) rfl d_Line_step_116 ?_
                refine lv_iconst (v := 1) hx hb d_Line_step_119 (by decide) ?_
                refine lv_isub hx hb d_Line_step_120 ?_
                refine g_Vi (As := [.int (i2 - 1)]) (rest := []) (wr := [(a1, .inr (2, [.int v1_from, .int i2, .int 1, .int (i2 + 1)]))]) ⟨hx, hb, hml, hown, hts⟩ (c_Row_get l D Z kI a0 b0 n0 H.size f0 l0 o0 (i2 - 1) hr0) (cw_Row_get hts k_625 ⟨Nat.le_of_ble_eq_true rfl, Nat.le_of_ble_eq_true rfl⟩) hK hZ hP hD hS hA [1, 2] [0] (g_recv hK hP (ci := 4) (q0 := 1) rfl rfl) rfl rfl (by decide) (by decide) (by decide) rfl hl.1 rfl (Nat.le_of_ble_eq_true rfl) d_Line_step_121 ⟨Nat.zero_le _, Nat.zero_le _⟩ (fun r_17 u_17 H locs hw hP hD hS => ?_)
                have e_17 := hw
                subst e_17
                have hP : va_P D vwCl [(a1, .inr (2, [.int v1_from, .int i2, .int 1, .int (i2 + 1)])), (a0, .inr (4, [.ref b0, .int (nI l0.length), .int o0])), (b0, .inl (kI, n0, .inl f0))] H := hP
                have hD : va_D A [(a1, .inr (2, [.int v1_from, .int i2, .int 1, .int (i2 + 1)])), (a0, .inr (4, [.ref b0, .int (nI l0.length), .int o0])), (b0, .inl (kI, n0, .inl f0))] := hD
                refine lv_bipush (v := 13) hx hb d_Line_step_124 (by decide) ?_
                refine lv_icmp_ne (tgt := 139) hx hb d_Line_step_126 (by decide) (fun c_18 => ?_) (fun c_18 => ?_)
                · rw [if_neg c_18] at hF
                  refine lv_iconst (v := 1) hx hb d_Line_step_139 (by decide) ?_
                  exact hret 1 (v1_from, i2, 1, (i2 + 1)) _ _ _ _ d_Line_step_140 rfl (hRES.symm.trans hF) (hP.sub [1, 2, 0] rfl) (hD.sub [1, 2, 0] (by decide) rfl) hS
                · rw [if_pos c_18] at hF
                  refine lv_aload_n hx hb d_Line_step_129 rfl (lv_at hl 0 rfl) ?_
                  refine lv_dup hx hb d_Line_step_130 rfl ?_
                  refine va_get (D := D) (ci := 2) (v := .int i2) (C := "MailCharacters$Line") (T := F_Line) (N := 4) hx hb hts i_Line hown hK hP 0 rfl rfl 1 (by decide) (hts _ k_146) (fun _ h9 => h9) rfl d_Line_step_131 ?_
                  refine lv_iconst (v := 1) hx hb d_Line_step_134 (by decide) ?_
                  refine lv_isub hx hb d_Line_step_135 ?_
                  refine va_put (D := D) (ci := 2) (v := .int (i2 - 1)) (ty := .int) (C := "MailCharacters$Line") (T := F_Line) (N := 4) hx hb hts i_Line t_Line t_Line_ok n_Line hown hK hP hD hS 0 rfl rfl 1 (by decide) (hts _ k_146) (fun _ h9 => h9) rfl (by decide +kernel) rfl rfl (Nat.le_of_ble_eq_true rfl) d_Line_step_136 (fun H locs hP hD hS => ?_)
                  have hP : va_P D vwCl [(a1, .inr (2, [.int v1_from, .int (i2 - 1), .int 1, .int (i2 + 1)])), (a0, .inr (4, [.ref b0, .int (nI l0.length), .int o0])), (b0, .inl (kI, n0, .inl f0))] H := hP
                  have hD : va_D A [(a1, .inr (2, [.int v1_from, .int (i2 - 1), .int 1, .int (i2 + 1)])), (a0, .inr (4, [.ref b0, .int (nI l0.length), .int o0])), (b0, .inl (kI, n0, .inl f0))] := hD
                  refine lv_iconst (v := 1) hx hb d_Line_step_139 (by decide) ?_
                  exact hret 1 (v1_from, (i2 - 1), 1, (i2 + 1)) _ _ _ _ d_Line_step_140 rfl (hRES.symm.trans hF) (hP.sub [1, 2, 0] rfl) (hD.sub [1, 2, 0] (by decide) rfl) hS
  have hF := hRES
  rw [m_Line_step] at hF
  refine lv_aload_n hx hb d_Line_step_0 rfl (lv_at hl 0 rfl) ?_
  refine va_get (D := D) (ci := 2) (v := .int v1_next) (C := "MailCharacters$Line") (T := F_Line) (N := 4) hx hb hts i_Line hown hK hP 2 rfl rfl 3 (by decide) (hts _ k_150) (fun _ h9 => h9) rfl d_Line_step_1 ?_
  refine lv_aload_n hx hb d_Line_step_4 rfl (lv_at hl 1 rfl) ?_
  refine g_Vi (As := []) (rest := [.int v1_next]) (wr := [(a1, .inr (2, [.int v1_from, .int v1_to, .int v1_ended, .int v1_next]))]) ⟨hx, hb, hml, hown, hts⟩ (c_Row_size l D Z kI a0 b0 n0 H.size f0 l0 o0 hr0) (cw_Row_size hts k_624 ⟨Nat.le_of_ble_eq_true rfl, Nat.le_of_ble_eq_true rfl⟩) hK hZ hP hD hS hA [0, 1] [2] (g_recv hK hP (ci := 4) (q0 := 0) rfl rfl) rfl rfl (by decide) (by decide) (by decide) rfl hl.1 rfl (Nat.le_of_ble_eq_true rfl) d_Line_step_5 ⟨Nat.zero_le _, Nat.zero_le _⟩ (fun r_19 u_19 H locs hw hP hD hS => ?_)
  have e_19 := hw
  subst e_19
  have hP : va_P D vwCl [(a1, .inr (2, [.int v1_from, .int v1_to, .int v1_ended, .int v1_next])), (a0, .inr (4, [.ref b0, .int (nI l0.length), .int o0])), (b0, .inl (kI, n0, .inl f0))] H := hP
  have hD : va_D A [(a1, .inr (2, [.int v1_from, .int v1_to, .int v1_ended, .int v1_next])), (a0, .inr (4, [.ref b0, .int (nI l0.length), .int o0])), (b0, .inl (kI, n0, .inl f0))] := hD
  refine lv_icmp_lt (tgt := 13) hx hb d_Line_step_8 (by decide) (fun c_20 => ?_) (fun c_20 => ?_)
  · rw [if_pos c_20] at hF
    refine lv_aload_n hx hb d_Line_step_13 rfl (lv_at hl 0 rfl) ?_
    refine lv_aload_n hx hb d_Line_step_14 rfl (lv_at hl 0 rfl) ?_
    refine va_get (D := D) (ci := 2) (v := .int v1_next) (C := "MailCharacters$Line") (T := F_Line) (N := 4) hx hb hts i_Line hown hK hP 0 rfl rfl 3 (by decide) (hts _ k_150) (fun _ h9 => h9) rfl d_Line_step_15 ?_
    refine va_put (D := D) (ci := 2) (v := .int v1_next) (ty := .int) (C := "MailCharacters$Line") (T := F_Line) (N := 4) hx hb hts i_Line t_Line t_Line_ok n_Line hown hK hP hD hS 0 rfl rfl 0 (by decide) (hts _ k_144) (fun _ h9 => h9) rfl (by decide +kernel) rfl rfl (Nat.le_of_ble_eq_true rfl) d_Line_step_18 (fun H locs hP hD hS => ?_)
    have hP : va_P D vwCl [(a1, .inr (2, [.int v1_next, .int v1_to, .int v1_ended, .int v1_next])), (a0, .inr (4, [.ref b0, .int (nI l0.length), .int o0])), (b0, .inl (kI, n0, .inl f0))] H := hP
    have hD : va_D A [(a1, .inr (2, [.int v1_next, .int v1_to, .int v1_ended, .int v1_next])), (a0, .inr (4, [.ref b0, .int (nI l0.length), .int o0])), (b0, .inl (kI, n0, .inl f0))] := hD
    refine lv_aload_n hx hb d_Line_step_21 rfl (lv_at hl 0 rfl) ?_
    refine lv_aload_n hx hb d_Line_step_22 rfl (lv_at hl 1 rfl) ?_
    refine g_Vi (As := []) (rest := [.ref a1]) (wr := [(a1, .inr (2, [.int v1_next, .int v1_to, .int v1_ended, .int v1_next]))]) ⟨hx, hb, hml, hown, hts⟩ (c_Row_size l D Z kI a0 b0 n0 H.size f0 l0 o0 hr0) (cw_Row_size hts k_624 ⟨Nat.le_of_ble_eq_true rfl, Nat.le_of_ble_eq_true rfl⟩) hK hZ hP hD hS hA [1, 2] [0] (g_recv hK hP (ci := 4) (q0 := 1) rfl rfl) rfl rfl (by decide) (by decide) (by decide) rfl hl.1 rfl (Nat.le_of_ble_eq_true rfl) d_Line_step_23 ⟨Nat.zero_le _, Nat.zero_le _⟩ (fun r_21 u_21 H locs hw hP hD hS => ?_)
    have e_21 := hw
    subst e_21
    have hP : va_P D vwCl [(a1, .inr (2, [.int v1_next, .int v1_to, .int v1_ended, .int v1_next])), (a0, .inr (4, [.ref b0, .int (nI l0.length), .int o0])), (b0, .inl (kI, n0, .inl f0))] H := hP
    have hD : va_D A [(a1, .inr (2, [.int v1_next, .int v1_to, .int v1_ended, .int v1_next])), (a0, .inr (4, [.ref b0, .int (nI l0.length), .int o0])), (b0, .inl (kI, n0, .inl f0))] := hD
    refine va_put (D := D) (ci := 2) (v := .int (m_Row_size l0)) (ty := .int) (C := "MailCharacters$Line") (T := F_Line) (N := 4) hx hb hts i_Line t_Line t_Line_ok n_Line hown hK hP hD hS 0 rfl rfl 1 (by decide) (hts _ k_146) (fun _ h9 => h9) rfl (by decide +kernel) rfl rfl (Nat.le_of_ble_eq_true rfl) d_Line_step_26 (fun H locs hP hD hS => ?_)
    have hP : va_P D vwCl [(a1, .inr (2, [.int v1_next, .int (m_Row_size l0), .int v1_ended, .int v1_next])), (a0, .inr (4, [.ref b0, .int (nI l0.length), .int o0])), (b0, .inl (kI, n0, .inl f0))] H := hP
    have hD : va_D A [(a1, .inr (2, [.int v1_next, .int (m_Row_size l0), .int v1_ended, .int v1_next])), (a0, .inr (4, [.ref b0, .int (nI l0.length), .int o0])), (b0, .inl (kI, n0, .inl f0))] := hD
    refine lv_aload_n hx hb d_Line_step_29 rfl (lv_at hl 0 rfl) ?_
    refine va_get (D := D) (ci := 2) (v := .int v1_next) (C := "MailCharacters$Line") (T := F_Line) (N := 4) hx hb hts i_Line hown hK hP 0 rfl rfl 0 (by decide) (hts _ k_144) (fun _ h9 => h9) rfl d_Line_step_30 ?_
    refine lv_istore_n (lv' := [(2, .int v1_next), (0, .ref a1), (1, .ref a0)]) hx hb d_Line_step_33 rfl hl (by decide) rfl (fun ls hl => ?_)
    exact lp34 (((m_Row_size l0).toInt - v1_next.toInt).toNat + 1) v1_next v1_next (m_Row_size l0) v1_ended v1_next  _ _ _  (Nat.lt_succ_self _) hF (hP.sub [1, 2, 0] rfl) (hD.sub [1, 2, 0] (by decide) rfl) hS (lv_sub hl [1, 2, 0] rfl)
  · rw [if_neg c_20] at hF
    refine lv_iconst (v := 0) hx hb d_Line_step_11 (by decide) ?_
    exact hret 0 (v1_from, v1_to, v1_ended, v1_next) _ _ _ _ d_Line_step_12 rfl (hRES.symm.trans hF) (hP.sub [1, 2, 0] rfl) (hD.sub [1, 2, 0] (by decide) rfl) hS
theorem cw_Line_step {R : Room} {s : State} {args : Array Value} {own : String} {idx : Nat} (hts : ∀ w ∈ gW, w.before args s = true) (hl : Cond.methodLink own idx y_Line_step ∈ gW) (hR : rm_Line_step.frames + 1 ≤ R.frames ∧ 8 + (3 + 11) + rm_Line_step.locals ≤ R.locals) : CallW R s args own "MailCharacters$Line" idx y_Line_step b_Line_step 3 (some .boolean) w_Line_step rm_Line_step 0 0 1 := cwV 1 hts (gW_V hl k_621 k_622 k_72 k_623) rfl rfl rfl (by decide +kernel) hR
