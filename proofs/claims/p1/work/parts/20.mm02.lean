def rm_MM_isCharset_5 : Room := { frames := 0, cells := 0, slots := 0, locals := 0 }
set_option maxHeartbeats 4000000 in
set_option maxRecDepth 100000 in
theorem c_MM_isCharset_5 (l : Launch) (D : va_G) (Z : gZT) (kI : ClassId) (sz : Nat) : gMi l y_MM_isCharset w_MM_isCharset rm_MM_isCharset_5 D Z kI [.int 5] sz ([] : va_W) (fun (r : Int32) (_u : Unit) => r = 1) (fun (_u : Unit) => ([] : va_W)) := by
  refine g_ofi (cc := b_MM_isCharset) (maxL := 1) (ty := .boolean) (by decide) rfl (Nat.le_of_ble_eq_true rfl) ?_
  intro p e s m below meth c A Q H ls hx hb hml hown hts hA hK hZ hP hD hS hl hret
  have hown : s.vm.findClass "MailCharactersModel" = some m.cls := hown
  have hl : lv_has ls 1 [(0, .int 5)] := hl
  refine lv_iload_n hx hb d_MM_isCharset_0 rfl (lv_at hl 0 rfl) ?_
  refine lv_if_lt (tgt := 14) hx hb d_MM_isCharset_1 (by decide) (fun h9 => absurd h9 (by decide +kernel)) (fun _ => ?_)
  refine lv_iload_n hx hb d_MM_isCharset_4 rfl (lv_at hl 0 rfl) ?_
  refine lv_bipush (v := 9) hx hb d_MM_isCharset_5 (by decide) ?_
  refine lv_icmp_gt (tgt := 14) hx hb d_MM_isCharset_7 (by decide) (fun h9 => absurd h9 (by decide +kernel)) (fun _ => ?_)
  refine lv_iconst (v := 1) hx hb d_MM_isCharset_10 (by decide) ?_
  refine lv_goto (tgt := 15) hx hb d_MM_isCharset_11 (by decide) ?_
  exact hret 1 () _ _ _ _ d_MM_isCharset_15 rfl rfl hP hD hS
theorem cw_MM_isCharset_5 {R : Room} {s : State} {args : Array Value} {own : String} {idx : Nat} (hts : ∀ w ∈ gW, w.before args s = true) (hl : Cond.methodLink own idx y_MM_isCharset ∈ gW) (hR : rm_MM_isCharset_5.frames + 1 ≤ R.frames ∧ 8 + (1 + 11) + rm_MM_isCharset_5.locals ≤ R.locals) : CallB R s args own idx y_MM_isCharset b_MM_isCharset 1 (some .boolean) w_MM_isCharset rm_MM_isCharset_5 0 0 1 ∧ (Cond.static y_MM_isCharset).before args s = true := va_cwS 1 hts (gW_S hl k_1032 k_77 k_1033) rfl rfl rfl (by decide +kernel) hR
def rm_MM_byteOf_0 : Room := { frames := 0, cells := 0, slots := 0, locals := 0 }
set_option maxHeartbeats 4000000 in
set_option maxRecDepth 100000 in
theorem c_MM_byteOf_0 (l : Launch) (D : va_G) (Z : gZT) (kI : ClassId) (a0 : Nat) (x0_nameHead : Nat) (x0_nameTail : Nat) (x0_nameOf : Nat) (x0_windows : Nat) (x0_koi : Nat) (x0_ready : Nat) (x0_tape : Nat) (x0_text : Nat) (x0_out : Nat) (x0_src : Nat) (sz : Nat) : gMi l y_MM_byteOf w_MM_byteOf rm_MM_byteOf_0 D Z kI [.ref a0, .int 0] sz [(a0, .inr (9, [.ref x0_nameHead, .ref x0_nameTail, .ref x0_nameOf, .ref x0_windows, .ref x0_koi, .int 0, .ref x0_ready, .ref x0_tape, .int 0, .ref x0_text, .int 0, .ref x0_out, .ref x0_src, .int 0, .int 0, .int 0, .int 0, .int 0, .int 0, .int 0, .int 0, .int 0, .int 0]))] (fun (r : Int32) (_u : Unit) => r = (-1)) (fun (_u : Unit) => ([(a0, .inr (9, [.ref x0_nameHead, .ref x0_nameTail, .ref x0_nameOf, .ref x0_windows, .ref x0_koi, .int 0, .ref x0_ready, .ref x0_tape, .int 0, .ref x0_text, .int 0, .ref x0_out, .ref x0_src, .int 0, .int 0, .int 0, .int 0, .int 0, .int 0, .int 0, .int 0, .int 0, .int 0]))] : va_W)) := by
  refine g_ofi (cc := b_MM_byteOf) (maxL := 2) (ty := .int) (by decide) rfl (Nat.le_of_ble_eq_true rfl) ?_
  intro p e s m below meth c A Q H ls hx hb hml hown hts hA hK hZ hP hD hS hl hret
  have hown : s.vm.findClass "MailCharactersModel" = some m.cls := hown
  have hl : lv_has ls 2 [(0, .ref a0), (1, .int 0)] := hl
  refine lv_iload_n hx hb d_MM_byteOf_0 rfl (lv_at hl 1 rfl) ?_
  refine lv_aload_n hx hb d_MM_byteOf_1 rfl (lv_at hl 0 rfl) ?_
  refine va_get (D := D) (ci := 9) (v := .int 0) (C := "MailCharactersModel") (T := F_MM) (N := 23) hx hb hts i_MM hown hK hP 0 rfl rfl 14 (by decide) (hts _ k_887) (fun _ h9 => h9) rfl d_MM_byteOf_2 ?_
  refine lv_icmp_ge (tgt := 21) hx hb d_MM_byteOf_5 (by decide) (fun _ => ?_) (fun h9 => absurd h9 (by decide +kernel))
  refine lv_iconst (v := (-1)) hx hb d_MM_byteOf_21 (by decide) ?_
  exact hret (-1) () _ _ _ _ d_MM_byteOf_22 rfl rfl hP hD hS
theorem cw_MM_byteOf_0 {R : Room} {s : State} {args : Array Value} {own : String} {idx : Nat} (hts : ∀ w ∈ gW, w.before args s = true) (hl : Cond.methodLink own idx y_MM_byteOf ∈ gW) (hR : rm_MM_byteOf_0.frames + 1 ≤ R.frames ∧ 8 + (2 + 11) + rm_MM_byteOf_0.locals ≤ R.locals) : CallW R s args own "MailCharactersModel" idx y_MM_byteOf b_MM_byteOf 2 (some .int) w_MM_byteOf rm_MM_byteOf_0 0 0 1 := cwV 1 hts (gW_V hl k_1048 k_41 k_77 k_1049) rfl rfl rfl (by decide +kernel) hR
def rm_MM_endUnits_0 : Room := { frames := 0, cells := 0, slots := 0, locals := 0 }
set_option maxHeartbeats 4000000 in
set_option maxRecDepth 100000 in
theorem c_MM_endUnits_0 (l : Launch) (D : va_G) (Z : gZT) (kI : ClassId) (a0 : Nat) (x0_nameHead : Nat) (x0_nameTail : Nat) (x0_nameOf : Nat) (x0_windows : Nat) (x0_koi : Nat) (x0_ready : Nat) (x0_tape : Nat) (x0_text : Nat) (x0_out : Nat) (x0_src : Nat) (sz : Nat) : gMv l y_MM_endUnits w_MM_endUnits rm_MM_endUnits_0 D Z kI [.ref a0] sz [(a0, .inr (9, [.ref x0_nameHead, .ref x0_nameTail, .ref x0_nameOf, .ref x0_windows, .ref x0_koi, .int 0, .ref x0_ready, .ref x0_tape, .int 0, .ref x0_text, .int 0, .ref x0_out, .ref x0_src, .int 0, .int 0, .int 0, .int 0, .int 0, .int 0, .int 0, .int 0, .int 0, .int 0]))] (fun (_u : Unit) => True) (fun (_u : Unit) => ([(a0, .inr (9, [.ref x0_nameHead, .ref x0_nameTail, .ref x0_nameOf, .ref x0_windows, .ref x0_koi, .int 0, .ref x0_ready, .ref x0_tape, .int 0, .ref x0_text, .int 0, .ref x0_out, .ref x0_src, .int 0, .int 0, .int 0, .int 0, .int 0, .int 0, .int 0, .int 0, .int 0, .int 0]))] : va_W)) := by
  refine g_ofv (cc := b_MM_endUnits) (maxL := 1) (by decide) rfl (Nat.le_of_ble_eq_true rfl) ?_
  intro p e s m below meth c A Q H ls hx hb hml hown hts hA hK hZ hP hD hS hl hret
  have hown : s.vm.findClass "MailCharactersModel" = some m.cls := hown
  have hl : lv_has ls 1 [(0, .ref a0)] := hl
  refine lv_aload_n hx hb d_MM_endUnits_0 rfl (lv_at hl 0 rfl) ?_
  refine va_get (D := D) (ci := 9) (v := .int 0) (C := "MailCharactersModel") (T := F_MM) (N := 23) hx hb hts i_MM hown hK hP 0 rfl rfl 18 (by decide) (hts _ k_891) (fun _ h9 => h9) rfl d_MM_endUnits_1 ?_
  refine lv_if_le (tgt := 13) hx hb d_MM_endUnits_4 (by decide) (fun _ => ?_) (fun h9 => absurd h9 (by decide +kernel))
  refine lv_aload_n hx hb d_MM_endUnits_13 rfl (lv_at hl 0 rfl) ?_
  refine lv_iconst (v := 0) hx hb d_MM_endUnits_14 (by decide) ?_
  refine va_put (D := D) (ci := 9) (v := .int 0) (ty := .int) (C := "MailCharactersModel") (T := F_MM) (N := 23) hx hb hts i_MM t_MM t_MM_ok n_MM hown hK hP hD hS 0 rfl rfl 18 (by decide) (hts _ k_891) (fun _ h9 => h9) rfl (by decide +kernel) rfl rfl (Nat.le_of_ble_eq_true rfl) d_MM_endUnits_15 (fun H locs hP hD hS => ?_)
  have hP : va_P D vwCl [(a0, .inr (9, [.ref x0_nameHead, .ref x0_nameTail, .ref x0_nameOf, .ref x0_windows, .ref x0_koi, .int 0, .ref x0_ready, .ref x0_tape, .int 0, .ref x0_text, .int 0, .ref x0_out, .ref x0_src, .int 0, .int 0, .int 0, .int 0, .int 0, .int 0, .int 0, .int 0, .int 0, .int 0]))] H := hP
  have hD : va_D A [(a0, .inr (9, [.ref x0_nameHead, .ref x0_nameTail, .ref x0_nameOf, .ref x0_windows, .ref x0_koi, .int 0, .ref x0_ready, .ref x0_tape, .int 0, .ref x0_text, .int 0, .ref x0_out, .ref x0_src, .int 0, .int 0, .int 0, .int 0, .int 0, .int 0, .int 0, .int 0, .int 0, .int 0]))] := hD
  exact hret () _ _ _ _ d_MM_endUnits_18 trivial hP hD hS
theorem cw_MM_endUnits_0 {R : Room} {s : State} {args : Array Value} {own : String} {idx : Nat} (hts : ∀ w ∈ gW, w.before args s = true) (hl : Cond.methodLink own idx y_MM_endUnits ∈ gW) (hR : rm_MM_endUnits_0.frames + 1 ≤ R.frames ∧ 8 + (1 + 11) + rm_MM_endUnits_0.locals ≤ R.locals) : CallW R s args own "MailCharactersModel" idx y_MM_endUnits b_MM_endUnits 1 none w_MM_endUnits rm_MM_endUnits_0 0 0 0 := cwV 0 hts (gW_V hl k_1071 k_45 k_77 k_1072) rfl rfl rfl (by decide +kernel) hR
def rm_MM_readUnits_0 : Room := { frames := 1, cells := 0, slots := 0, locals := 20 }
set_option maxHeartbeats 4000000 in
set_option maxRecDepth 100000 in
theorem c_MM_readUnits_0 (l : Launch) (D : va_G) (Z : gZT) (kI : ClassId) (a0 : Nat) (x0_nameHead : Nat) (x0_nameTail : Nat) (x0_nameOf : Nat) (x0_windows : Nat) (x0_koi : Nat) (x0_ready : Nat) (x0_tape : Nat) (x0_text : Nat) (x0_out : Nat) (x0_src : Nat) (sz : Nat) : gMv l y_MM_readUnits w_MM_readUnits rm_MM_readUnits_0 D Z kI [.ref a0, .int 0] sz [(a0, .inr (9, [.ref x0_nameHead, .ref x0_nameTail, .ref x0_nameOf, .ref x0_windows, .ref x0_koi, .int 0, .ref x0_ready, .ref x0_tape, .int 0, .ref x0_text, .int 0, .ref x0_out, .ref x0_src, .int 0, .int 0, .int 0, .int 0, .int 0, .int 0, .int 0, .int 0, .int 0, .int 0]))] (fun (_u : Unit) => True) (fun (_u : Unit) => ([(a0, .inr (9, [.ref x0_nameHead, .ref x0_nameTail, .ref x0_nameOf, .ref x0_windows, .ref x0_koi, .int 0, .ref x0_ready, .ref x0_tape, .int 0, .ref x0_text, .int 0, .ref x0_out, .ref x0_src, .int 0, .int 0, .int 0, .int 0, .int 0, .int 0, .int 0, .int 0, .int 0, .int 0]))] : va_W)) := by
  refine g_ofv (cc := b_MM_readUnits) (maxL := 4) (by decide) rfl (Nat.le_of_ble_eq_true rfl) ?_
  intro p e s m below meth c A Q H ls hx hb hml hown hts hA hK hZ hP hD hS hl hret
  have hown : s.vm.findClass "MailCharactersModel" = some m.cls := hown
  have hl : lv_has ls 4 [(0, .ref a0), (1, .int 0)] := hl
  refine lv_aload_n hx hb d_MM_readUnits_0 rfl (lv_at hl 0 rfl) ?_
  refine lv_iconst (v := 0) hx hb d_MM_readUnits_1 (by decide) ?_
  refine va_put (D := D) (ci := 9) (v := .int 0) (ty := .int) (C := "MailCharactersModel") (T := F_MM) (N := 23) hx hb hts i_MM t_MM t_MM_ok n_MM hown hK hP hD hS 0 rfl rfl 18 (by decide) (hts _ k_891) (fun _ h9 => h9) rfl (by decide +kernel) rfl rfl (Nat.le_of_ble_eq_true rfl) d_MM_readUnits_2 (fun H locs hP hD hS => ?_)
  have hP : va_P D vwCl [(a0, .inr (9, [.ref x0_nameHead, .ref x0_nameTail, .ref x0_nameOf, .ref x0_windows, .ref x0_koi, .int 0, .ref x0_ready, .ref x0_tape, .int 0, .ref x0_text, .int 0, .ref x0_out, .ref x0_src, .int 0, .int 0, .int 0, .int 0, .int 0, .int 0, .int 0, .int 0, .int 0, .int 0]))] H := hP
  have hD : va_D A [(a0, .inr (9, [.ref x0_nameHead, .ref x0_nameTail, .ref x0_nameOf, .ref x0_windows, .ref x0_koi, .int 0, .ref x0_ready, .ref x0_tape, .int 0, .ref x0_text, .int 0, .ref x0_out, .ref x0_src, .int 0, .int 0, .int 0, .int 0, .int 0, .int 0, .int 0, .int 0, .int 0, .int 0]))] := hD
  refine lv_aload_n hx hb d_MM_readUnits_5 rfl (lv_at hl 0 rfl) ?_
  refine va_get (D := D) (ci := 9) (v := .int 0) (C := "MailCharactersModel") (T := F_MM) (N := 23) hx hb hts i_MM hown hK hP 0 rfl rfl 15 (by decide) (hts _ k_888) (fun _ h9 => h9) rfl d_MM_readUnits_6 ?_
  refine lv_iconst (v := 1) hx hb d_MM_readUnits_9 (by decide) ?_
  refine lv_iadd hx hb d_MM_readUnits_10 ?_
  refine lv_topi (fun x_1 ex_1 => ?_)
  obtain rfl : x_1 = 1 := ex_1.trans (by decide)
  refine lv_aload_n hx hb d_MM_readUnits_11 rfl (lv_at hl 0 rfl) ?_
  refine va_get (D := D) (ci := 9) (v := .int 0) (C := "MailCharactersModel") (T := F_MM) (N := 23) hx hb hts i_MM hown hK hP 0 rfl rfl 14 (by decide) (hts _ k_887) (fun _ h9 => h9) rfl d_MM_readUnits_12 ?_
  refine lv_icmp_ge (tgt := 74) hx hb d_MM_readUnits_15 (by decide) (fun _ => ?_) (fun h9 => absurd h9 (by decide +kernel))
  refine lv_aload_n hx hb d_MM_readUnits_74 rfl (lv_at hl 0 rfl) ?_
  refine g_Vv (As := []) (rest := []) (wr := []) ⟨hx, hb, hml, hown, hts⟩ (c_MM_endUnits_0 l D Z kI a0 x0_nameHead x0_nameTail x0_nameOf x0_windows x0_koi x0_ready x0_tape x0_text x0_out x0_src H.size) (cw_MM_endUnits_0 hts k_1069 ⟨Nat.le_of_ble_eq_true rfl, Nat.le_of_ble_eq_true rfl⟩) hK hZ hP hD hS hA [0] [] (g_recv hK hP (ci := 9) (q0 := 0) rfl rfl) rfl rfl (by decide) (by decide) (by decide) rfl hl.1 rfl (Nat.le_of_ble_eq_true rfl) d_MM_readUnits_75 ⟨Nat.zero_le _, Nat.zero_le _⟩ (fun u_2 H locs hw hP hD hS => ?_)
  have hP : va_P D vwCl [(a0, .inr (9, [.ref x0_nameHead, .ref x0_nameTail, .ref x0_nameOf, .ref x0_windows, .ref x0_koi, .int 0, .ref x0_ready, .ref x0_tape, .int 0, .ref x0_text, .int 0, .ref x0_out, .ref x0_src, .int 0, .int 0, .int 0, .int 0, .int 0, .int 0, .int 0, .int 0, .int 0, .int 0]))] H := hP
  have hD : va_D A [(a0, .inr (9, [.ref x0_nameHead, .ref x0_nameTail, .ref x0_nameOf, .ref x0_windows, .ref x0_koi, .int 0, .ref x0_ready, .ref x0_tape, .int 0, .ref x0_text, .int 0, .ref x0_out, .ref x0_src, .int 0, .int 0, .int 0, .int 0, .int 0, .int 0, .int 0, .int 0, .int 0, .int 0]))] := hD
  refine lv_aload_n hx hb d_MM_readUnits_78 rfl (lv_at hl 0 rfl) ?_
  refine va_get (D := D) (ci := 9) (v := .int 0) (C := "MailCharactersModel") (T := F_MM) (N := 23) hx hb hts i_MM hown hK hP 0 rfl rfl 15 (by decide) (hts _ k_888) (fun _ h9 => h9) rfl d_MM_readUnits_79 ?_
  refine lv_aload_n hx hb d_MM_readUnits_82 rfl (lv_at hl 0 rfl) ?_
  refine va_get (D := D) (ci := 9) (v := .int 0) (C := "MailCharactersModel") (T := F_MM) (N := 23) hx hb hts i_MM hown hK hP 0 rfl rfl 14 (by decide) (hts _ k_887) (fun _ h9 => h9) rfl d_MM_readUnits_83 ?_
  refine lv_icmp_ge (tgt := 105) hx hb d_MM_readUnits_86 (by decide) (fun _ => ?_) (fun h9 => absurd h9 (by decide +kernel))
  exact hret () _ _ _ _ d_MM_readUnits_105 trivial hP hD hS
theorem cw_MM_readUnits_0 {R : Room} {s : State} {args : Array Value} {own : String} {idx : Nat} (hts : ∀ w ∈ gW, w.before args s = true) (hl : Cond.methodLink own idx y_MM_readUnits ∈ gW) (hR : rm_MM_readUnits_0.frames + 1 ≤ R.frames ∧ 8 + (4 + 11) + rm_MM_readUnits_0.locals ≤ R.locals) : CallW R s args own "MailCharactersModel" idx y_MM_readUnits b_MM_readUnits 4 none w_MM_readUnits rm_MM_readUnits_0 0 0 1 := cwV 1 hts (gW_V hl k_1052 k_42 k_77 k_1053) rfl rfl rfl (by decide +kernel) hR
def rm_MM_readMarked_0 : Room := { frames := 2, cells := 0, slots := 0, locals := 43 }
set_option maxHeartbeats 4000000 in
set_option maxRecDepth 100000 in
theorem c_MM_readMarked_0 (l : Launch) (D : va_G) (Z : gZT) (kI : ClassId) (a0 : Nat) (x0_nameHead : Nat) (x0_nameTail : Nat) (x0_nameOf : Nat) (x0_windows : Nat) (x0_koi : Nat) (x0_ready : Nat) (x0_tape : Nat) (x0_text : Nat) (x0_out : Nat) (x0_src : Nat) (sz : Nat) : gMv l y_MM_readMarked w_MM_readMarked rm_MM_readMarked_0 D Z kI [.ref a0] sz [(a0, .inr (9, [.ref x0_nameHead, .ref x0_nameTail, .ref x0_nameOf, .ref x0_windows, .ref x0_koi, .int 0, .ref x0_ready, .ref x0_tape, .int 0, .ref x0_text, .int 0, .ref x0_out, .ref x0_src, .int 0, .int 0, .int 0, .int 0, .int 0, .int 0, .int 0, .int 0, .int 0, .int 0]))] (fun (_u : Unit) => True) (fun (_u : Unit) => ([(a0, .inr (9, [.ref x0_nameHead, .ref x0_nameTail, .ref x0_nameOf, .ref x0_windows, .ref x0_koi, .int 0, .ref x0_ready, .ref x0_tape, .int 0, .ref x0_text, .int 0, .ref x0_out, .ref x0_src, .int 0, .int 0, .int 0, .int 0, .int 0, .int 0, .int 0, .int 0, .int 0, .int 0]))] : va_W)) := by
  refine g_ofv (cc := b_MM_readMarked) (maxL := 3) (by decide) rfl (Nat.le_of_ble_eq_true rfl) ?_
  intro p e s m below meth c A Q H ls hx hb hml hown hts hA hK hZ hP hD hS hl hret
  have hown : s.vm.findClass "MailCharactersModel" = some m.cls := hown
  have hl : lv_has ls 3 [(0, .ref a0)] := hl
  refine lv_aload_n hx hb d_MM_readMarked_0 rfl (lv_at hl 0 rfl) ?_
  refine lv_iconst (v := 0) hx hb d_MM_readMarked_1 (by decide) ?_
  refine g_Vi (As := [.int 0]) (rest := []) (wr := []) ⟨hx, hb, hml, hown, hts⟩ (c_MM_byteOf_0 l D Z kI a0 x0_nameHead x0_nameTail x0_nameOf x0_windows x0_koi x0_ready x0_tape x0_text x0_out x0_src H.size) (cw_MM_byteOf_0 hts k_1046 ⟨Nat.le_of_ble_eq_true rfl, Nat.le_of_ble_eq_true rfl⟩) hK hZ hP hD hS hA [0] [] (g_recv hK hP (ci := 9) (q0 := 0) rfl rfl) rfl rfl (by decide) (by decide) (by decide) rfl hl.1 rfl (Nat.le_of_ble_eq_true rfl) d_MM_readMarked_2 ⟨Nat.zero_le _, Nat.zero_le _⟩ (fun r_1 u_1 H locs hw hP hD hS => ?_)
  obtain rfl : r_1 = (-1) := hw
  have hP : va_P D vwCl [(a0, .inr (9, [.ref x0_nameHead, .ref x0_nameTail, .ref x0_nameOf, .ref x0_windows, .ref x0_koi, .int 0, .ref x0_ready, .ref x0_tape, .int 0, .ref x0_text, .int 0, .ref x0_out, .ref x0_src, .int 0, .int 0, .int 0, .int 0, .int 0, .int 0, .int 0, .int 0, .int 0, .int 0]))] H := hP
  have hD : va_D A [(a0, .inr (9, [.ref x0_nameHead, .ref x0_nameTail, .ref x0_nameOf, .ref x0_windows, .ref x0_koi, .int 0, .ref x0_ready, .ref x0_tape, .int 0, .ref x0_text, .int 0, .ref x0_out, .ref x0_src, .int 0, .int 0, .int 0, .int 0, .int 0, .int 0, .int 0, .int 0, .int 0, .int 0]))] := hD
  refine lv_sipush (v := 255) hx hb d_MM_readMarked_5 (by decide) ?_
  refine lv_icmp_ne (tgt := 26) hx hb d_MM_readMarked_8 (by decide) (fun _ => ?_) (fun h9 => absurd h9 (by decide +kernel))
  refine lv_iconst (v := 0) hx hb d_MM_readMarked_26 (by decide) ?_
  refine lv_istore_n (lv' := [(1, .int 0), (0, .ref a0)]) hx hb d_MM_readMarked_27 rfl hl (by decide) rfl (fun ls hl => ?_)
  refine lv_aload_n hx hb d_MM_readMarked_28 rfl (lv_at hl 1 rfl) ?_
  refine lv_iconst (v := 0) hx hb d_MM_readMarked_29 (by decide) ?_
  refine g_Vi (As := [.int 0]) (rest := []) (wr := []) ⟨hx, hb, hml, hown, hts⟩ (c_MM_byteOf_0 l D Z kI a0 x0_nameHead x0_nameTail x0_nameOf x0_windows x0_koi x0_ready x0_tape x0_text x0_out x0_src H.size) (cw_MM_byteOf_0 hts k_1046 ⟨Nat.le_of_ble_eq_true rfl, Nat.le_of_ble_eq_true rfl⟩) hK hZ hP hD hS hA [0] [] (g_recv hK hP (ci := 9) (q0 := 0) rfl rfl) rfl rfl (by decide) (by decide) (by decide) rfl hl.1 rfl (Nat.le_of_ble_eq_true rfl) d_MM_readMarked_30 ⟨Nat.zero_le _, Nat.zero_le _⟩ (fun r_2 u_2 H locs hw hP hD hS => ?_)
  obtain rfl : r_2 = (-1) := hw
  have hP : va_P D vwCl [(a0, .inr (9, [.ref x0_nameHead, .ref x0_nameTail, .ref x0_nameOf, .ref x0_windows, .ref x0_koi, .int 0, .ref x0_ready, .ref x0_tape, .int 0, .ref x0_text, .int 0, .ref x0_out, .ref x0_src, .int 0, .int 0, .int 0, .int 0, .int 0, .int 0, .int 0, .int 0, .int 0, .int 0]))] H := hP
  have hD : va_D A [(a0, .inr (9, [.ref x0_nameHead, .ref x0_nameTail, .ref x0_nameOf, .ref x0_windows, .ref x0_koi, .int 0, .ref x0_ready, .ref x0_tape, .int 0, .ref x0_text, .int 0, .ref x0_out, .ref x0_src, .int 0, .int 0, .int 0, .int 0, .int 0, .int 0, .int 0, .int 0, .int 0, .int 0]))] := hD
  refine lv_sipush (v := 254) hx hb d_MM_readMarked_33 (by decide) ?_
  refine lv_icmp_ne (tgt := 54) hx hb d_MM_readMarked_36 (by decide) (fun _ => ?_) (fun h9 => absurd h9 (by decide +kernel))
  refine lv_iconst (v := 0) hx hb d_MM_readMarked_54 (by decide) ?_
  refine lv_istore_n (lv' := [(2, .int 0), (1, .int 0), (0, .ref a0)]) hx hb d_MM_readMarked_55 rfl hl (by decide) rfl (fun ls hl => ?_)
  refine lv_aload_n hx hb d_MM_readMarked_56 rfl (lv_at hl 2 rfl) ?_
  refine lv_iload_n hx hb d_MM_readMarked_57 rfl (lv_at hl 1 rfl) ?_
  refine lv_if_ne (tgt := 65) hx hb d_MM_readMarked_58 (by decide) (fun h9 => absurd h9 (by decide +kernel)) (fun _ => ?_)
  refine lv_iload_n hx hb d_MM_readMarked_61 rfl (lv_at hl 0 rfl) ?_
  refine lv_if_eq (tgt := 69) hx hb d_MM_readMarked_62 (by decide) (fun _ => ?_) (fun h9 => absurd h9 (by decide +kernel))
  refine lv_iconst (v := 0) hx hb d_MM_readMarked_69 (by decide) ?_
  refine va_put (D := D) (ci := 9) (v := .int 0) (ty := .int) (C := "MailCharactersModel") (T := F_MM) (N := 23) hx hb hts i_MM t_MM t_MM_ok n_MM hown hK hP hD hS 0 rfl rfl 15 (by decide) (hts _ k_888) (fun _ h9 => h9) rfl (by decide +kernel) rfl rfl (Nat.le_of_ble_eq_true rfl) d_MM_readMarked_70 (fun H locs hP hD hS => ?_)
  have hP : va_P D vwCl [(a0, .inr (9, [.ref x0_nameHead, .ref x0_nameTail, .ref x0_nameOf, .ref x0_windows, .ref x0_koi, .int 0, .ref x0_ready, .ref x0_tape, .int 0, .ref x0_text, .int 0, .ref x0_out, .ref x0_src, .int 0, .int 0, .int 0, .int 0, .int 0, .int 0, .int 0, .int 0, .int 0, .int 0]))] H := hP
  have hD : va_D A [(a0, .inr (9, [.ref x0_nameHead, .ref x0_nameTail, .ref x0_nameOf, .ref x0_windows, .ref x0_koi, .int 0, .ref x0_ready, .ref x0_tape, .int 0, .ref x0_text, .int 0, .ref x0_out, .ref x0_src, .int 0, .int 0, .int 0, .int 0, .int 0, .int 0, .int 0, .int 0, .int 0, .int 0]))] := hD
  refine lv_aload_n hx hb d_MM_readMarked_73 rfl (lv_at hl 2 rfl) ?_
  refine lv_iload_n hx hb d_MM_readMarked_74 rfl (lv_at hl 1 rfl) ?_
  refine g_Vv (As := [.int 0]) (rest := []) (wr := []) ⟨hx, hb, hml, hown, hts⟩ (c_MM_readUnits_0 l D Z kI a0 x0_nameHead x0_nameTail x0_nameOf x0_windows x0_koi x0_ready x0_tape x0_text x0_out x0_src H.size) (cw_MM_readUnits_0 hts k_1050 ⟨Nat.le_of_ble_eq_true rfl, Nat.le_of_ble_eq_true rfl⟩) hK hZ hP hD hS hA [0] [] (g_recv hK hP (ci := 9) (q0 := 0) rfl rfl) rfl rfl (by decide) (by decide) (by decide) rfl hl.1 rfl (Nat.le_of_ble_eq_true rfl) d_MM_readMarked_75 ⟨Nat.zero_le _, Nat.zero_le _⟩ (fun u_3 H locs hw hP hD hS => ?_)
  have hP : va_P D vwCl [(a0, .inr (9, [.ref x0_nameHead, .ref x0_nameTail, .ref x0_nameOf, .ref x0_windows, .ref x0_koi, .int 0, .ref x0_ready, .ref x0_tape, .int 0, .ref x0_text, .int 0, .ref x0_out, .ref x0_src, .int 0, .int 0, .int 0, .int 0, .int 0, .int 0, .int 0, .int 0, .int 0, .int 0]))] H := hP
  have hD : va_D A [(a0, .inr (9, [.ref x0_nameHead, .ref x0_nameTail, .ref x0_nameOf, .ref x0_windows, .ref x0_koi, .int 0, .ref x0_ready, .ref x0_tape, .int 0, .ref x0_text, .int 0, .ref x0_out, .ref x0_src, .int 0, .int 0, .int 0, .int 0, .int 0, .int 0, .int 0, .int 0, .int 0, .int 0]))] := hD
  exact hret () _ _ _ _ d_MM_readMarked_78 trivial hP hD hS
theorem cw_MM_readMarked_0 {R : Room} {s : State} {args : Array Value} {own : String} {idx : Nat} (hts : ∀ w ∈ gW, w.before args s = true) (hl : Cond.methodLink own idx y_MM_readMarked ∈ gW) (hR : rm_MM_readMarked_0.frames + 1 ≤ R.frames ∧ 8 + (3 + 11) + rm_MM_readMarked_0.locals ≤ R.locals) : CallW R s args own "MailCharactersModel" idx y_MM_readMarked b_MM_readMarked 3 none w_MM_readMarked rm_MM_readMarked_0 0 0 0 := cwV 0 hts (gW_V hl k_1044 k_40 k_77 k_1045) rfl rfl rfl (by decide +kernel) hR
def rm_MM_readAll_5 : Room := { frames := 3, cells := 0, slots := 0, locals := 65 }
set_option maxHeartbeats 4000000 in
set_option maxRecDepth 100000 in
theorem c_MM_readAll_5 (l : Launch) (D : va_G) (Z : gZT) (kI : ClassId) (a0 : Nat) (x0_nameHead : Nat) (x0_nameTail : Nat) (x0_nameOf : Nat) (x0_windows : Nat) (x0_koi : Nat) (x0_ready : Nat) (x0_tape : Nat) (x0_text : Nat) (x0_out : Nat) (x0_src : Nat) (sz : Nat) : gMv l y_MM_readAll w_MM_readAll rm_MM_readAll_5 D Z kI [.ref a0, .int 5] sz [(a0, .inr (9, [.ref x0_nameHead, .ref x0_nameTail, .ref x0_nameOf, .ref x0_windows, .ref x0_koi, .int 0, .ref x0_ready, .ref x0_tape, .int 0, .ref x0_text, .int 0, .ref x0_out, .ref x0_src, .int 0, .int 0, .int 0, .int 0, .int 0, .int 0, .int 0, .int 0, .int 0, .int 0]))] (fun (_u : Unit) => True) (fun (_u : Unit) => ([(a0, .inr (9, [.ref x0_nameHead, .ref x0_nameTail, .ref x0_nameOf, .ref x0_windows, .ref x0_koi, .int 0, .ref x0_ready, .ref x0_tape, .int 0, .ref x0_text, .int 0, .ref x0_out, .ref x0_src, .int 0, .int 0, .int 0, .int 0, .int 0, .int 0, .int 0, .int 0, .int 0, .int 0]))] : va_W)) := by
  refine g_ofv (cc := b_MM_readAll) (maxL := 2) (by decide) rfl (Nat.le_of_ble_eq_true rfl) ?_
  intro p e s m below meth c A Q H ls hx hb hml hown hts hA hK hZ hP hD hS hl hret
  have hown : s.vm.findClass "MailCharactersModel" = some m.cls := hown
  have hl : lv_has ls 2 [(0, .ref a0), (1, .int 5)] := hl
  refine lv_aload_n hx hb d_MM_readAll_0 rfl (lv_at hl 0 rfl) ?_
  refine lv_iconst (v := 0) hx hb d_MM_readAll_1 (by decide) ?_
  refine va_put (D := D) (ci := 9) (v := .int 0) (ty := .int) (C := "MailCharactersModel") (T := F_MM) (N := 23) hx hb hts i_MM t_MM t_MM_ok n_MM hown hK hP hD hS 0 rfl rfl 15 (by decide) (hts _ k_888) (fun _ h9 => h9) rfl (by decide +kernel) rfl rfl (Nat.le_of_ble_eq_true rfl) d_MM_readAll_2 (fun H locs hP hD hS => ?_)
  have hP : va_P D vwCl [(a0, .inr (9, [.ref x0_nameHead, .ref x0_nameTail, .ref x0_nameOf, .ref x0_windows, .ref x0_koi, .int 0, .ref x0_ready, .ref x0_tape, .int 0, .ref x0_text, .int 0, .ref x0_out, .ref x0_src, .int 0, .int 0, .int 0, .int 0, .int 0, .int 0, .int 0, .int 0, .int 0, .int 0]))] H := hP
  have hD : va_D A [(a0, .inr (9, [.ref x0_nameHead, .ref x0_nameTail, .ref x0_nameOf, .ref x0_windows, .ref x0_koi, .int 0, .ref x0_ready, .ref x0_tape, .int 0, .ref x0_text, .int 0, .ref x0_out, .ref x0_src, .int 0, .int 0, .int 0, .int 0, .int 0, .int 0, .int 0, .int 0, .int 0, .int 0]))] := hD
  refine lv_iload_n hx hb d_MM_readAll_5 rfl (lv_at hl 1 rfl) ?_
  refine lv_iconst (v := 5) hx hb d_MM_readAll_6 (by decide) ?_
  refine lv_icmp_ne (tgt := 17) hx hb d_MM_readAll_7 (by decide) (fun h9 => absurd h9 (by decide +kernel)) (fun _ => ?_)
  refine lv_aload_n hx hb d_MM_readAll_10 rfl (lv_at hl 0 rfl) ?_
  refine g_Vv (As := []) (rest := []) (wr := []) ⟨hx, hb, hml, hown, hts⟩ (c_MM_readMarked_0 l D Z kI a0 x0_nameHead x0_nameTail x0_nameOf x0_windows x0_koi x0_ready x0_tape x0_text x0_out x0_src H.size) (cw_MM_readMarked_0 hts k_1042 ⟨Nat.le_of_ble_eq_true rfl, Nat.le_of_ble_eq_true rfl⟩) hK hZ hP hD hS hA [0] [] (g_recv hK hP (ci := 9) (q0 := 0) rfl rfl) rfl rfl (by decide) (by decide) (by decide) rfl hl.1 rfl (Nat.le_of_ble_eq_true rfl) d_MM_readAll_11 ⟨Nat.zero_le _, Nat.zero_le _⟩ (fun u_1 H locs hw hP hD hS => ?_)
  have hP : va_P D vwCl [(a0, .inr (9, [.ref x0_nameHead, .ref x0_nameTail, .ref x0_nameOf, .ref x0_windows, .ref x0_koi, .int 0, .ref x0_ready, .ref x0_tape, .int 0, .ref x0_text, .int 0, .ref x0_out, .ref x0_src, .int 0, .int 0, .int 0, .int 0, .int 0, .int 0, .int 0, .int 0, .int 0, .int 0]))] H := hP
  have hD : va_D A [(a0, .inr (9, [.ref x0_nameHead, .ref x0_nameTail, .ref x0_nameOf, .ref x0_windows, .ref x0_koi, .int 0, .ref x0_ready, .ref x0_tape, .int 0, .ref x0_text, .int 0, .ref x0_out, .ref x0_src, .int 0, .int 0, .int 0, .int 0, .int 0, .int 0, .int 0, .int 0, .int 0, .int 0]))] := hD
  refine lv_goto (tgt := 44) hx hb d_MM_readAll_14 (by decide) ?_
  refine lv_aload_n hx hb d_MM_readAll_44 rfl (lv_at hl 0 rfl) ?_
  refine va_get (D := D) (ci := 9) (v := .int 0) (C := "MailCharactersModel") (T := F_MM) (N := 23) hx hb hts i_MM hown hK hP 0 rfl rfl 15 (by decide) (hts _ k_888) (fun _ h9 => h9) rfl d_MM_readAll_45 ?_
  refine lv_aload_n hx hb d_MM_readAll_48 rfl (lv_at hl 0 rfl) ?_
  refine va_get (D := D) (ci := 9) (v := .int 0) (C := "MailCharactersModel") (T := F_MM) (N := 23) hx hb hts i_MM hown hK hP 0 rfl rfl 14 (by decide) (hts _ k_887) (fun _ h9 => h9) rfl d_MM_readAll_49 ?_
  refine lv_icmp_ge (tgt := 110) hx hb d_MM_readAll_52 (by decide) (fun _ => ?_) (fun h9 => absurd h9 (by decide +kernel))
  exact hret () _ _ _ _ d_MM_readAll_110 trivial hP hD hS
theorem cw_MM_readAll_5 {R : Room} {s : State} {args : Array Value} {own : String} {idx : Nat} (hts : ∀ w ∈ gW, w.before args s = true) (hl : Cond.methodLink own idx y_MM_readAll ∈ gW) (hR : rm_MM_readAll_5.frames + 1 ≤ R.frames ∧ 8 + (2 + 11) + rm_MM_readAll_5.locals ≤ R.locals) : CallW R s args own "MailCharactersModel" idx y_MM_readAll b_MM_readAll 2 none w_MM_readAll rm_MM_readAll_5 0 0 1 := cwV 1 hts (gW_V hl k_1040 k_39 k_77 k_1041) rfl rfl rfl (by decide +kernel) hR
def rm_MM_read_5 : Room := { frames := 4, cells := 0, slots := 0, locals := 86 }
set_option maxHeartbeats 4000000 in
set_option maxRecDepth 100000 in
theorem c_MM_read_5 (l : Launch) (D : va_G) (Z : gZT) (kI : ClassId) (a0 : Nat) (x0_nameHead : Nat) (x0_nameTail : Nat) (x0_nameOf : Nat) (x0_windows : Nat) (x0_koi : Nat) (x0_ready : Nat) (x0_tape : Nat) (x0_text : Nat) (x0_out : Nat) (x0_src : Nat) (sz : Nat) : gMi l y_MM_read w_MM_read rm_MM_read_5 D Z kI [.ref a0, .int 5] sz [(a0, .inr (9, [.ref x0_nameHead, .ref x0_nameTail, .ref x0_nameOf, .ref x0_windows, .ref x0_koi, .int 0, .ref x0_ready, .ref x0_tape, .int 0, .ref x0_text, .int 0, .ref x0_out, .ref x0_src, .int 0, .int 0, .int 0, .int 0, .int 0, .int 0, .int 0, .int 0, .int 0, .int 0]))] (fun (r : Int32) (_u : Unit) => r = 0) (fun (_u : Unit) => ([(a0, .inr (9, [.ref x0_nameHead, .ref x0_nameTail, .ref x0_nameOf, .ref x0_windows, .ref x0_koi, .int 0, .ref x0_ready, .ref x0_tape, .int 0, .ref x0_text, .int 0, .ref x0_out, .ref x0_src, .int 0, .int 0, .int 0, .int 0, .int 0, .int 0, .int 0, .int 0, .int 0, .int 0]))] : va_W)) := by
  refine g_ofi (cc := b_MM_read) (maxL := 2) (ty := .int) (by decide) rfl (Nat.le_of_ble_eq_true rfl) ?_
  intro p e s m below meth c A Q H ls hx hb hml hown hts hA hK hZ hP hD hS hl hret
  have hown : s.vm.findClass "MailCharactersModel" = some m.cls := hown
  have hl : lv_has ls 2 [(0, .ref a0), (1, .int 5)] := hl
  refine lv_aload_n hx hb d_MM_read_0 rfl (lv_at hl 0 rfl) ?_
  refine lv_iload_n hx hb d_MM_read_1 rfl (lv_at hl 1 rfl) ?_
  refine g_Si (As := [.int 5]) (rest := [.ref a0]) (wr := [(a0, .inr (9, [.ref x0_nameHead, .ref x0_nameTail, .ref x0_nameOf, .ref x0_windows, .ref x0_koi, .int 0, .ref x0_ready, .ref x0_tape, .int 0, .ref x0_text, .int 0, .ref x0_out, .ref x0_src, .int 0, .int 0, .int 0, .int 0, .int 0, .int 0, .int 0, .int 0, .int 0, .int 0]))]) ⟨hx, hb, hml, hown, hts⟩ (c_MM_isCharset_5 l D Z kI H.size) (cw_MM_isCharset_5 hts k_1031 ⟨Nat.le_of_ble_eq_true rfl, Nat.le_of_ble_eq_true rfl⟩) hK hZ hP hD hS hA [] [0] rfl rfl (by decide) (by decide) (by decide) rfl hl.1 rfl (Nat.le_of_ble_eq_true rfl) d_MM_read_2 ⟨Nat.zero_le _, Nat.zero_le _⟩ (fun r_1 u_1 H locs hw hP hD hS => ?_)
  obtain rfl : r_1 = 1 := hw
  have hP : va_P D vwCl [(a0, .inr (9, [.ref x0_nameHead, .ref x0_nameTail, .ref x0_nameOf, .ref x0_windows, .ref x0_koi, .int 0, .ref x0_ready, .ref x0_tape, .int 0, .ref x0_text, .int 0, .ref x0_out, .ref x0_src, .int 0, .int 0, .int 0, .int 0, .int 0, .int 0, .int 0, .int 0, .int 0, .int 0]))] H := hP
  have hD : va_D A [(a0, .inr (9, [.ref x0_nameHead, .ref x0_nameTail, .ref x0_nameOf, .ref x0_windows, .ref x0_koi, .int 0, .ref x0_ready, .ref x0_tape, .int 0, .ref x0_text, .int 0, .ref x0_out, .ref x0_src, .int 0, .int 0, .int 0, .int 0, .int 0, .int 0, .int 0, .int 0, .int 0, .int 0]))] := hD
  refine lv_if_eq (tgt := 12) hx hb d_MM_read_5 (by decide) (fun h9 => absurd h9 (by decide +kernel)) (fun _ => ?_)
  refine lv_iconst (v := 0) hx hb d_MM_read_8 (by decide) ?_
  refine lv_goto (tgt := 13) hx hb d_MM_read_9 (by decide) ?_
  refine va_put (D := D) (ci := 9) (v := .int 0) (ty := .int) (C := "MailCharactersModel") (T := F_MM) (N := 23) hx hb hts i_MM t_MM t_MM_ok n_MM hown hK hP hD hS 0 rfl rfl 5 (by decide) (hts _ k_878) (fun _ h9 => h9) rfl (by decide +kernel) rfl rfl (Nat.le_of_ble_eq_true rfl) d_MM_read_13 (fun H locs hP hD hS => ?_)
  have hP : va_P D vwCl [(a0, .inr (9, [.ref x0_nameHead, .ref x0_nameTail, .ref x0_nameOf, .ref x0_windows, .ref x0_koi, .int 0, .ref x0_ready, .ref x0_tape, .int 0, .ref x0_text, .int 0, .ref x0_out, .ref x0_src, .int 0, .int 0, .int 0, .int 0, .int 0, .int 0, .int 0, .int 0, .int 0, .int 0]))] H := hP
  have hD : va_D A [(a0, .inr (9, [.ref x0_nameHead, .ref x0_nameTail, .ref x0_nameOf, .ref x0_windows, .ref x0_koi, .int 0, .ref x0_ready, .ref x0_tape, .int 0, .ref x0_text, .int 0, .ref x0_out, .ref x0_src, .int 0, .int 0, .int 0, .int 0, .int 0, .int 0, .int 0, .int 0, .int 0, .int 0]))] := hD
  refine lv_aload_n hx hb d_MM_read_16 rfl (lv_at hl 0 rfl) ?_
  refine va_get (D := D) (ci := 9) (v := .int 0) (C := "MailCharactersModel") (T := F_MM) (N := 23) hx hb hts i_MM hown hK hP 0 rfl rfl 5 (by decide) (hts _ k_878) (fun _ h9 => h9) rfl d_MM_read_17 ?_
  refine lv_if_le (tgt := 25) hx hb d_MM_read_20 (by decide) (fun _ => ?_) (fun h9 => absurd h9 (by decide +kernel))
  refine lv_aload_n hx hb d_MM_read_25 rfl (lv_at hl 0 rfl) ?_
  refine lv_iconst (v := 0) hx hb d_MM_read_26 (by decide) ?_
  refine va_put (D := D) (ci := 9) (v := .int 0) (ty := .int) (C := "MailCharactersModel") (T := F_MM) (N := 23) hx hb hts i_MM t_MM t_MM_ok n_MM hown hK hP hD hS 0 rfl rfl 10 (by decide) (hts _ k_883) (fun _ h9 => h9) rfl (by decide +kernel) rfl rfl (Nat.le_of_ble_eq_true rfl) d_MM_read_27 (fun H locs hP hD hS => ?_)
  have hP : va_P D vwCl [(a0, .inr (9, [.ref x0_nameHead, .ref x0_nameTail, .ref x0_nameOf, .ref x0_windows, .ref x0_koi, .int 0, .ref x0_ready, .ref x0_tape, .int 0, .ref x0_text, .int 0, .ref x0_out, .ref x0_src, .int 0, .int 0, .int 0, .int 0, .int 0, .int 0, .int 0, .int 0, .int 0, .int 0]))] H := hP
  have hD : va_D A [(a0, .inr (9, [.ref x0_nameHead, .ref x0_nameTail, .ref x0_nameOf, .ref x0_windows, .ref x0_koi, .int 0, .ref x0_ready, .ref x0_tape, .int 0, .ref x0_text, .int 0, .ref x0_out, .ref x0_src, .int 0, .int 0, .int 0, .int 0, .int 0, .int 0, .int 0, .int 0, .int 0, .int 0]))] := hD
  refine lv_aload_n hx hb d_MM_read_30 rfl (lv_at hl 0 rfl) ?_
  refine lv_iconst (v := 0) hx hb d_MM_read_31 (by decide) ?_
  refine lv_aload_n hx hb d_MM_read_32 rfl (lv_at hl 0 rfl) ?_
  refine va_get (D := D) (ci := 9) (v := .int 0) (C := "MailCharactersModel") (T := F_MM) (N := 23) hx hb hts i_MM hown hK hP 0 rfl rfl 8 (by decide) (hts _ k_881) (fun _ h9 => h9) rfl d_MM_read_33 ?_
  refine g_Vv (As := [.int 0, .int 0]) (rest := []) (wr := []) ⟨hx, hb, hml, hown, hts⟩ (c_MM_tapeToSrc_0 l D Z kI a0 x0_nameHead x0_nameTail x0_nameOf x0_windows x0_koi x0_ready x0_tape x0_text x0_out x0_src H.size) (cw_MM_tapeToSrc_0 hts k_1034 ⟨Nat.le_of_ble_eq_true rfl, Nat.le_of_ble_eq_true rfl⟩) hK hZ hP hD hS hA [0] [] (g_recv hK hP (ci := 9) (q0 := 0) rfl rfl) rfl rfl (by decide) (by decide) (by decide) rfl hl.1 rfl (Nat.le_of_ble_eq_true rfl) d_MM_read_36 ⟨Nat.zero_le _, Nat.zero_le _⟩ (fun u_2 H locs hw hP hD hS => ?_)
  have hP : va_P D vwCl [(a0, .inr (9, [.ref x0_nameHead, .ref x0_nameTail, .ref x0_nameOf, .ref x0_windows, .ref x0_koi, .int 0, .ref x0_ready, .ref x0_tape, .int 0, .ref x0_text, .int 0, .ref x0_out, .ref x0_src, .int 0, .int 0, .int 0, .int 0, .int 0, .int 0, .int 0, .int 0, .int 0, .int 0]))] H := hP
  have hD : va_D A [(a0, .inr (9, [.ref x0_nameHead, .ref x0_nameTail, .ref x0_nameOf, .ref x0_windows, .ref x0_koi, .int 0, .ref x0_ready, .ref x0_tape, .int 0, .ref x0_text, .int 0, .ref x0_out, .ref x0_src, .int 0, .int 0, .int 0, .int 0, .int 0, .int 0, .int 0, .int 0, .int 0, .int 0]))] := hD
  refine lv_aload_n hx hb d_MM_read_39 rfl (lv_at hl 0 rfl) ?_
  refine lv_iload_n hx hb d_MM_read_40 rfl (lv_at hl 1 rfl) ?_
  refine g_Vv (As := [.int 5]) (rest := []) (wr := []) ⟨hx, hb, hml, hown, hts⟩ (c_MM_readAll_5 l D Z kI a0 x0_nameHead x0_nameTail x0_nameOf x0_windows x0_koi x0_ready x0_tape x0_text x0_out x0_src H.size) (cw_MM_readAll_5 hts k_1038 ⟨Nat.le_of_ble_eq_true rfl, Nat.le_of_ble_eq_true rfl⟩) hK hZ hP hD hS hA [0] [] (g_recv hK hP (ci := 9) (q0 := 0) rfl rfl) rfl rfl (by decide) (by decide) (by decide) rfl hl.1 rfl (Nat.le_of_ble_eq_true rfl) d_MM_read_41 ⟨Nat.zero_le _, Nat.zero_le _⟩ (fun u_3 H locs hw hP hD hS => ?_)
  have hP : va_P D vwCl [(a0, .inr (9, [.ref x0_nameHead, .ref x0_nameTail, .ref x0_nameOf, .ref x0_windows, .ref x0_koi, .int 0, .ref x0_ready, .ref x0_tape, .int 0, .ref x0_text, .int 0, .ref x0_out, .ref x0_src, .int 0, .int 0, .int 0, .int 0, .int 0, .int 0, .int 0, .int 0, .int 0, .int 0]))] H := hP
  have hD : va_D A [(a0, .inr (9, [.ref x0_nameHead, .ref x0_nameTail, .ref x0_nameOf, .ref x0_windows, .ref x0_koi, .int 0, .ref x0_ready, .ref x0_tape, .int 0, .ref x0_text, .int 0, .ref x0_out, .ref x0_src, .int 0, .int 0, .int 0, .int 0, .int 0, .int 0, .int 0, .int 0, .int 0, .int 0]))] := hD
  refine lv_aload_n hx hb d_MM_read_44 rfl (lv_at hl 0 rfl) ?_
  refine lv_iconst (v := 0) hx hb d_MM_read_45 (by decide) ?_
  refine va_put (D := D) (ci := 9) (v := .int 0) (ty := .int) (C := "MailCharactersModel") (T := F_MM) (N := 23) hx hb hts i_MM t_MM t_MM_ok n_MM hown hK hP hD hS 0 rfl rfl 8 (by decide) (hts _ k_881) (fun _ h9 => h9) rfl (by decide +kernel) rfl rfl (Nat.le_of_ble_eq_true rfl) d_MM_read_46 (fun H locs hP hD hS => ?_)
  have hP : va_P D vwCl [(a0, .inr (9, [.ref x0_nameHead, .ref x0_nameTail, .ref x0_nameOf, .ref x0_windows, .ref x0_koi, .int 0, .ref x0_ready, .ref x0_tape, .int 0, .ref x0_text, .int 0, .ref x0_out, .ref x0_src, .int 0, .int 0, .int 0, .int 0, .int 0, .int 0, .int 0, .int 0, .int 0, .int 0]))] H := hP
  have hD : va_D A [(a0, .inr (9, [.ref x0_nameHead, .ref x0_nameTail, .ref x0_nameOf, .ref x0_windows, .ref x0_koi, .int 0, .ref x0_ready, .ref x0_tape, .int 0, .ref x0_text, .int 0, .ref x0_out, .ref x0_src, .int 0, .int 0, .int 0, .int 0, .int 0, .int 0, .int 0, .int 0, .int 0, .int 0]))] := hD
  refine lv_aload_n hx hb d_MM_read_49 rfl (lv_at hl 0 rfl) ?_
  refine va_get (D := D) (ci := 9) (v := .int 0) (C := "MailCharactersModel") (T := F_MM) (N := 23) hx hb hts i_MM hown hK hP 0 rfl rfl 10 (by decide) (hts _ k_883) (fun _ h9 => h9) rfl d_MM_read_50 ?_
  exact hret 0 () _ _ _ _ d_MM_read_53 rfl rfl hP hD hS
theorem cw_MM_read_5 {R : Room} {s : State} {args : Array Value} {own : String} {idx : Nat} (hts : ∀ w ∈ gW, w.before args s = true) (hl : Cond.methodLink own idx y_MM_read ∈ gW) (hR : rm_MM_read_5.frames + 1 ≤ R.frames ∧ 8 + (2 + 11) + rm_MM_read_5.locals ≤ R.locals) : CallW R s args own "MailCharactersModel" idx y_MM_read b_MM_read 2 (some .int) w_MM_read rm_MM_read_5 0 0 1 := cwV 1 hts (gW_V hl k_1028 k_1029 k_77 k_1030) rfl rfl rfl (by decide +kernel) hR
def rm_MM_isCharset_6 : Room := { frames := 0, cells := 0, slots := 0, locals := 0 }
set_option maxHeartbeats 4000000 in
set_option maxRecDepth 100000 in
theorem c_MM_isCharset_6 (l : Launch) (D : va_G) (Z : gZT) (kI : ClassId) (sz : Nat) : gMi l y_MM_isCharset w_MM_isCharset rm_MM_isCharset_6 D Z kI [.int 6] sz ([] : va_W) (fun (r : Int32) (_u : Unit) => r = 1) (fun (_u : Unit) => ([] : va_W)) := by
  refine g_ofi (cc := b_MM_isCharset) (maxL := 1) (ty := .boolean) (by decide) rfl (Nat.le_of_ble_eq_true rfl) ?_
  intro p e s m below meth c A Q H ls hx hb hml hown hts hA hK hZ hP hD hS hl hret
  have hown : s.vm.findClass "MailCharactersModel" = some m.cls := hown
  have hl : lv_has ls 1 [(0, .int 6)] := hl
  refine lv_iload_n hx hb d_MM_isCharset_0 rfl (lv_at hl 0 rfl) ?_
  refine lv_if_lt (tgt := 14) hx hb d_MM_isCharset_1 (by decide) (fun h9 => absurd h9 (by decide +kernel)) (fun _ => ?_)
  refine lv_iload_n hx hb d_MM_isCharset_4 rfl (lv_at hl 0 rfl) ?_
  refine lv_bipush (v := 9) hx hb d_MM_isCharset_5 (by decide) ?_
  refine lv_icmp_gt (tgt := 14) hx hb d_MM_isCharset_7 (by decide) (fun h9 => absurd h9 (by decide +kernel)) (fun _ => ?_)
  refine lv_iconst (v := 1) hx hb d_MM_isCharset_10 (by decide) ?_
  refine lv_goto (tgt := 15) hx hb d_MM_isCharset_11 (by decide) ?_
  exact hret 1 () _ _ _ _ d_MM_isCharset_15 rfl rfl hP hD hS
theorem cw_MM_isCharset_6 {R : Room} {s : State} {args : Array Value} {own : String} {idx : Nat} (hts : ∀ w ∈ gW, w.before args s = true) (hl : Cond.methodLink own idx y_MM_isCharset ∈ gW) (hR : rm_MM_isCharset_6.frames + 1 ≤ R.frames ∧ 8 + (1 + 11) + rm_MM_isCharset_6.locals ≤ R.locals) : CallB R s args own idx y_MM_isCharset b_MM_isCharset 1 (some .boolean) w_MM_isCharset rm_MM_isCharset_6 0 0 1 ∧ (Cond.static y_MM_isCharset).before args s = true := va_cwS 1 hts (gW_S hl k_1032 k_77 k_1033) rfl rfl rfl (by decide +kernel) hR
def rm_MM_readAll_6 : Room := { frames := 2, cells := 0, slots := 0, locals := 43 }
set_option maxHeartbeats 4000000 in
set_option maxRecDepth 100000 in
theorem c_MM_readAll_6 (l : Launch) (D : va_G) (Z : gZT) (kI : ClassId) (a0 : Nat) (x0_nameHead : Nat) (x0_nameTail : Nat) (x0_nameOf : Nat) (x0_windows : Nat) (x0_koi : Nat) (x0_ready : Nat) (x0_tape : Nat) (x0_text : Nat) (x0_out : Nat) (x0_src : Nat) (sz : Nat) : gMv l y_MM_readAll w_MM_readAll rm_MM_readAll_6 D Z kI [.ref a0, .int 6] sz [(a0, .inr (9, [.ref x0_nameHead, .ref x0_nameTail, .ref x0_nameOf, .ref x0_windows, .ref x0_koi, .int 0, .ref x0_ready, .ref x0_tape, .int 0, .ref x0_text, .int 0, .ref x0_out, .ref x0_src, .int 0, .int 0, .int 0, .int 0, .int 0, .int 0, .int 0, .int 0, .int 0, .int 0]))] (fun (_u : Unit) => True) (fun (_u : Unit) => ([(a0, .inr (9, [.ref x0_nameHead, .ref x0_nameTail, .ref x0_nameOf, .ref x0_windows, .ref x0_koi, .int 0, .ref x0_ready, .ref x0_tape, .int 0, .ref x0_text, .int 0, .ref x0_out, .ref x0_src, .int 0, .int 0, .int 0, .int 0, .int 0, .int 0, .int 0, .int 0, .int 0, .int 0]))] : va_W)) := by
  refine g_ofv (cc := b_MM_readAll) (maxL := 2) (by decide) rfl (Nat.le_of_ble_eq_true rfl) ?_
  intro p e s m below meth c A Q H ls hx hb hml hown hts hA hK hZ hP hD hS hl hret
  have hown : s.vm.findClass "MailCharactersModel" = some m.cls := hown
  have hl : lv_has ls 2 [(0, .ref a0), (1, .int 6)] := hl
  refine lv_aload_n hx hb d_MM_readAll_0 rfl (lv_at hl 0 rfl) ?_
  refine lv_iconst (v := 0) hx hb d_MM_readAll_1 (by decide) ?_
  refine va_put (D := D) (ci := 9) (v := .int 0) (ty := .int) (C := "MailCharactersModel") (T := F_MM) (N := 23) hx hb hts i_MM t_MM t_MM_ok n_MM hown hK hP hD hS 0 rfl rfl 15 (by decide) (hts _ k_888) (fun _ h9 => h9) rfl (by decide +kernel) rfl rfl (Nat.le_of_ble_eq_true rfl) d_MM_readAll_2 (fun H locs hP hD hS => ?_)
  have hP : va_P D vwCl [(a0, .inr (9, [.ref x0_nameHead, .ref x0_nameTail, .ref x0_nameOf, .ref x0_windows, .ref x0_koi, .int 0, .ref x0_ready, .ref x0_tape, .int 0, .ref x0_text, .int 0, .ref x0_out, .ref x0_src, .int 0, .int 0, .int 0, .int 0, .int 0, .int 0, .int 0, .int 0, .int 0, .int 0]))] H := hP
  have hD : va_D A [(a0, .inr (9, [.ref x0_nameHead, .ref x0_nameTail, .ref x0_nameOf, .ref x0_windows, .ref x0_koi, .int 0, .ref x0_ready, .ref x0_tape, .int 0, .ref x0_text, .int 0, .ref x0_out, .ref x0_src, .int 0, .int 0, .int 0, .int 0, .int 0, .int 0, .int 0, .int 0, .int 0, .int 0]))] := hD
  refine lv_iload_n hx hb d_MM_readAll_5 rfl (lv_at hl 1 rfl) ?_
  refine lv_iconst (v := 5) hx hb d_MM_readAll_6 (by decide) ?_
  refine lv_icmp_ne (tgt := 17) hx hb d_MM_readAll_7 (by decide) (fun _ => ?_) (fun h9 => absurd h9 (by decide +kernel))
  refine lv_iload_n hx hb d_MM_readAll_17 rfl (lv_at hl 1 rfl) ?_
  refine lv_bipush (v := 6) hx hb d_MM_readAll_18 (by decide) ?_
  refine lv_icmp_eq (tgt := 29) hx hb d_MM_readAll_20 (by decide) (fun _ => ?_) (fun h9 => absurd h9 (by decide +kernel))
  refine lv_aload_n hx hb d_MM_readAll_29 rfl (lv_at hl 0 rfl) ?_
  refine lv_iload_n hx hb d_MM_readAll_30 rfl (lv_at hl 1 rfl) ?_
  refine lv_bipush (v := 7) hx hb d_MM_readAll_31 (by decide) ?_
  refine lv_icmp_ne (tgt := 40) hx hb d_MM_readAll_33 (by decide) (fun _ => ?_) (fun h9 => absurd h9 (by decide +kernel))
  refine lv_iconst (v := 0) hx hb d_MM_readAll_40 (by decide) ?_
  refine g_Vv (As := [.int 0]) (rest := []) (wr := []) ⟨hx, hb, hml, hown, hts⟩ (c_MM_readUnits_0 l D Z kI a0 x0_nameHead x0_nameTail x0_nameOf x0_windows x0_koi x0_ready x0_tape x0_text x0_out x0_src H.size) (cw_MM_readUnits_0 hts k_1050 ⟨Nat.le_of_ble_eq_true rfl, Nat.le_of_ble_eq_true rfl⟩) hK hZ hP hD hS hA [0] [] (g_recv hK hP (ci := 9) (q0 := 0) rfl rfl) rfl rfl (by decide) (by decide) (by decide) rfl hl.1 rfl (Nat.le_of_ble_eq_true rfl) d_MM_readAll_41 ⟨Nat.zero_le _, Nat.zero_le _⟩ (fun u_1 H locs hw hP hD hS => ?_)
  have hP : va_P D vwCl [(a0, .inr (9, [.ref x0_nameHead, .ref x0_nameTail, .ref x0_nameOf, .ref x0_windows, .ref x0_koi, .int 0, .ref x0_ready, .ref x0_tape, .int 0, .ref x0_text, .int 0, .ref x0_out, .ref x0_src, .int 0, .int 0, .int 0, .int 0, .int 0, .int 0, .int 0, .int 0, .int 0, .int 0]))] H := hP
  have hD : va_D A [(a0, .inr (9, [.ref x0_nameHead, .ref x0_nameTail, .ref x0_nameOf, .ref x0_windows, .ref x0_koi, .int 0, .ref x0_ready, .ref x0_tape, .int 0, .ref x0_text, .int 0, .ref x0_out, .ref x0_src, .int 0, .int 0, .int 0, .int 0, .int 0, .int 0, .int 0, .int 0, .int 0, .int 0]))] := hD
  refine lv_aload_n hx hb d_MM_readAll_44 rfl (lv_at hl 0 rfl) ?_
  refine va_get (D := D) (ci := 9) (v := .int 0) (C := "MailCharactersModel") (T := F_MM) (N := 23) hx hb hts i_MM hown hK hP 0 rfl rfl 15 (by decide) (hts _ k_888) (fun _ h9 => h9) rfl d_MM_readAll_45 ?_
  refine lv_aload_n hx hb d_MM_readAll_48 rfl (lv_at hl 0 rfl) ?_
  refine va_get (D := D) (ci := 9) (v := .int 0) (C := "MailCharactersModel") (T := F_MM) (N := 23) hx hb hts i_MM hown hK hP 0 rfl rfl 14 (by decide) (hts _ k_887) (fun _ h9 => h9) rfl d_MM_readAll_49 ?_
  refine lv_icmp_ge (tgt := 110) hx hb d_MM_readAll_52 (by decide) (fun _ => ?_) (fun h9 => absurd h9 (by decide +kernel))
  exact hret () _ _ _ _ d_MM_readAll_110 trivial hP hD hS
theorem cw_MM_readAll_6 {R : Room} {s : State} {args : Array Value} {own : String} {idx : Nat} (hts : ∀ w ∈ gW, w.before args s = true) (hl : Cond.methodLink own idx y_MM_readAll ∈ gW) (hR : rm_MM_readAll_6.frames + 1 ≤ R.frames ∧ 8 + (2 + 11) + rm_MM_readAll_6.locals ≤ R.locals) : CallW R s args own "MailCharactersModel" idx y_MM_readAll b_MM_readAll 2 none w_MM_readAll rm_MM_readAll_6 0 0 1 := cwV 1 hts (gW_V hl k_1040 k_39 k_77 k_1041) rfl rfl rfl (by decide +kernel) hR
def rm_MM_read_6 : Room := { frames := 3, cells := 0, slots := 0, locals := 64 }
set_option maxHeartbeats 4000000 in
set_option maxRecDepth 100000 in
theorem c_MM_read_6 (l : Launch) (D : va_G) (Z : gZT) (kI : ClassId) (a0 : Nat) (x0_nameHead : Nat) (x0_nameTail : Nat) (x0_nameOf : Nat) (x0_windows : Nat) (x0_koi : Nat) (x0_ready : Nat) (x0_tape : Nat) (x0_text : Nat) (x0_out : Nat) (x0_src : Nat) (sz : Nat) : gMi l y_MM_read w_MM_read rm_MM_read_6 D Z kI [.ref a0, .int 6] sz [(a0, .inr (9, [.ref x0_nameHead, .ref x0_nameTail, .ref x0_nameOf, .ref x0_windows, .ref x0_koi, .int 0, .ref x0_ready, .ref x0_tape, .int 0, .ref x0_text, .int 0, .ref x0_out, .ref x0_src, .int 0, .int 0, .int 0, .int 0, .int 0, .int 0, .int 0, .int 0, .int 0, .int 0]))] (fun (r : Int32) (_u : Unit) => r = 0) (fun (_u : Unit) => ([(a0, .inr (9, [.ref x0_nameHead, .ref x0_nameTail, .ref x0_nameOf, .ref x0_windows, .ref x0_koi, .int 0, .ref x0_ready, .ref x0_tape, .int 0, .ref x0_text, .int 0, .ref x0_out, .ref x0_src, .int 0, .int 0, .int 0, .int 0, .int 0, .int 0, .int 0, .int 0, .int 0, .int 0]))] : va_W)) := by
  refine g_ofi (cc := b_MM_read) (maxL := 2) (ty := .int) (by decide) rfl (Nat.le_of_ble_eq_true rfl) ?_
  intro p e s m below meth c A Q H ls hx hb hml hown hts hA hK hZ hP hD hS hl hret
  have hown : s.vm.findClass "MailCharactersModel" = some m.cls := hown
  have hl : lv_has ls 2 [(0, .ref a0), (1, .int 6)] := hl
  refine lv_aload_n hx hb d_MM_read_0 rfl (lv_at hl 0 rfl) ?_
  refine lv_iload_n hx hb d_MM_read_1 rfl (lv_at hl 1 rfl) ?_
  refine g_Si (As := [.int 6]) (rest := [.ref a0]) (wr := [(a0, .inr (9, [.ref x0_nameHead, .ref x0_nameTail, .ref x0_nameOf, .ref x0_windows, .ref x0_koi, .int 0, .ref x0_ready, .ref x0_tape, .int 0, .ref x0_text, .int 0, .ref x0_out, .ref x0_src, .int 0, .int 0, .int 0, .int 0, .int 0, .int 0, .int 0, .int 0, .int 0, .int 0]))]) ⟨hx, hb, hml, hown, hts⟩ (c_MM_isCharset_6 l D Z kI H.size) (cw_MM_isCharset_6 hts k_1031 ⟨Nat.le_of_ble_eq_true rfl, Nat.le_of_ble_eq_true rfl⟩) hK hZ hP hD hS hA [] [0] rfl rfl (by decide) (by decide) (by decide) rfl hl.1 rfl (Nat.le_of_ble_eq_true rfl) d_MM_read_2 ⟨Nat.zero_le _, Nat.zero_le _⟩ (fun r_1 u_1 H locs hw hP hD hS => ?_)
  obtain rfl : r_1 = 1 := hw
  have hP : va_P D vwCl [(a0, .inr (9, [.ref x0_nameHead, .ref x0_nameTail, .ref x0_nameOf, .ref x0_windows, .ref x0_koi, .int 0, .ref x0_ready, .ref x0_tape, .int 0, .ref x0_text, .int 0, .ref x0_out, .ref x0_src, .int 0, .int 0, .int 0, .int 0, .int 0, .int 0, .int 0, .int 0, .int 0, .int 0]))] H := hP
  have hD : va_D A [(a0, .inr (9, [.ref x0_nameHead, .ref x0_nameTail, .ref x0_nameOf, .ref x0_windows, .ref x0_koi, .int 0, .ref x0_ready, .ref x0_tape, .int 0, .ref x0_text, .int 0, .ref x0_out, .ref x0_src, .int 0, .int 0, .int 0, .int 0, .int 0, .int 0, .int 0, .int 0, .int 0, .int 0]))] := hD
  refine lv_if_eq (tgt := 12) hx hb d_MM_read_5 (by decide) (fun h9 => absurd h9 (by decide +kernel)) (fun _ => ?_)
  refine lv_iconst (v := 0) hx hb d_MM_read_8 (by decide) ?_
  refine lv_goto (tgt := 13) hx hb d_MM_read_9 (by decide) ?_
  refine va_put (D := D) (ci := 9) (v := .int 0) (ty := .int) (C := "MailCharactersModel") (T := F_MM) (N := 23) hx hb hts i_MM t_MM t_MM_ok n_MM hown hK hP hD hS 0 rfl rfl 5 (by decide) (hts _ k_878) (fun _ h9 => h9) rfl (by decide +kernel) rfl rfl (Nat.le_of_ble_eq_true rfl) d_MM_read_13 (fun H locs hP hD hS => ?_)
  have hP : va_P D vwCl [(a0, .inr (9, [.ref x0_nameHead, .ref x0_nameTail, .ref x0_nameOf, .ref x0_windows, .ref x0_koi, .int 0, .ref x0_ready, .ref x0_tape, .int 0, .ref x0_text, .int 0, .ref x0_out, .ref x0_src, .int 0, .int 0, .int 0, .int 0, .int 0, .int 0, .int 0, .int 0, .int 0, .int 0]))] H := hP
  have hD : va_D A [(a0, .inr (9, [.ref x0_nameHead, .ref x0_nameTail, .ref x0_nameOf, .ref x0_windows, .ref x0_koi, .int 0, .ref x0_ready, .ref x0_tape, .int 0, .ref x0_text, .int 0, .ref x0_out, .ref x0_src, .int 0, .int 0, .int 0, .int 0, .int 0, .int 0, .int 0, .int 0, .int 0, .int 0]))] := hD
  refine lv_aload_n hx hb d_MM_read_16 rfl (lv_at hl 0 rfl) ?_
  refine va_get (D := D) (ci := 9) (v := .int 0) (C := "MailCharactersModel") (T := F_MM) (N := 23) hx hb hts i_MM hown hK hP 0 rfl rfl 5 (by decide) (hts _ k_878) (fun _ h9 => h9) rfl d_MM_read_17 ?_
  refine lv_if_le (tgt := 25) hx hb d_MM_read_20 (by decide) (fun _ => ?_) (fun h9 => absurd h9 (by decide +kernel))
  refine lv_aload_n hx hb d_MM_read_25 rfl (lv_at hl 0 rfl) ?_
  refine lv_iconst (v := 0) hx hb d_MM_read_26 (by decide) ?_
  refine va_put (D := D) (ci := 9) (v := .int 0) (ty := .int) (C := "MailCharactersModel") (T := F_MM) (N := 23) hx hb hts i_MM t_MM t_MM_ok n_MM hown hK hP hD hS 0 rfl rfl 10 (by decide) (hts _ k_883) (fun _ h9 => h9) rfl (by decide +kernel) rfl rfl (Nat.le_of_ble_eq_true rfl) d_MM_read_27 (fun H locs hP hD hS => ?_)
  have hP : va_P D vwCl [(a0, .inr (9, [.ref x0_nameHead, .ref x0_nameTail, .ref x0_nameOf, .ref x0_windows, .ref x0_koi, .int 0, .ref x0_ready, .ref x0_tape, .int 0, .ref x0_text, .int 0, .ref x0_out, .ref x0_src, .int 0, .int 0, .int 0, .int 0, .int 0, .int 0, .int 0, .int 0, .int 0, .int 0]))] H := hP
  have hD : va_D A [(a0, .inr (9, [.ref x0_nameHead, .ref x0_nameTail, .ref x0_nameOf, .ref x0_windows, .ref x0_koi, .int 0, .ref x0_ready, .ref x0_tape, .int 0, .ref x0_text, .int 0, .ref x0_out, .ref x0_src, .int 0, .int 0, .int 0, .int 0, .int 0, .int 0, .int 0, .int 0, .int 0, .int 0]))] := hD
  refine lv_aload_n hx hb d_MM_read_30 rfl (lv_at hl 0 rfl) ?_
  refine lv_iconst (v := 0) hx hb d_MM_read_31 (by decide) ?_
  refine lv_aload_n hx hb d_MM_read_32 rfl (lv_at hl 0 rfl) ?_
  refine va_get (D := D) (ci := 9) (v := .int 0) (C := "MailCharactersModel") (T := F_MM) (N := 23) hx hb hts i_MM hown hK hP 0 rfl rfl 8 (by decide) (hts _ k_881) (fun _ h9 => h9) rfl d_MM_read_33 ?_
  refine g_Vv (As := [.int 0, .int 0]) (rest := []) (wr := []) ⟨hx, hb, hml, hown, hts⟩ (c_MM_tapeToSrc_0 l D Z kI a0 x0_nameHead x0_nameTail x0_nameOf x0_windows x0_koi x0_ready x0_tape x0_text x0_out x0_src H.size) (cw_MM_tapeToSrc_0 hts k_1034 ⟨Nat.le_of_ble_eq_true rfl, Nat.le_of_ble_eq_true rfl⟩) hK hZ hP hD hS hA [0] [] (g_recv hK hP (ci := 9) (q0 := 0) rfl rfl) rfl rfl (by decide) (by decide) (by decide) rfl hl.1 rfl (Nat.le_of_ble_eq_true rfl) d_MM_read_36 ⟨Nat.zero_le _, Nat.zero_le _⟩ (fun u_2 H locs hw hP hD hS => ?_)
  have hP : va_P D vwCl [(a0, .inr (9, [.ref x0_nameHead, .ref x0_nameTail, .ref x0_nameOf, .ref x0_windows, .ref x0_koi, .int 0, .ref x0_ready, .ref x0_tape, .int 0, .ref x0_text, .int 0, .ref x0_out, .ref x0_src, .int 0, .int 0, .int 0, .int 0, .int 0, .int 0, .int 0, .int 0, .int 0, .int 0]))] H := hP
  have hD : va_D A [(a0, .inr (9, [.ref x0_nameHead, .ref x0_nameTail, .ref x0_nameOf, .ref x0_windows, .ref x0_koi, .int 0, .ref x0_ready, .ref x0_tape, .int 0, .ref x0_text, .int 0, .ref x0_out, .ref x0_src, .int 0, .int 0, .int 0, .int 0, .int 0, .int 0, .int 0, .int 0, .int 0, .int 0]))] := hD
  refine lv_aload_n hx hb d_MM_read_39 rfl (lv_at hl 0 rfl) ?_
  refine lv_iload_n hx hb d_MM_read_40 rfl (lv_at hl 1 rfl) ?_
  refine g_Vv (As := [.int 6]) (rest := []) (wr := []) ⟨hx, hb, hml, hown, hts⟩ (c_MM_readAll_6 l D Z kI a0 x0_nameHead x0_nameTail x0_nameOf x0_windows x0_koi x0_ready x0_tape x0_text x0_out x0_src H.size) (cw_MM_readAll_6 hts k_1038 ⟨Nat.le_of_ble_eq_true rfl, Nat.le_of_ble_eq_true rfl⟩) hK hZ hP hD hS hA [0] [] (g_recv hK hP (ci := 9) (q0 := 0) rfl rfl) rfl rfl (by decide) (by decide) (by decide) rfl hl.1 rfl (Nat.le_of_ble_eq_true rfl) d_MM_read_41 ⟨Nat.zero_le _, Nat.zero_le _⟩ (fun u_3 H locs hw hP hD hS => ?_)
  have hP : va_P D vwCl [(a0, .inr (9, [.ref x0_nameHead, .ref x0_nameTail, .ref x0_nameOf, .ref x0_windows, .ref x0_koi, .int 0, .ref x0_ready, .ref x0_tape, .int 0, .ref x0_text, .int 0, .ref x0_out, .ref x0_src, .int 0, .int 0, .int 0, .int 0, .int 0, .int 0, .int 0, .int 0, .int 0, .int 0]))] H := hP
  have hD : va_D A [(a0, .inr (9, [.ref x0_nameHead, .ref x0_nameTail, .ref x0_nameOf, .ref x0_windows, .ref x0_koi, .int 0, .ref x0_ready, .ref x0_tape, .int 0, .ref x0_text, .int 0, .ref x0_out, .ref x0_src, .int 0, .int 0, .int 0, .int 0, .int 0, .int 0, .int 0, .int 0, .int 0, .int 0]))] := hD
  refine lv_aload_n hx hb d_MM_read_44 rfl (lv_at hl 0 rfl) ?_
  refine lv_iconst (v := 0) hx hb d_MM_read_45 (by decide) ?_
  refine va_put (D := D) (ci := 9) (v := .int 0) (ty := .int) (C := "MailCharactersModel") (T := F_MM) (N := 23) hx hb hts i_MM t_MM t_MM_ok n_MM hown hK hP hD hS 0 rfl rfl 8 (by decide) (hts _ k_881) (fun _ h9 => h9) rfl (by decide +kernel) rfl rfl (Nat.le_of_ble_eq_true rfl) d_MM_read_46 (fun H locs hP hD hS => ?_)
  have hP : va_P D vwCl [(a0, .inr (9, [.ref x0_nameHead, .ref x0_nameTail, .ref x0_nameOf, .ref x0_windows, .ref x0_koi, .int 0, .ref x0_ready, .ref x0_tape, .int 0, .ref x0_text, .int 0, .ref x0_out, .ref x0_src, .int 0, .int 0, .int 0, .int 0, .int 0, .int 0, .int 0, .int 0, .int 0, .int 0]))] H := hP
  have hD : va_D A [(a0, .inr (9, [.ref x0_nameHead, .ref x0_nameTail, .ref x0_nameOf, .ref x0_windows, .ref x0_koi, .int 0, .ref x0_ready, .ref x0_tape, .int 0, .ref x0_text, .int 0, .ref x0_out, .ref x0_src, .int 0, .int 0, .int 0, .int 0, .int 0, .int 0, .int 0, .int 0, .int 0, .int 0]))] := hD
  refine lv_aload_n hx hb d_MM_read_49 rfl (lv_at hl 0 rfl) ?_
  refine va_get (D := D) (ci := 9) (v := .int 0) (C := "MailCharactersModel") (T := F_MM) (N := 23) hx hb hts i_MM hown hK hP 0 rfl rfl 10 (by decide) (hts _ k_883) (fun _ h9 => h9) rfl d_MM_read_50 ?_
  exact hret 0 () _ _ _ _ d_MM_read_53 rfl rfl hP hD hS
theorem cw_MM_read_6 {R : Room} {s : State} {args : Array Value} {own : String} {idx : Nat} (hts : ∀ w ∈ gW, w.before args s = true) (hl : Cond.methodLink own idx y_MM_read ∈ gW) (hR : rm_MM_read_6.frames + 1 ≤ R.frames ∧ 8 + (2 + 11) + rm_MM_read_6.locals ≤ R.locals) : CallW R s args own "MailCharactersModel" idx y_MM_read b_MM_read 2 (some .int) w_MM_read rm_MM_read_6 0 0 1 := cwV 1 hts (gW_V hl k_1028 k_1029 k_77 k_1030) rfl rfl rfl (by decide +kernel) hR
def rm_MM_isCharset_7 : Room := { frames := 0, cells := 0, slots := 0, locals := 0 }
set_option maxHeartbeats 4000000 in
set_option maxRecDepth 100000 in
theorem c_MM_isCharset_7 (l : Launch) (D : va_G) (Z : gZT) (kI : ClassId) (sz : Nat) : gMi l y_MM_isCharset w_MM_isCharset rm_MM_isCharset_7 D Z kI [.int 7] sz ([] : va_W) (fun (r : Int32) (_u : Unit) => r = 1) (fun (_u : Unit) => ([] : va_W)) := by
  refine g_ofi (cc := b_MM_isCharset) (maxL := 1) (ty := .boolean) (by decide) rfl (Nat.le_of_ble_eq_true rfl) ?_
  intro p e s m below meth c A Q H ls hx hb hml hown hts hA hK hZ hP hD hS hl hret
  have hown : s.vm.findClass "MailCharactersModel" = some m.cls := hown
  have hl : lv_has ls 1 [(0, .int 7)] := hl
  refine lv_iload_n hx hb d_MM_isCharset_0 rfl (lv_at hl 0 rfl) ?_
  refine lv_if_lt (tgt := 14) hx hb d_MM_isCharset_1 (by decide) (fun h9 => absurd h9 (by decide +kernel)) (fun _ => ?_)
  refine lv_iload_n hx hb d_MM_isCharset_4 rfl (lv_at hl 0 rfl) ?_
  refine lv_bipush (v := 9) hx hb d_MM_isCharset_5 (by decide) ?_
  refine lv_icmp_gt (tgt := 14) hx hb d_MM_isCharset_7 (by decide) (fun h9 => absurd h9 (by decide +kernel)) (fun _ => ?_)
  refine lv_iconst (v := 1) hx hb d_MM_isCharset_10 (by decide) ?_
  refine lv_goto (tgt := 15) hx hb d_MM_isCharset_11 (by decide) ?_
  exact hret 1 () _ _ _ _ d_MM_isCharset_15 rfl rfl hP hD hS
theorem cw_MM_isCharset_7 {R : Room} {s : State} {args : Array Value} {own : String} {idx : Nat} (hts : ∀ w ∈ gW, w.before args s = true) (hl : Cond.methodLink own idx y_MM_isCharset ∈ gW) (hR : rm_MM_isCharset_7.frames + 1 ≤ R.frames ∧ 8 + (1 + 11) + rm_MM_isCharset_7.locals ≤ R.locals) : CallB R s args own idx y_MM_isCharset b_MM_isCharset 1 (some .boolean) w_MM_isCharset rm_MM_isCharset_7 0 0 1 ∧ (Cond.static y_MM_isCharset).before args s = true := va_cwS 1 hts (gW_S hl k_1032 k_77 k_1033) rfl rfl rfl (by decide +kernel) hR
def rm_MM_readUnits_1 : Room := { frames := 1, cells := 0, slots := 0, locals := 20 }
set_option maxHeartbeats 4000000 in
set_option maxRecDepth 100000 in
theorem c_MM_readUnits_1 (l : Launch) (D : va_G) (Z : gZT) (kI : ClassId) (a0 : Nat) (x0_nameHead : Nat) (x0_nameTail : Nat) (x0_nameOf : Nat) (x0_windows : Nat) (x0_koi : Nat) (x0_ready : Nat) (x0_tape : Nat) (x0_text : Nat) (x0_out : Nat) (x0_src : Nat) (sz : Nat) : gMv l y_MM_readUnits w_MM_readUnits rm_MM_readUnits_1 D Z kI [.ref a0, .int 1] sz [(a0, .inr (9, [.ref x0_nameHead, .ref x0_nameTail, .ref x0_nameOf, .ref x0_windows, .ref x0_koi, .int 0, .ref x0_ready, .ref x0_tape, .int 0, .ref x0_text, .int 0, .ref x0_out, .ref x0_src, .int 0, .int 0, .int 0, .int 0, .int 0, .int 0, .int 0, .int 0, .int 0, .int 0]))] (fun (_u : Unit) => True) (fun (_u : Unit) => ([(a0, .inr (9, [.ref x0_nameHead, .ref x0_nameTail, .ref x0_nameOf, .ref x0_windows, .ref x0_koi, .int 0, .ref x0_ready, .ref x0_tape, .int 0, .ref x0_text, .int 0, .ref x0_out, .ref x0_src, .int 0, .int 0, .int 0, .int 0, .int 0, .int 0, .int 0, .int 0, .int 0, .int 0]))] : va_W)) := by
  refine g_ofv (cc := b_MM_readUnits) (maxL := 4) (by decide) rfl (Nat.le_of_ble_eq_true rfl) ?_
  intro p e s m below meth c A Q H ls hx hb hml hown hts hA hK hZ hP hD hS hl hret
  have hown : s.vm.findClass "MailCharactersModel" = some m.cls := hown
  have hl : lv_has ls 4 [(0, .ref a0), (1, .int 1)] := hl
  refine lv_aload_n hx hb d_MM_readUnits_0 rfl (lv_at hl 0 rfl) ?_
  refine lv_iconst (v := 0) hx hb d_MM_readUnits_1 (by decide) ?_
  refine va_put (D := D) (ci := 9) (v := .int 0) (ty := .int) (C := "MailCharactersModel") (T := F_MM) (N := 23) hx hb hts i_MM t_MM t_MM_ok n_MM hown hK hP hD hS 0 rfl rfl 18 (by decide) (hts _ k_891) (fun _ h9 => h9) rfl (by decide +kernel) rfl rfl (Nat.le_of_ble_eq_true rfl) d_MM_readUnits_2 (fun H locs hP hD hS => ?_)
  have hP : va_P D vwCl [(a0, .inr (9, [.ref x0_nameHead, .ref x0_nameTail, .ref x0_nameOf, .ref x0_windows, .ref x0_koi, .int 0, .ref x0_ready, .ref x0_tape, .int 0, .ref x0_text, .int 0, .ref x0_out, .ref x0_src, .int 0, .int 0, .int 0, .int 0, .int 0, .int 0, .int 0, .int 0, .int 0, .int 0]))] H := hP
  have hD : va_D A [(a0, .inr (9, [.ref x0_nameHead, .ref x0_nameTail, .ref x0_nameOf, .ref x0_windows, .ref x0_koi, .int 0, .ref x0_ready, .ref x0_tape, .int 0, .ref x0_text, .int 0, .ref x0_out, .ref x0_src, .int 0, .int 0, .int 0, .int 0, .int 0, .int 0, .int 0, .int 0, .int 0, .int 0]))] := hD
  refine lv_aload_n hx hb d_MM_readUnits_5 rfl (lv_at hl 0 rfl) ?_
  refine va_get (D := D) (ci := 9) (v := .int 0) (C := "MailCharactersModel") (T := F_MM) (N := 23) hx hb hts i_MM hown hK hP 0 rfl rfl 15 (by decide) (hts _ k_888) (fun _ h9 => h9) rfl d_MM_readUnits_6 ?_
  refine lv_iconst (v := 1) hx hb d_MM_readUnits_9 (by decide) ?_
  refine lv_iadd hx hb d_MM_readUnits_10 ?_
  refine lv_topi (fun x_1 ex_1 => ?_)
  obtain rfl : x_1 = 1 := ex_1.trans (by decide)
  refine lv_aload_n hx hb d_MM_readUnits_11 rfl (lv_at hl 0 rfl) ?_
  refine va_get (D := D) (ci := 9) (v := .int 0) (C := "MailCharactersModel") (T := F_MM) (N := 23) hx hb hts i_MM hown hK hP 0 rfl rfl 14 (by decide) (hts _ k_887) (fun _ h9 => h9) rfl d_MM_readUnits_12 ?_
  refine lv_icmp_ge (tgt := 74) hx hb d_MM_readUnits_15 (by decide) (fun _ => ?_) (fun h9 => absurd h9 (by decide +kernel))
  refine lv_aload_n hx hb d_MM_readUnits_74 rfl (lv_at hl 0 rfl) ?_
  refine g_Vv (As := []) (rest := []) (wr := []) ⟨hx, hb, hml, hown, hts⟩ (c_MM_endUnits_0 l D Z kI a0 x0_nameHead x0_nameTail x0_nameOf x0_windows x0_koi x0_ready x0_tape x0_text x0_out x0_src H.size) (cw_MM_endUnits_0 hts k_1069 ⟨Nat.le_of_ble_eq_true rfl, Nat.le_of_ble_eq_true rfl⟩) hK hZ hP hD hS hA [0] [] (g_recv hK hP (ci := 9) (q0 := 0) rfl rfl) rfl rfl (by decide) (by decide) (by decide) rfl hl.1 rfl (Nat.le_of_ble_eq_true rfl) d_MM_readUnits_75 ⟨Nat.zero_le _, Nat.zero_le _⟩ (fun u_2 H locs hw hP hD hS => ?_)
  have hP : va_P D vwCl [(a0, .inr (9, [.ref x0_nameHead, .ref x0_nameTail, .ref x0_nameOf, .ref x0_windows, .ref x0_koi, .int 0, .ref x0_ready, .ref x0_tape, .int 0, .ref x0_text, .int 0, .ref x0_out, .ref x0_src, .int 0, .int 0, .int 0, .int 0, .int 0, .int 0, .int 0, .int 0, .int 0, .int 0]))] H := hP
  have hD : va_D A [(a0, .inr (9, [.ref x0_nameHead, .ref x0_nameTail, .ref x0_nameOf, .ref x0_windows, .ref x0_koi, .int 0, .ref x0_ready, .ref x0_tape, .int 0, .ref x0_text, .int 0, .ref x0_out, .ref x0_src, .int 0, .int 0, .int 0, .int 0, .int 0, .int 0, .int 0, .int 0, .int 0, .int 0]))] := hD
  refine lv_aload_n hx hb d_MM_readUnits_78 rfl (lv_at hl 0 rfl) ?_
  refine va_get (D := D) (ci := 9) (v := .int 0) (C := "MailCharactersModel") (T := F_MM) (N := 23) hx hb hts i_MM hown hK hP 0 rfl rfl 15 (by decide) (hts _ k_888) (fun _ h9 => h9) rfl d_MM_readUnits_79 ?_
  refine lv_aload_n hx hb d_MM_readUnits_82 rfl (lv_at hl 0 rfl) ?_
  refine va_get (D := D) (ci := 9) (v := .int 0) (C := "MailCharactersModel") (T := F_MM) (N := 23) hx hb hts i_MM hown hK hP 0 rfl rfl 14 (by decide) (hts _ k_887) (fun _ h9 => h9) rfl d_MM_readUnits_83 ?_
  refine lv_icmp_ge (tgt := 105) hx hb d_MM_readUnits_86 (by decide) (fun _ => ?_) (fun h9 => absurd h9 (by decide +kernel))
  exact hret () _ _ _ _ d_MM_readUnits_105 trivial hP hD hS
theorem cw_MM_readUnits_1 {R : Room} {s : State} {args : Array Value} {own : String} {idx : Nat} (hts : ∀ w ∈ gW, w.before args s = true) (hl : Cond.methodLink own idx y_MM_readUnits ∈ gW) (hR : rm_MM_readUnits_1.frames + 1 ≤ R.frames ∧ 8 + (4 + 11) + rm_MM_readUnits_1.locals ≤ R.locals) : CallW R s args own "MailCharactersModel" idx y_MM_readUnits b_MM_readUnits 4 none w_MM_readUnits rm_MM_readUnits_1 0 0 1 := cwV 1 hts (gW_V hl k_1052 k_42 k_77 k_1053) rfl rfl rfl (by decide +kernel) hR
def rm_MM_readAll_7 : Room := { frames := 2, cells := 0, slots := 0, locals := 43 }
set_option maxHeartbeats 4000000 in
set_option maxRecDepth 100000 in
theorem c_MM_readAll_7 (l : Launch) (D : va_G) (Z : gZT) (kI : ClassId) (a0 : Nat) (x0_nameHead : Nat) (x0_nameTail : Nat) (x0_nameOf : Nat) (x0_windows : Nat) (x0_koi : Nat) (x0_ready : Nat) (x0_tape : Nat) (x0_text : Nat) (x0_out : Nat) (x0_src : Nat) (sz : Nat) : gMv l y_MM_readAll w_MM_readAll rm_MM_readAll_7 D Z kI [.ref a0, .int 7] sz [(a0, .inr (9, [.ref x0_nameHead, .ref x0_nameTail, .ref x0_nameOf, .ref x0_windows, .ref x0_koi, .int 0, .ref x0_ready, .ref x0_tape, .int 0, .ref x0_text, .int 0, .ref x0_out, .ref x0_src, .int 0, .int 0, .int 0, .int 0, .int 0, .int 0, .int 0, .int 0, .int 0, .int 0]))] (fun (_u : Unit) => True) (fun (_u : Unit) => ([(a0, .inr (9, [.ref x0_nameHead, .ref x0_nameTail, .ref x0_nameOf, .ref x0_windows, .ref x0_koi, .int 0, .ref x0_ready, .ref x0_tape, .int 0, .ref x0_text, .int 0, .ref x0_out, .ref x0_src, .int 0, .int 0, .int 0, .int 0, .int 0, .int 0, .int 0, .int 0, .int 0, .int 0]))] : va_W)) := by
  refine g_ofv (cc := b_MM_readAll) (maxL := 2) (by decide) rfl (Nat.le_of_ble_eq_true rfl) ?_
  intro p e s m below meth c A Q H ls hx hb hml hown hts hA hK hZ hP hD hS hl hret
  have hown : s.vm.findClass "MailCharactersModel" = some m.cls := hown
  have hl : lv_has ls 2 [(0, .ref a0), (1, .int 7)] := hl
  refine lv_aload_n hx hb d_MM_readAll_0 rfl (lv_at hl 0 rfl) ?_
  refine lv_iconst (v := 0) hx hb d_MM_readAll_1 (by decide) ?_
  refine va_put (D := D) (ci := 9) (v := .int 0) (ty := .int) (C := "MailCharactersModel") (T := F_MM) (N := 23) hx hb hts i_MM t_MM t_MM_ok n_MM hown hK hP hD hS 0 rfl rfl 15 (by decide) (hts _ k_888) (fun _ h9 => h9) rfl (by decide +kernel) rfl rfl (Nat.le_of_ble_eq_true rfl) d_MM_readAll_2 (fun H locs hP hD hS => ?_)
  have hP : va_P D vwCl [(a0, .inr (9, [.ref x0_nameHead, .ref x0_nameTail, .ref x0_nameOf, .ref x0_windows, .ref x0_koi, .int 0, .ref x0_ready, .ref x0_tape, .int 0, .ref x0_text, .int 0, .ref x0_out, .ref x0_src, .int 0, .int 0, .int 0, .int 0, .int 0, .int 0, .int 0, .int 0, .int 0, .int 0]))] H := hP
  have hD : va_D A [(a0, .inr (9, [.ref x0_nameHead, .ref x0_nameTail, .ref x0_nameOf, .ref x0_windows, .ref x0_koi, .int 0, .ref x0_ready, .ref x0_tape, .int 0, .ref x0_text, .int 0, .ref x0_out, .ref x0_src, .int 0, .int 0, .int 0, .int 0, .int 0, .int 0, .int 0, .int 0, .int 0, .int 0]))] := hD
  refine lv_iload_n hx hb d_MM_readAll_5 rfl (lv_at hl 1 rfl) ?_
  refine lv_iconst (v := 5) hx hb d_MM_readAll_6 (by decide) ?_
  refine lv_icmp_ne (tgt := 17) hx hb d_MM_readAll_7 (by decide) (fun _ => ?_) (fun h9 => absurd h9 (by decide +kernel))
  refine lv_iload_n hx hb d_MM_readAll_17 rfl (lv_at hl 1 rfl) ?_
  refine lv_bipush (v := 6) hx hb d_MM_readAll_18 (by decide) ?_
  refine lv_icmp_eq (tgt := 29) hx hb d_MM_readAll_20 (by decide) (fun h9 => absurd h9 (by decide +kernel)) (fun _ => ?_)
  refine lv_iload_n hx hb d_MM_readAll_23 rfl (lv_at hl 1 rfl) ?_
  refine lv_bipush (v := 7) hx hb d_MM_readAll_24 (by decide) ?_
  refine lv_icmp_ne (tgt := 44) hx hb d_MM_readAll_26 (by decide) (fun h9 => absurd h9 (by decide +kernel)) (fun _ => ?_)
  refine lv_aload_n hx hb d_MM_readAll_29 rfl (lv_at hl 0 rfl) ?_
  refine lv_iload_n hx hb d_MM_readAll_30 rfl (lv_at hl 1 rfl) ?_
  refine lv_bipush (v := 7) hx hb d_MM_readAll_31 (by decide) ?_
  refine lv_icmp_ne (tgt := 40) hx hb d_MM_readAll_33 (by decide) (fun h9 => absurd h9 (by decide +kernel)) (fun _ => ?_)
  refine lv_iconst (v := 1) hx hb d_MM_readAll_36 (by decide) ?_
  refine lv_goto (tgt := 41) hx hb d_MM_readAll_37 (by decide) ?_
  refine g_Vv (As := [.int 1]) (rest := []) (wr := []) ⟨hx, hb, hml, hown, hts⟩ (c_MM_readUnits_1 l D Z kI a0 x0_nameHead x0_nameTail x0_nameOf x0_windows x0_koi x0_ready x0_tape x0_text x0_out x0_src H.size) (cw_MM_readUnits_1 hts k_1050 ⟨Nat.le_of_ble_eq_true rfl, Nat.le_of_ble_eq_true rfl⟩) hK hZ hP hD hS hA [0] [] (g_recv hK hP (ci := 9) (q0 := 0) rfl rfl) rfl rfl (by decide) (by decide) (by decide) rfl hl.1 rfl (Nat.le_of_ble_eq_true rfl) d_MM_readAll_41 ⟨Nat.zero_le _, Nat.zero_le _⟩ (fun u_1 H locs hw hP hD hS => ?_)
  have hP : va_P D vwCl [(a0, .inr (9, [.ref x0_nameHead, .ref x0_nameTail, .ref x0_nameOf, .ref x0_windows, .ref x0_koi, .int 0, .ref x0_ready, .ref x0_tape, .int 0, .ref x0_text, .int 0, .ref x0_out, .ref x0_src, .int 0, .int 0, .int 0, .int 0, .int 0, .int 0, .int 0, .int 0, .int 0, .int 0]))] H := hP
  have hD : va_D A [(a0, .inr (9, [.ref x0_nameHead, .ref x0_nameTail, .ref x0_nameOf, .ref x0_windows, .ref x0_koi, .int 0, .ref x0_ready, .ref x0_tape, .int 0, .ref x0_text, .int 0, .ref x0_out, .ref x0_src, .int 0, .int 0, .int 0, .int 0, .int 0, .int 0, .int 0, .int 0, .int 0, .int 0]))] := hD
  refine lv_aload_n hx hb d_MM_readAll_44 rfl (lv_at hl 0 rfl) ?_
  refine va_get (D := D) (ci := 9) (v := .int 0) (C := "MailCharactersModel") (T := F_MM) (N := 23) hx hb hts i_MM hown hK hP 0 rfl rfl 15 (by decide) (hts _ k_888) (fun _ h9 => h9) rfl d_MM_readAll_45 ?_
  refine lv_aload_n hx hb d_MM_readAll_48 rfl (lv_at hl 0 rfl) ?_
  refine va_get (D := D) (ci := 9) (v := .int 0) (C := "MailCharactersModel") (T := F_MM) (N := 23) hx hb hts i_MM hown hK hP 0 rfl rfl 14 (by decide) (hts _ k_887) (fun _ h9 => h9) rfl d_MM_readAll_49 ?_
  refine lv_icmp_ge (tgt := 110) hx hb d_MM_readAll_52 (by decide) (fun _ => ?_) (fun h9 => absurd h9 (by decide +kernel))
  exact hret () _ _ _ _ d_MM_readAll_110 trivial hP hD hS
theorem cw_MM_readAll_7 {R : Room} {s : State} {args : Array Value} {own : String} {idx : Nat} (hts : ∀ w ∈ gW, w.before args s = true) (hl : Cond.methodLink own idx y_MM_readAll ∈ gW) (hR : rm_MM_readAll_7.frames + 1 ≤ R.frames ∧ 8 + (2 + 11) + rm_MM_readAll_7.locals ≤ R.locals) : CallW R s args own "MailCharactersModel" idx y_MM_readAll b_MM_readAll 2 none w_MM_readAll rm_MM_readAll_7 0 0 1 := cwV 1 hts (gW_V hl k_1040 k_39 k_77 k_1041) rfl rfl rfl (by decide +kernel) hR
def rm_MM_read_7 : Room := { frames := 3, cells := 0, slots := 0, locals := 64 }
set_option maxHeartbeats 4000000 in
set_option maxRecDepth 100000 in
theorem c_MM_read_7 (l : Launch) (D : va_G) (Z : gZT) (kI : ClassId) (a0 : Nat) (x0_nameHead : Nat) (x0_nameTail : Nat) (x0_nameOf : Nat) (x0_windows : Nat) (x0_koi : Nat) (x0_ready : Nat) (x0_tape : Nat) (x0_text : Nat) (x0_out : Nat) (x0_src : Nat) (sz : Nat) : gMi l y_MM_read w_MM_read rm_MM_read_7 D Z kI [.ref a0, .int 7] sz [(a0, .inr (9, [.ref x0_nameHead, .ref x0_nameTail, .ref x0_nameOf, .ref x0_windows, .ref x0_koi, .int 0, .ref x0_ready, .ref x0_tape, .int 0, .ref x0_text, .int 0, .ref x0_out, .ref x0_src, .int 0, .int 0, .int 0, .int 0, .int 0, .int 0, .int 0, .int 0, .int 0, .int 0]))] (fun (r : Int32) (_u : Unit) => r = 0) (fun (_u : Unit) => ([(a0, .inr (9, [.ref x0_nameHead, .ref x0_nameTail, .ref x0_nameOf, .ref x0_windows, .ref x0_koi, .int 0, .ref x0_ready, .ref x0_tape, .int 0, .ref x0_text, .int 0, .ref x0_out, .ref x0_src, .int 0, .int 0, .int 0, .int 0, .int 0, .int 0, .int 0, .int 0, .int 0, .int 0]))] : va_W)) := by
  refine g_ofi (cc := b_MM_read) (maxL := 2) (ty := .int) (by decide) rfl (Nat.le_of_ble_eq_true rfl) ?_
  intro p e s m below meth c A Q H ls hx hb hml hown hts hA hK hZ hP hD hS hl hret
  have hown : s.vm.findClass "MailCharactersModel" = some m.cls := hown
  have hl : lv_has ls 2 [(0, .ref a0), (1, .int 7)] := hl
  refine lv_aload_n hx hb d_MM_read_0 rfl (lv_at hl 0 rfl) ?_
  refine lv_iload_n hx hb d_MM_read_1 rfl (lv_at hl 1 rfl) ?_
  refine g_Si (As := [.int 7]) (rest := [.ref a0]) (wr := [(a0, .inr (9, [.ref x0_nameHead, .ref x0_nameTail, .ref x0_nameOf, .ref x0_windows, .ref x0_koi, .int 0, .ref x0_ready, .ref x0_tape, .int 0, .ref x0_text, .int 0, .ref x0_out, .ref x0_src, .int 0, .int 0, .int 0, .int 0, .int 0, .int 0, .int 0, .int 0, .int 0, .int 0]))]) ⟨hx, hb, hml, hown, hts⟩ (c_MM_isCharset_7 l D Z kI H.size) (cw_MM_isCharset_7 hts k_1031 ⟨Nat.le_of_ble_eq_true rfl, Nat.le_of_ble_eq_true rfl⟩) hK hZ hP hD hS hA [] [0] rfl rfl (by decide) (by decide) (by decide) rfl hl.1 rfl (Nat.le_of_ble_eq_true rfl) d_MM_read_2 ⟨Nat.zero_le _, Nat.zero_le _⟩ (fun r_1 u_1 H locs hw hP hD hS => ?_)
  obtain rfl : r_1 = 1 := hw
  have hP : va_P D vwCl [(a0, .inr (9, [.ref x0_nameHead, .ref x0_nameTail, .ref x0_nameOf, .ref x0_windows, .ref x0_koi, .int 0, .ref x0_ready, .ref x0_tape, .int 0, .ref x0_text, .int 0, .ref x0_out, .ref x0_src, .int 0, .int 0, .int 0, .int 0, .int 0, .int 0, .int 0, .int 0, .int 0, .int 0]))] H := hP
  have hD : va_D A [(a0, .inr (9, [.ref x0_nameHead, .ref x0_nameTail, .ref x0_nameOf, .ref x0_windows, .ref x0_koi, .int 0, .ref x0_ready, .ref x0_tape, .int 0, .ref x0_text, .int 0, .ref x0_out, .ref x0_src, .int 0, .int 0, .int 0, .int 0, .int 0, .int 0, .int 0, .int 0, .int 0, .int 0]))] := hD
  refine lv_if_eq (tgt := 12) hx hb d_MM_read_5 (by decide) (fun h9 => absurd h9 (by decide +kernel)) (fun _ => ?_)
  refine lv_iconst (v := 0) hx hb d_MM_read_8 (by decide) ?_
  refine lv_goto (tgt := 13) hx hb d_MM_read_9 (by decide) ?_
  refine va_put (D := D) (ci := 9) (v := .int 0) (ty := .int) (C := "MailCharactersModel") (T := F_MM) (N := 23) hx hb hts i_MM t_MM t_MM_ok n_MM hown hK hP hD hS 0 rfl rfl 5 (by decide) (hts _ k_878) (fun _ h9 => h9) rfl (by decide +kernel) rfl rfl (Nat.le_of_ble_eq_true rfl) d_MM_read_13 (fun H locs hP hD hS => ?_)
  have hP : va_P D vwCl [(a0, .inr (9, [.ref x0_nameHead, .ref x0_nameTail, .ref x0_nameOf, .ref x0_windows, .ref x0_koi, .int 0, .ref x0_ready, .ref x0_tape, .int 0, .ref x0_text, .int 0, .ref x0_out, .ref x0_src, .int 0, .int 0, .int 0, .int 0, .int 0, .int 0, .int 0, .int 0, .int 0, .int 0]))] H := hP
  have hD : va_D A [(a0, .inr (9, [.ref x0_nameHead, .ref x0_nameTail, .ref x0_nameOf, .ref x0_windows, .ref x0_koi, .int 0, .ref x0_ready, .ref x0_tape, .int 0, .ref x0_text, .int 0, .ref x0_out, .ref x0_src, .int 0, .int 0, .int 0, .int 0, .int 0, .int 0, .int 0, .int 0, .int 0, .int 0]))] := hD
  refine lv_aload_n hx hb d_MM_read_16 rfl (lv_at hl 0 rfl) ?_
  refine va_get (D := D) (ci := 9) (v := .int 0) (C := "MailCharactersModel") (T := F_MM) (N := 23) hx hb hts i_MM hown hK hP 0 rfl rfl 5 (by decide) (hts _ k_878) (fun _ h9 => h9) rfl d_MM_read_17 ?_
  refine lv_if_le (tgt := 25) hx hb d_MM_read_20 (by decide) (fun _ => ?_) (fun h9 => absurd h9 (by decide +kernel))
  refine lv_aload_n hx hb d_MM_read_25 rfl (lv_at hl 0 rfl) ?_
  refine lv_iconst (v := 0) hx hb d_MM_read_26 (by decide) ?_
  refine va_put (D := D) (ci := 9) (v := .int 0) (ty := .int) (C := "MailCharactersModel") (T := F_MM) (N := 23) hx hb hts i_MM t_MM t_MM_ok n_MM hown hK hP hD hS 0 rfl rfl 10 (by decide) (hts _ k_883) (fun _ h9 => h9) rfl (by decide +kernel) rfl rfl (Nat.le_of_ble_eq_true rfl) d_MM_read_27 (fun H locs hP hD hS => ?_)
  have hP : va_P D vwCl [(a0, .inr (9, [.ref x0_nameHead, .ref x0_nameTail, .ref x0_nameOf, .ref x0_windows, .ref x0_koi, .int 0, .ref x0_ready, .ref x0_tape, .int 0, .ref x0_text, .int 0, .ref x0_out, .ref x0_src, .int 0, .int 0, .int 0, .int 0, .int 0, .int 0, .int 0, .int 0, .int 0, .int 0]))] H := hP
  have hD : va_D A [(a0, .inr (9, [.ref x0_nameHead, .ref x0_nameTail, .ref x0_nameOf, .ref x0_windows, .ref x0_koi, .int 0, .ref x0_ready, .ref x0_tape, .int 0, .ref x0_text, .int 0, .ref x0_out, .ref x0_src, .int 0, .int 0, .int 0, .int 0, .int 0, .int 0, .int 0, .int 0, .int 0, .int 0]))] := hD
  refine lv_aload_n hx hb d_MM_read_30 rfl (lv_at hl 0 rfl) ?_
  refine lv_iconst (v := 0) hx hb d_MM_read_31 (by decide) ?_
  refine lv_aload_n hx hb d_MM_read_32 rfl (lv_at hl 0 rfl) ?_
  refine va_get (D := D) (ci := 9) (v := .int 0) (C := "MailCharactersModel") (T := F_MM) (N := 23) hx hb hts i_MM hown hK hP 0 rfl rfl 8 (by decide) (hts _ k_881) (fun _ h9 => h9) rfl d_MM_read_33 ?_
  refine g_Vv (As := [.int 0, .int 0]) (rest := []) (wr := []) ⟨hx, hb, hml, hown, hts⟩ (c_MM_tapeToSrc_0 l D Z kI a0 x0_nameHead x0_nameTail x0_nameOf x0_windows x0_koi x0_ready x0_tape x0_text x0_out x0_src H.size) (cw_MM_tapeToSrc_0 hts k_1034 ⟨Nat.le_of_ble_eq_true rfl, Nat.le_of_ble_eq_true rfl⟩) hK hZ hP hD hS hA [0] [] (g_recv hK hP (ci := 9) (q0 := 0) rfl rfl) rfl rfl (by decide) (by decide) (by decide) rfl hl.1 rfl (Nat.le_of_ble_eq_true rfl) d_MM_read_36 ⟨Nat.zero_le _, Nat.zero_le _⟩ (fun u_2 H locs hw hP hD hS => ?_)
  have hP : va_P D vwCl [(a0, .inr (9, [.ref x0_nameHead, .ref x0_nameTail, .ref x0_nameOf, .ref x0_windows, .ref x0_koi, .int 0, .ref x0_ready, .ref x0_tape, .int 0, .ref x0_text, .int 0, .ref x0_out, .ref x0_src, .int 0, .int 0, .int 0, .int 0, .int 0, .int 0, .int 0, .int 0, .int 0, .int 0]))] H := hP
  have hD : va_D A [(a0, .inr (9, [.ref x0_nameHead, .ref x0_nameTail, .ref x0_nameOf, .ref x0_windows, .ref x0_koi, .int 0, .ref x0_ready, .ref x0_tape, .int 0, .ref x0_text, .int 0, .ref x0_out, .ref x0_src, .int 0, .int 0, .int 0, .int 0, .int 0, .int 0, .int 0, .int 0, .int 0, .int 0]))] := hD
  refine lv_aload_n hx hb d_MM_read_39 rfl (lv_at hl 0 rfl) ?_
  refine lv_iload_n hx hb d_MM_read_40 rfl (lv_at hl 1 rfl) ?_
  refine g_Vv (As := [.int 7]) (rest := []) (wr := []) ⟨hx, hb, hml, hown, hts⟩ (c_MM_readAll_7 l D Z kI a0 x0_nameHead x0_nameTail x0_nameOf x0_windows x0_koi x0_ready x0_tape x0_text x0_out x0_src H.size) (cw_MM_readAll_7 hts k_1038 ⟨Nat.le_of_ble_eq_true rfl, Nat.le_of_ble_eq_true rfl⟩) hK hZ hP hD hS hA [0] [] (g_recv hK hP (ci := 9) (q0 := 0) rfl rfl) rfl rfl (by decide) (by decide) (by decide) rfl hl.1 rfl (Nat.le_of_ble_eq_true rfl) d_MM_read_41 ⟨Nat.zero_le _, Nat.zero_le _⟩ (fun u_3 H locs hw hP hD hS => ?_)
  have hP : va_P D vwCl [(a0, .inr (9, [.ref x0_nameHead, .ref x0_nameTail, .ref x0_nameOf, .ref x0_windows, .ref x0_koi, .int 0, .ref x0_ready, .ref x0_tape, .int 0, .ref x0_text, .int 0, .ref x0_out, .ref x0_src, .int 0, .int 0, .int 0, .int 0, .int 0, .int 0, .int 0, .int 0, .int 0, .int 0]))] H := hP
  have hD : va_D A [(a0, .inr (9, [.ref x0_nameHead, .ref x0_nameTail, .ref x0_nameOf, .ref x0_windows, .ref x0_koi, .int 0, .ref x0_ready, .ref x0_tape, .int 0, .ref x0_text, .int 0, .ref x0_out, .ref x0_src, .int 0, .int 0, .int 0, .int 0, .int 0, .int 0, .int 0, .int 0, .int 0, .int 0]))] := hD
  refine lv_aload_n hx hb d_MM_read_44 rfl (lv_at hl 0 rfl) ?_
  refine lv_iconst (v := 0) hx hb d_MM_read_45 (by decide) ?_
  refine va_put (D := D) (ci := 9) (v := .int 0) (ty := .int) (C := "MailCharactersModel") (T := F_MM) (N := 23) hx hb hts i_MM t_MM t_MM_ok n_MM hown hK hP hD hS 0 rfl rfl 8 (by decide) (hts _ k_881) (fun _ h9 => h9) rfl (by decide +kernel) rfl rfl (Nat.le_of_ble_eq_true rfl) d_MM_read_46 (fun H locs hP hD hS => ?_)
  have hP : va_P D vwCl [(a0, .inr (9, [.ref x0_nameHead, .ref x0_nameTail, .ref x0_nameOf, .ref x0_windows, .ref x0_koi, .int 0, .ref x0_ready, .ref x0_tape, .int 0, .ref x0_text, .int 0, .ref x0_out, .ref x0_src, .int 0, .int 0, .int 0, .int 0, .int 0, .int 0, .int 0, .int 0, .int 0, .int 0]))] H := hP
  have hD : va_D A [(a0, .inr (9, [.ref x0_nameHead, .ref x0_nameTail, .ref x0_nameOf, .ref x0_windows, .ref x0_koi, .int 0, .ref x0_ready, .ref x0_tape, .int 0, .ref x0_text, .int 0, .ref x0_out, .ref x0_src, .int 0, .int 0, .int 0, .int 0, .int 0, .int 0, .int 0, .int 0, .int 0, .int 0]))] := hD
  refine lv_aload_n hx hb d_MM_read_49 rfl (lv_at hl 0 rfl) ?_
  refine va_get (D := D) (ci := 9) (v := .int 0) (C := "MailCharactersModel") (T := F_MM) (N := 23) hx hb hts i_MM hown hK hP 0 rfl rfl 10 (by decide) (hts _ k_883) (fun _ h9 => h9) rfl d_MM_read_50 ?_
  exact hret 0 () _ _ _ _ d_MM_read_53 rfl rfl hP hD hS
theorem cw_MM_read_7 {R : Room} {s : State} {args : Array Value} {own : String} {idx : Nat} (hts : ∀ w ∈ gW, w.before args s = true) (hl : Cond.methodLink own idx y_MM_read ∈ gW) (hR : rm_MM_read_7.frames + 1 ≤ R.frames ∧ 8 + (2 + 11) + rm_MM_read_7.locals ≤ R.locals) : CallW R s args own "MailCharactersModel" idx y_MM_read b_MM_read 2 (some .int) w_MM_read rm_MM_read_7 0 0 1 := cwV 1 hts (gW_V hl k_1028 k_1029 k_77 k_1030) rfl rfl rfl (by decide +kernel) hR
def rm_MM_isCharset_8 : Room := { frames := 0, cells := 0, slots := 0, locals := 0 }
set_option maxHeartbeats 4000000 in
set_option maxRecDepth 100000 in
theorem c_MM_isCharset_8 (l : Launch) (D : va_G) (Z : gZT) (kI : ClassId) (sz : Nat) : gMi l y_MM_isCharset w_MM_isCharset rm_MM_isCharset_8 D Z kI [.int 8] sz ([] : va_W) (fun (r : Int32) (_u : Unit) => r = 1) (fun (_u : Unit) => ([] : va_W)) := by
  refine g_ofi (cc := b_MM_isCharset) (maxL := 1) (ty := .boolean) (by decide) rfl (Nat.le_of_ble_eq_true rfl) ?_
  intro p e s m below meth c A Q H ls hx hb hml hown hts hA hK hZ hP hD hS hl hret
  have hown : s.vm.findClass "MailCharactersModel" = some m.cls := hown
  have hl : lv_has ls 1 [(0, .int 8)] := hl
  refine lv_iload_n hx hb d_MM_isCharset_0 rfl (lv_at hl 0 rfl) ?_
  refine lv_if_lt (tgt := 14) hx hb d_MM_isCharset_1 (by decide) (fun h9 => absurd h9 (by decide +kernel)) (fun _ => ?_)
  refine lv_iload_n hx hb d_MM_isCharset_4 rfl (lv_at hl 0 rfl) ?_
  refine lv_bipush (v := 9) hx hb d_MM_isCharset_5 (by decide) ?_
  refine lv_icmp_gt (tgt := 14) hx hb d_MM_isCharset_7 (by decide) (fun h9 => absurd h9 (by decide +kernel)) (fun _ => ?_)
  refine lv_iconst (v := 1) hx hb d_MM_isCharset_10 (by decide) ?_
  refine lv_goto (tgt := 15) hx hb d_MM_isCharset_11 (by decide) ?_
  exact hret 1 () _ _ _ _ d_MM_isCharset_15 rfl rfl hP hD hS
theorem cw_MM_isCharset_8 {R : Room} {s : State} {args : Array Value} {own : String} {idx : Nat} (hts : ∀ w ∈ gW, w.before args s = true) (hl : Cond.methodLink own idx y_MM_isCharset ∈ gW) (hR : rm_MM_isCharset_8.frames + 1 ≤ R.frames ∧ 8 + (1 + 11) + rm_MM_isCharset_8.locals ≤ R.locals) : CallB R s args own idx y_MM_isCharset b_MM_isCharset 1 (some .boolean) w_MM_isCharset rm_MM_isCharset_8 0 0 1 ∧ (Cond.static y_MM_isCharset).before args s = true := va_cwS 1 hts (gW_S hl k_1032 k_77 k_1033) rfl rfl rfl (by decide +kernel) hR
def rm_MM_readAll_8 : Room := { frames := 0, cells := 0, slots := 0, locals := 0 }
set_option maxHeartbeats 4000000 in
set_option maxRecDepth 100000 in
theorem c_MM_readAll_8 (l : Launch) (D : va_G) (Z : gZT) (kI : ClassId) (a0 : Nat) (x0_nameHead : Nat) (x0_nameTail : Nat) (x0_nameOf : Nat) (x0_windows : Nat) (x0_koi : Nat) (x0_ready : Nat) (x0_tape : Nat) (x0_text : Nat) (x0_out : Nat) (x0_src : Nat) (sz : Nat) : gMv l y_MM_readAll w_MM_readAll rm_MM_readAll_8 D Z kI [.ref a0, .int 8] sz [(a0, .inr (9, [.ref x0_nameHead, .ref x0_nameTail, .ref x0_nameOf, .ref x0_windows, .ref x0_koi, .int 0, .ref x0_ready, .ref x0_tape, .int 0, .ref x0_text, .int 0, .ref x0_out, .ref x0_src, .int 0, .int 0, .int 0, .int 0, .int 0, .int 0, .int 0, .int 0, .int 0, .int 0]))] (fun (_u : Unit) => True) (fun (_u : Unit) => ([(a0, .inr (9, [.ref x0_nameHead, .ref x0_nameTail, .ref x0_nameOf, .ref x0_windows, .ref x0_koi, .int 0, .ref x0_ready, .ref x0_tape, .int 0, .ref x0_text, .int 0, .ref x0_out, .ref x0_src, .int 0, .int 0, .int 0, .int 0, .int 0, .int 0, .int 0, .int 0, .int 0, .int 0]))] : va_W)) := by
  refine g_ofv (cc := b_MM_readAll) (maxL := 2) (by decide) rfl (Nat.le_of_ble_eq_true rfl) ?_
  intro p e s m below meth c A Q H ls hx hb hml hown hts hA hK hZ hP hD hS hl hret
  have hown : s.vm.findClass "MailCharactersModel" = some m.cls := hown
  have hl : lv_has ls 2 [(0, .ref a0), (1, .int 8)] := hl
  refine lv_aload_n hx hb d_MM_readAll_0 rfl (lv_at hl 0 rfl) ?_
  refine lv_iconst (v := 0) hx hb d_MM_readAll_1 (by decide) ?_
  refine va_put (D := D) (ci := 9) (v := .int 0) (ty := .int) (C := "MailCharactersModel") (T := F_MM) (N := 23) hx hb hts i_MM t_MM t_MM_ok n_MM hown hK hP hD hS 0 rfl rfl 15 (by decide) (hts _ k_888) (fun _ h9 => h9) rfl (by decide +kernel) rfl rfl (Nat.le_of_ble_eq_true rfl) d_MM_readAll_2 (fun H locs hP hD hS => ?_)
  have hP : va_P D vwCl [(a0, .inr (9, [.ref x0_nameHead, .ref x0_nameTail, .ref x0_nameOf, .ref x0_windows, .ref x0_koi, .int 0, .ref x0_ready, .ref x0_tape, .int 0, .ref x0_text, .int 0, .ref x0_out, .ref x0_src, .int 0, .int 0, .int 0, .int 0, .int 0, .int 0, .int 0, .int 0, .int 0, .int 0]))] H := hP
  have hD : va_D A [(a0, .inr (9, [.ref x0_nameHead, .ref x0_nameTail, .ref x0_nameOf, .ref x0_windows, .ref x0_koi, .int 0, .ref x0_ready, .ref x0_tape, .int 0, .ref x0_text, .int 0, .ref x0_out, .ref x0_src, .int 0, .int 0, .int 0, .int 0, .int 0, .int 0, .int 0, .int 0, .int 0, .int 0]))] := hD
  refine lv_iload_n hx hb d_MM_readAll_5 rfl (lv_at hl 1 rfl) ?_
  refine lv_iconst (v := 5) hx hb d_MM_readAll_6 (by decide) ?_
  refine lv_icmp_ne (tgt := 17) hx hb d_MM_readAll_7 (by decide) (fun _ => ?_) (fun h9 => absurd h9 (by decide +kernel))
  refine lv_iload_n hx hb d_MM_readAll_17 rfl (lv_at hl 1 rfl) ?_
  refine lv_bipush (v := 6) hx hb d_MM_readAll_18 (by decide) ?_
  refine lv_icmp_eq (tgt := 29) hx hb d_MM_readAll_20 (by decide) (fun h9 => absurd h9 (by decide +kernel)) (fun _ => ?_)
  refine lv_iload_n hx hb d_MM_readAll_23 rfl (lv_at hl 1 rfl) ?_
  refine lv_bipush (v := 7) hx hb d_MM_readAll_24 (by decide) ?_
  refine lv_icmp_ne (tgt := 44) hx hb d_MM_readAll_26 (by decide) (fun _ => ?_) (fun h9 => absurd h9 (by decide +kernel))
  refine lv_aload_n hx hb d_MM_readAll_44 rfl (lv_at hl 0 rfl) ?_
  refine va_get (D := D) (ci := 9) (v := .int 0) (C := "MailCharactersModel") (T := F_MM) (N := 23) hx hb hts i_MM hown hK hP 0 rfl rfl 15 (by decide) (hts _ k_888) (fun _ h9 => h9) rfl d_MM_readAll_45 ?_
  refine lv_aload_n hx hb d_MM_readAll_48 rfl (lv_at hl 0 rfl) ?_
  refine va_get (D := D) (ci := 9) (v := .int 0) (C := "MailCharactersModel") (T := F_MM) (N := 23) hx hb hts i_MM hown hK hP 0 rfl rfl 14 (by decide) (hts _ k_887) (fun _ h9 => h9) rfl d_MM_readAll_49 ?_
  refine lv_icmp_ge (tgt := 110) hx hb d_MM_readAll_52 (by decide) (fun _ => ?_) (fun h9 => absurd h9 (by decide +kernel))
  exact hret () _ _ _ _ d_MM_readAll_110 trivial hP hD hS
theorem cw_MM_readAll_8 {R : Room} {s : State} {args : Array Value} {own : String} {idx : Nat} (hts : ∀ w ∈ gW, w.before args s = true) (hl : Cond.methodLink own idx y_MM_readAll ∈ gW) (hR : rm_MM_readAll_8.frames + 1 ≤ R.frames ∧ 8 + (2 + 11) + rm_MM_readAll_8.locals ≤ R.locals) : CallW R s args own "MailCharactersModel" idx y_MM_readAll b_MM_readAll 2 none w_MM_readAll rm_MM_readAll_8 0 0 1 := cwV 1 hts (gW_V hl k_1040 k_39 k_77 k_1041) rfl rfl rfl (by decide +kernel) hR
def rm_MM_read_8 : Room := { frames := 1, cells := 0, slots := 0, locals := 23 }
set_option maxHeartbeats 4000000 in
set_option maxRecDepth 100000 in
theorem c_MM_read_8 (l : Launch) (D : va_G) (Z : gZT) (kI : ClassId) (a0 : Nat) (x0_nameHead : Nat) (x0_nameTail : Nat) (x0_nameOf : Nat) (x0_windows : Nat) (x0_koi : Nat) (x0_ready : Nat) (x0_tape : Nat) (x0_text : Nat) (x0_out : Nat) (x0_src : Nat) (sz : Nat) : gMi l y_MM_read w_MM_read rm_MM_read_8 D Z kI [.ref a0, .int 8] sz [(a0, .inr (9, [.ref x0_nameHead, .ref x0_nameTail, .ref x0_nameOf, .ref x0_windows, .ref x0_koi, .int 0, .ref x0_ready, .ref x0_tape, .int 0, .ref x0_text, .int 0, .ref x0_out, .ref x0_src, .int 0, .int 0, .int 0, .int 0, .int 0, .int 0, .int 0, .int 0, .int 0, .int 0]))] (fun (r : Int32) (_u : Unit) => r = 0) (fun (_u : Unit) => ([(a0, .inr (9, [.ref x0_nameHead, .ref x0_nameTail, .ref x0_nameOf, .ref x0_windows, .ref x0_koi, .int 0, .ref x0_ready, .ref x0_tape, .int 0, .ref x0_text, .int 0, .ref x0_out, .ref x0_src, .int 0, .int 0, .int 0, .int 0, .int 0, .int 0, .int 0, .int 0, .int 0, .int 0]))] : va_W)) := by
  refine g_ofi (cc := b_MM_read) (maxL := 2) (ty := .int) (by decide) rfl (Nat.le_of_ble_eq_true rfl) ?_
  intro p e s m below meth c A Q H ls hx hb hml hown hts hA hK hZ hP hD hS hl hret
  have hown : s.vm.findClass "MailCharactersModel" = some m.cls := hown
  have hl : lv_has ls 2 [(0, .ref a0), (1, .int 8)] := hl
  refine lv_aload_n hx hb d_MM_read_0 rfl (lv_at hl 0 rfl) ?_
  refine lv_iload_n hx hb d_MM_read_1 rfl (lv_at hl 1 rfl) ?_
  refine g_Si (As := [.int 8]) (rest := [.ref a0]) (wr := [(a0, .inr (9, [.ref x0_nameHead, .ref x0_nameTail, .ref x0_nameOf, .ref x0_windows, .ref x0_koi, .int 0, .ref x0_ready, .ref x0_tape, .int 0, .ref x0_text, .int 0, .ref x0_out, .ref x0_src, .int 0, .int 0, .int 0, .int 0, .int 0, .int 0, .int 0, .int 0, .int 0, .int 0]))]) ⟨hx, hb, hml, hown, hts⟩ (c_MM_isCharset_8 l D Z kI H.size) (cw_MM_isCharset_8 hts k_1031 ⟨Nat.le_of_ble_eq_true rfl, Nat.le_of_ble_eq_true rfl⟩) hK hZ hP hD hS hA [] [0] rfl rfl (by decide) (by decide) (by decide) rfl hl.1 rfl (Nat.le_of_ble_eq_true rfl) d_MM_read_2 ⟨Nat.zero_le _, Nat.zero_le _⟩ (fun r_1 u_1 H locs hw hP hD hS => ?_)
  obtain rfl : r_1 = 1 := hw
  have hP : va_P D vwCl [(a0, .inr (9, [.ref x0_nameHead, .ref x0_nameTail, .ref x0_nameOf, .ref x0_windows, .ref x0_koi, .int 0, .ref x0_ready, .ref x0_tape, .int 0, .ref x0_text, .int 0, .ref x0_out, .ref x0_src, .int 0, .int 0, .int 0, .int 0, .int 0, .int 0, .int 0, .int 0, .int 0, .int 0]))] H := hP
  have hD : va_D A [(a0, .inr (9, [.ref x0_nameHead, .ref x0_nameTail, .ref x0_nameOf, .ref x0_windows, .ref x0_koi, .int 0, .ref x0_ready, .ref x0_tape, .int 0, .ref x0_text, .int 0, .ref x0_out, .ref x0_src, .int 0, .int 0, .int 0, .int 0, .int 0, .int 0, .int 0, .int 0, .int 0, .int 0]))] := hD
  refine lv_if_eq (tgt := 12) hx hb d_MM_read_5 (by decide) (fun h9 => absurd h9 (by decide +kernel)) (fun _ => ?_)
  refine lv_iconst (v := 0) hx hb d_MM_read_8 (by decide) ?_
  refine lv_goto (tgt := 13) hx hb d_MM_read_9 (by decide) ?_
  refine va_put (D := D) (ci := 9) (v := .int 0) (ty := .int) (C := "MailCharactersModel") (T := F_MM) (N := 23) hx hb hts i_MM t_MM t_MM_ok n_MM hown hK hP hD hS 0 rfl rfl 5 (by decide) (hts _ k_878) (fun _ h9 => h9) rfl (by decide +kernel) rfl rfl (Nat.le_of_ble_eq_true rfl) d_MM_read_13 (fun H locs hP hD hS => ?_)
  have hP : va_P D vwCl [(a0, .inr (9, [.ref x0_nameHead, .ref x0_nameTail, .ref x0_nameOf, .ref x0_windows, .ref x0_koi, .int 0, .ref x0_ready, .ref x0_tape, .int 0, .ref x0_text, .int 0, .ref x0_out, .ref x0_src, .int 0, .int 0, .int 0, .int 0, .int 0, .int 0, .int 0, .int 0, .int 0, .int 0]))] H := hP
  have hD : va_D A [(a0, .inr (9, [.ref x0_nameHead, .ref x0_nameTail, .ref x0_nameOf, .ref x0_windows, .ref x0_koi, .int 0, .ref x0_ready, .ref x0_tape, .int 0, .ref x0_text, .int 0, .ref x0_out, .ref x0_src, .int 0, .int 0, .int 0, .int 0, .int 0, .int 0, .int 0, .int 0, .int 0, .int 0]))] := hD
  refine lv_aload_n hx hb d_MM_read_16 rfl (lv_at hl 0 rfl) ?_
  refine va_get (D := D) (ci := 9) (v := .int 0) (C := "MailCharactersModel") (T := F_MM) (N := 23) hx hb hts i_MM hown hK hP 0 rfl rfl 5 (by decide) (hts _ k_878) (fun _ h9 => h9) rfl d_MM_read_17 ?_
  refine lv_if_le (tgt := 25) hx hb d_MM_read_20 (by decide) (fun _ => ?_) (fun h9 => absurd h9 (by decide +kernel))
  refine lv_aload_n hx hb d_MM_read_25 rfl (lv_at hl 0 rfl) ?_
  refine lv_iconst (v := 0) hx hb d_MM_read_26 (by decide) ?_
  refine va_put (D := D) (ci := 9) (v := .int 0) (ty := .int) (C := "MailCharactersModel") (T := F_MM) (N := 23) hx hb hts i_MM t_MM t_MM_ok n_MM hown hK hP hD hS 0 rfl rfl 10 (by decide) (hts _ k_883) (fun _ h9 => h9) rfl (by decide +kernel) rfl rfl (Nat.le_of_ble_eq_true rfl) d_MM_read_27 (fun H locs hP hD hS => ?_)
  have hP : va_P D vwCl [(a0, .inr (9, [.ref x0_nameHead, .ref x0_nameTail, .ref x0_nameOf, .ref x0_windows, .ref x0_koi, .int 0, .ref x0_ready, .ref x0_tape, .int 0, .ref x0_text, .int 0, .ref x0_out, .ref x0_src, .int 0, .int 0, .int 0, .int 0, .int 0, .int 0, .int 0, .int 0, .int 0, .int 0]))] H := hP
  have hD : va_D A [(a0, .inr (9, [.ref x0_nameHead, .ref x0_nameTail, .ref x0_nameOf, .ref x0_windows, .ref x0_koi, .int 0, .ref x0_ready, .ref x0_tape, .int 0, .ref x0_text, .int 0, .ref x0_out, .ref x0_src, .int 0, .int 0, .int 0, .int 0, .int 0, .int 0, .int 0, .int 0, .int 0, .int 0]))] := hD
  refine lv_aload_n hx hb d_MM_read_30 rfl (lv_at hl 0 rfl) ?_
  refine lv_iconst (v := 0) hx hb d_MM_read_31 (by decide) ?_
  refine lv_aload_n hx hb d_MM_read_32 rfl (lv_at hl 0 rfl) ?_
  refine va_get (D := D) (ci := 9) (v := .int 0) (C := "MailCharactersModel") (T := F_MM) (N := 23) hx hb hts i_MM hown hK hP 0 rfl rfl 8 (by decide) (hts _ k_881) (fun _ h9 => h9) rfl d_MM_read_33 ?_
  refine g_Vv (As := [.int 0, .int 0]) (rest := []) (wr := []) ⟨hx, hb, hml, hown, hts⟩ (c_MM_tapeToSrc_0 l D Z kI a0 x0_nameHead x0_nameTail x0_nameOf x0_windows x0_koi x0_ready x0_tape x0_text x0_out x0_src H.size) (cw_MM_tapeToSrc_0 hts k_1034 ⟨Nat.le_of_ble_eq_true rfl, Nat.le_of_ble_eq_true rfl⟩) hK hZ hP hD hS hA [0] [] (g_recv hK hP (ci := 9) (q0 := 0) rfl rfl) rfl rfl (by decide) (by decide) (by decide) rfl hl.1 rfl (Nat.le_of_ble_eq_true rfl) d_MM_read_36 ⟨Nat.zero_le _, Nat.zero_le _⟩ (fun u_2 H locs hw hP hD hS => ?_)
  have hP : va_P D vwCl [(a0, .inr (9, [.ref x0_nameHead, .ref x0_nameTail, .ref x0_nameOf, .ref x0_windows, .ref x0_koi, .int 0, .ref x0_ready, .ref x0_tape, .int 0, .ref x0_text, .int 0, .ref x0_out, .ref x0_src, .int 0, .int 0, .int 0, .int 0, .int 0, .int 0, .int 0, .int 0, .int 0, .int 0]))] H := hP
  have hD : va_D A [(a0, .inr (9, [.ref x0_nameHead, .ref x0_nameTail, .ref x0_nameOf, .ref x0_windows, .ref x0_koi, .int 0, .ref x0_ready, .ref x0_tape, .int 0, .ref x0_text, .int 0, .ref x0_out, .ref x0_src, .int 0, .int 0, .int 0, .int 0, .int 0, .int 0, .int 0, .int 0, .int 0, .int 0]))] := hD
  refine lv_aload_n hx hb d_MM_read_39 rfl (lv_at hl 0 rfl) ?_
  refine lv_iload_n hx hb d_MM_read_40 rfl (lv_at hl 1 rfl) ?_
  refine g_Vv (As := [.int 8]) (rest := []) (wr := []) ⟨hx, hb, hml, hown, hts⟩ (c_MM_readAll_8 l D Z kI a0 x0_nameHead x0_nameTail x0_nameOf x0_windows x0_koi x0_ready x0_tape x0_text x0_out x0_src H.size) (cw_MM_readAll_8 hts k_1038 ⟨Nat.le_of_ble_eq_true rfl, Nat.le_of_ble_eq_true rfl⟩) hK hZ hP hD hS hA [0] [] (g_recv hK hP (ci := 9) (q0 := 0) rfl rfl) rfl rfl (by decide) (by decide) (by decide) rfl hl.1 rfl (Nat.le_of_ble_eq_true rfl) d_MM_read_41 ⟨Nat.zero_le _, Nat.zero_le _⟩ (fun u_3 H locs hw hP hD hS => ?_)
  have hP : va_P D vwCl [(a0, .inr (9, [.ref x0_nameHead, .ref x0_nameTail, .ref x0_nameOf, .ref x0_windows, .ref x0_koi, .int 0, .ref x0_ready, .ref x0_tape, .int 0, .ref x0_text, .int 0, .ref x0_out, .ref x0_src, .int 0, .int 0, .int 0, .int 0, .int 0, .int 0, .int 0, .int 0, .int 0, .int 0]))] H := hP
  have hD : va_D A [(a0, .inr (9, [.ref x0_nameHead, .ref x0_nameTail, .ref x0_nameOf, .ref x0_windows, .ref x0_koi, .int 0, .ref x0_ready, .ref x0_tape, .int 0, .ref x0_text, .int 0, .ref x0_out, .ref x0_src, .int 0, .int 0, .int 0, .int 0, .int 0, .int 0, .int 0, .int 0, .int 0, .int 0]))] := hD
  refine lv_aload_n hx hb d_MM_read_44 rfl (lv_at hl 0 rfl) ?_
  refine lv_iconst (v := 0) hx hb d_MM_read_45 (by decide) ?_
  refine va_put (D := D) (ci := 9) (v := .int 0) (ty := .int) (C := "MailCharactersModel") (T := F_MM) (N := 23) hx hb hts i_MM t_MM t_MM_ok n_MM hown hK hP hD hS 0 rfl rfl 8 (by decide) (hts _ k_881) (fun _ h9 => h9) rfl (by decide +kernel) rfl rfl (Nat.le_of_ble_eq_true rfl) d_MM_read_46 (fun H locs hP hD hS => ?_)
  have hP : va_P D vwCl [(a0, .inr (9, [.ref x0_nameHead, .ref x0_nameTail, .ref x0_nameOf, .ref x0_windows, .ref x0_koi, .int 0, .ref x0_ready, .ref x0_tape, .int 0, .ref x0_text, .int 0, .ref x0_out, .ref x0_src, .int 0, .int 0, .int 0, .int 0, .int 0, .int 0, .int 0, .int 0, .int 0, .int 0]))] H := hP
  have hD : va_D A [(a0, .inr (9, [.ref x0_nameHead, .ref x0_nameTail, .ref x0_nameOf, .ref x0_windows, .ref x0_koi, .int 0, .ref x0_ready, .ref x0_tape, .int 0, .ref x0_text, .int 0, .ref x0_out, .ref x0_src, .int 0, .int 0, .int 0, .int 0, .int 0, .int 0, .int 0, .int 0, .int 0, .int 0]))] := hD
  refine lv_aload_n hx hb d_MM_read_49 rfl (lv_at hl 0 rfl) ?_
  refine va_get (D := D) (ci := 9) (v := .int 0) (C := "MailCharactersModel") (T := F_MM) (N := 23) hx hb hts i_MM hown hK hP 0 rfl rfl 10 (by decide) (hts _ k_883) (fun _ h9 => h9) rfl d_MM_read_50 ?_
  exact hret 0 () _ _ _ _ d_MM_read_53 rfl rfl hP hD hS
theorem cw_MM_read_8 {R : Room} {s : State} {args : Array Value} {own : String} {idx : Nat} (hts : ∀ w ∈ gW, w.before args s = true) (hl : Cond.methodLink own idx y_MM_read ∈ gW) (hR : rm_MM_read_8.frames + 1 ≤ R.frames ∧ 8 + (2 + 11) + rm_MM_read_8.locals ≤ R.locals) : CallW R s args own "MailCharactersModel" idx y_MM_read b_MM_read 2 (some .int) w_MM_read rm_MM_read_8 0 0 1 := cwV 1 hts (gW_V hl k_1028 k_1029 k_77 k_1030) rfl rfl rfl (by decide +kernel) hR
def rm_MM_isCharset_9 : Room := { frames := 0, cells := 0, slots := 0, locals := 0 }
set_option maxHeartbeats 4000000 in
set_option maxRecDepth 100000 in
theorem c_MM_isCharset_9 (l : Launch) (D : va_G) (Z : gZT) (kI : ClassId) (sz : Nat) : gMi l y_MM_isCharset w_MM_isCharset rm_MM_isCharset_9 D Z kI [.int 9] sz ([] : va_W) (fun (r : Int32) (_u : Unit) => r = 1) (fun (_u : Unit) => ([] : va_W)) := by
  refine g_ofi (cc := b_MM_isCharset) (maxL := 1) (ty := .boolean) (by decide) rfl (Nat.le_of_ble_eq_true rfl) ?_
  intro p e s m below meth c A Q H ls hx hb hml hown hts hA hK hZ hP hD hS hl hret
  have hown : s.vm.findClass "MailCharactersModel" = some m.cls := hown
  have hl : lv_has ls 1 [(0, .int 9)] := hl
  refine lv_iload_n hx hb d_MM_isCharset_0 rfl (lv_at hl 0 rfl) ?_
  refine lv_if_lt (tgt := 14) hx hb d_MM_isCharset_1 (by decide) (fun h9 => absurd h9 (by decide +kernel)) (fun _ => ?_)
  refine lv_iload_n hx hb d_MM_isCharset_4 rfl (lv_at hl 0 rfl) ?_
  refine lv_bipush (v := 9) hx hb d_MM_isCharset_5 (by decide) ?_
  refine lv_icmp_gt (tgt := 14) hx hb d_MM_isCharset_7 (by decide) (fun h9 => absurd h9 (by decide +kernel)) (fun _ => ?_)
  refine lv_iconst (v := 1) hx hb d_MM_isCharset_10 (by decide) ?_
  refine lv_goto (tgt := 15) hx hb d_MM_isCharset_11 (by decide) ?_
  exact hret 1 () _ _ _ _ d_MM_isCharset_15 rfl rfl hP hD hS
theorem cw_MM_isCharset_9 {R : Room} {s : State} {args : Array Value} {own : String} {idx : Nat} (hts : ∀ w ∈ gW, w.before args s = true) (hl : Cond.methodLink own idx y_MM_isCharset ∈ gW) (hR : rm_MM_isCharset_9.frames + 1 ≤ R.frames ∧ 8 + (1 + 11) + rm_MM_isCharset_9.locals ≤ R.locals) : CallB R s args own idx y_MM_isCharset b_MM_isCharset 1 (some .boolean) w_MM_isCharset rm_MM_isCharset_9 0 0 1 ∧ (Cond.static y_MM_isCharset).before args s = true := va_cwS 1 hts (gW_S hl k_1032 k_77 k_1033) rfl rfl rfl (by decide +kernel) hR
def rm_MM_readAll_9 : Room := { frames := 0, cells := 0, slots := 0, locals := 0 }
set_option maxHeartbeats 4000000 in
set_option maxRecDepth 100000 in
theorem c_MM_readAll_9 (l : Launch) (D : va_G) (Z : gZT) (kI : ClassId) (a0 : Nat) (x0_nameHead : Nat) (x0_nameTail : Nat) (x0_nameOf : Nat) (x0_windows : Nat) (x0_koi : Nat) (x0_ready : Nat) (x0_tape : Nat) (x0_text : Nat) (x0_out : Nat) (x0_src : Nat) (sz : Nat) : gMv l y_MM_readAll w_MM_readAll rm_MM_readAll_9 D Z kI [.ref a0, .int 9] sz [(a0, .inr (9, [.ref x0_nameHead, .ref x0_nameTail, .ref x0_nameOf, .ref x0_windows, .ref x0_koi, .int 0, .ref x0_ready, .ref x0_tape, .int 0, .ref x0_text, .int 0, .ref x0_out, .ref x0_src, .int 0, .int 0, .int 0, .int 0, .int 0, .int 0, .int 0, .int 0, .int 0, .int 0]))] (fun (_u : Unit) => True) (fun (_u : Unit) => ([(a0, .inr (9, [.ref x0_nameHead, .ref x0_nameTail, .ref x0_nameOf, .ref x0_windows, .ref x0_koi, .int 0, .ref x0_ready, .ref x0_tape, .int 0, .ref x0_text, .int 0, .ref x0_out, .ref x0_src, .int 0, .int 0, .int 0, .int 0, .int 0, .int 0, .int 0, .int 0, .int 0, .int 0]))] : va_W)) := by
  refine g_ofv (cc := b_MM_readAll) (maxL := 2) (by decide) rfl (Nat.le_of_ble_eq_true rfl) ?_
  intro p e s m below meth c A Q H ls hx hb hml hown hts hA hK hZ hP hD hS hl hret
  have hown : s.vm.findClass "MailCharactersModel" = some m.cls := hown
  have hl : lv_has ls 2 [(0, .ref a0), (1, .int 9)] := hl
  refine lv_aload_n hx hb d_MM_readAll_0 rfl (lv_at hl 0 rfl) ?_
  refine lv_iconst (v := 0) hx hb d_MM_readAll_1 (by decide) ?_
  refine va_put (D := D) (ci := 9) (v := .int 0) (ty := .int) (C := "MailCharactersModel") (T := F_MM) (N := 23) hx hb hts i_MM t_MM t_MM_ok n_MM hown hK hP hD hS 0 rfl rfl 15 (by decide) (hts _ k_888) (fun _ h9 => h9) rfl (by decide +kernel) rfl rfl (Nat.le_of_ble_eq_true rfl) d_MM_readAll_2 (fun H locs hP hD hS => ?_)
  have hP : va_P D vwCl [(a0, .inr (9, [.ref x0_nameHead, .ref x0_nameTail, .ref x0_nameOf, .ref x0_windows, .ref x0_koi, .int 0, .ref x0_ready, .ref x0_tape, .int 0, .ref x0_text, .int 0, .ref x0_out, .ref x0_src, .int 0, .int 0, .int 0, .int 0, .int 0, .int 0, .int 0, .int 0, .int 0, .int 0]))] H := hP
  have hD : va_D A [(a0, .inr (9, [.ref x0_nameHead, .ref x0_nameTail, .ref x0_nameOf, .ref x0_windows, .ref x0_koi, .int 0, .ref x0_ready, .ref x0_tape, .int 0, .ref x0_text, .int 0, .ref x0_out, .ref x0_src, .int 0, .int 0, .int 0, .int 0, .int 0, .int 0, .int 0, .int 0, .int 0, .int 0]))] := hD
  refine lv_iload_n hx hb d_MM_readAll_5 rfl (lv_at hl 1 rfl) ?_
  refine lv_iconst (v := 5) hx hb d_MM_readAll_6 (by decide) ?_
  refine lv_icmp_ne (tgt := 17) hx hb d_MM_readAll_7 (by decide) (fun _ => ?_) (fun h9 => absurd h9 (by decide +kernel))
  refine lv_iload_n hx hb d_MM_readAll_17 rfl (lv_at hl 1 rfl) ?_
  refine lv_bipush (v := 6) hx hb d_MM_readAll_18 (by decide) ?_
  refine lv_icmp_eq (tgt := 29) hx hb d_MM_readAll_20 (by decide) (fun h9 => absurd h9 (by decide +kernel)) (fun _ => ?_)
  refine lv_iload_n hx hb d_MM_readAll_23 rfl (lv_at hl 1 rfl) ?_
  refine lv_bipush (v := 7) hx hb d_MM_readAll_24 (by decide) ?_
  refine lv_icmp_ne (tgt := 44) hx hb d_MM_readAll_26 (by decide) (fun _ => ?_) (fun h9 => absurd h9 (by decide +kernel))
  refine lv_aload_n hx hb d_MM_readAll_44 rfl (lv_at hl 0 rfl) ?_
  refine va_get (D := D) (ci := 9) (v := .int 0) (C := "MailCharactersModel") (T := F_MM) (N := 23) hx hb hts i_MM hown hK hP 0 rfl rfl 15 (by decide) (hts _ k_888) (fun _ h9 => h9) rfl d_MM_readAll_45 ?_
  refine lv_aload_n hx hb d_MM_readAll_48 rfl (lv_at hl 0 rfl) ?_
  refine va_get (D := D) (ci := 9) (v := .int 0) (C := "MailCharactersModel") (T := F_MM) (N := 23) hx hb hts i_MM hown hK hP 0 rfl rfl 14 (by decide) (hts _ k_887) (fun _ h9 => h9) rfl d_MM_readAll_49 ?_
  refine lv_icmp_ge (tgt := 110) hx hb d_MM_readAll_52 (by decide) (fun _ => ?_) (fun h9 => absurd h9 (by decide +kernel))
  exact hret () _ _ _ _ d_MM_readAll_110 trivial hP hD hS
theorem cw_MM_readAll_9 {R : Room} {s : State} {args : Array Value} {own : String} {idx : Nat} (hts : ∀ w ∈ gW, w.before args s = true) (hl : Cond.methodLink own idx y_MM_readAll ∈ gW) (hR : rm_MM_readAll_9.frames + 1 ≤ R.frames ∧ 8 + (2 + 11) + rm_MM_readAll_9.locals ≤ R.locals) : CallW R s args own "MailCharactersModel" idx y_MM_readAll b_MM_readAll 2 none w_MM_readAll rm_MM_readAll_9 0 0 1 := cwV 1 hts (gW_V hl k_1040 k_39 k_77 k_1041) rfl rfl rfl (by decide +kernel) hR
def rm_MM_read_9 : Room := { frames := 1, cells := 0, slots := 0, locals := 23 }
set_option maxHeartbeats 4000000 in
set_option maxRecDepth 100000 in
theorem c_MM_read_9 (l : Launch) (D : va_G) (Z : gZT) (kI : ClassId) (a0 : Nat) (x0_nameHead : Nat) (x0_nameTail : Nat) (x0_nameOf : Nat) (x0_windows : Nat) (x0_koi : Nat) (x0_ready : Nat) (x0_tape : Nat) (x0_text : Nat) (x0_out : Nat) (x0_src : Nat) (sz : Nat) : gMi l y_MM_read w_MM_read rm_MM_read_9 D Z kI [.ref a0, .int 9] sz [(a0, .inr (9, [.ref x0_nameHead, .ref x0_nameTail, .ref x0_nameOf, .ref x0_windows, .ref x0_koi, .int 0, .ref x0_ready, .ref x0_tape, .int 0, .ref x0_text, .int 0, .ref x0_out, .ref x0_src, .int 0, .int 0, .int 0, .int 0, .int 0, .int 0, .int 0, .int 0, .int 0, .int 0]))] (fun (r : Int32) (_u : Unit) => r = 0) (fun (_u : Unit) => ([(a0, .inr (9, [.ref x0_nameHead, .ref x0_nameTail, .ref x0_nameOf, .ref x0_windows, .ref x0_koi, .int 0, .ref x0_ready, .ref x0_tape, .int 0, .ref x0_text, .int 0, .ref x0_out, .ref x0_src, .int 0, .int 0, .int 0, .int 0, .int 0, .int 0, .int 0, .int 0, .int 0, .int 0]))] : va_W)) := by
  refine g_ofi (cc := b_MM_read) (maxL := 2) (ty := .int) (by decide) rfl (Nat.le_of_ble_eq_true rfl) ?_
  intro p e s m below meth c A Q H ls hx hb hml hown hts hA hK hZ hP hD hS hl hret
  have hown : s.vm.findClass "MailCharactersModel" = some m.cls := hown
  have hl : lv_has ls 2 [(0, .ref a0), (1, .int 9)] := hl
  refine lv_aload_n hx hb d_MM_read_0 rfl (lv_at hl 0 rfl) ?_
  refine lv_iload_n hx hb d_MM_read_1 rfl (lv_at hl 1 rfl) ?_
  refine g_Si (As := [.int 9]) (rest := [.ref a0]) (wr := [(a0, .inr (9, [.ref x0_nameHead, .ref x0_nameTail, .ref x0_nameOf, .ref x0_windows, .ref x0_koi, .int 0, .ref x0_ready, .ref x0_tape, .int 0, .ref x0_text, .int 0, .ref x0_out, .ref x0_src, .int 0, .int 0, .int 0, .int 0, .int 0, .int 0, .int 0, .int 0, .int 0, .int 0]))]) ⟨hx, hb, hml, hown, hts⟩ (c_MM_isCharset_9 l D Z kI H.size) (cw_MM_isCharset_9 hts k_1031 ⟨Nat.le_of_ble_eq_true rfl, Nat.le_of_ble_eq_true rfl⟩) hK hZ hP hD hS hA [] [0] rfl rfl (by decide) (by decide) (by decide) rfl hl.1 rfl (Nat.le_of_ble_eq_true rfl) d_MM_read_2 ⟨Nat.zero_le _, Nat.zero_le _⟩ (fun r_1 u_1 H locs hw hP hD hS => ?_)
  obtain rfl : r_1 = 1 := hw
  have hP : va_P D vwCl [(a0, .inr (9, [.ref x0_nameHead, .ref x0_nameTail, .ref x0_nameOf, .ref x0_windows, .ref x0_koi, .int 0, .ref x0_ready, .ref x0_tape, .int 0, .ref x0_text, .int 0, .ref x0_out, .ref x0_src, .int 0, .int 0, .int 0, .int 0, .int 0, .int 0, .int 0, .int 0, .int 0, .int 0]))] H := hP
  have hD : va_D A [(a0, .inr (9, [.ref x0_nameHead, .ref x0_nameTail, .ref x0_nameOf, .ref x0_windows, .ref x0_koi, .int 0, .ref x0_ready, .ref x0_tape, .int 0, .ref x0_text, .int 0, .ref x0_out, .ref x0_src, .int 0, .int 0, .int 0, .int 0, .int 0, .int 0, .int 0, .int 0, .int 0, .int 0]))] := hD
  refine lv_if_eq (tgt := 12) hx hb d_MM_read_5 (by decide) (fun h9 => absurd h9 (by decide +kernel)) (fun _ => ?_)
  refine lv_iconst (v := 0) hx hb d_MM_read_8 (by decide) ?_
  refine lv_goto (tgt := 13) hx hb d_MM_read_9 (by decide) ?_
  refine va_put (D := D) (ci := 9) (v := .int 0) (ty := .int) (C := "MailCharactersModel") (T := F_MM) (N := 23) hx hb hts i_MM t_MM t_MM_ok n_MM hown hK hP hD hS 0 rfl rfl 5 (by decide) (hts _ k_878) (fun _ h9 => h9) rfl (by decide +kernel) rfl rfl (Nat.le_of_ble_eq_true rfl) d_MM_read_13 (fun H locs hP hD hS => ?_)
  have hP : va_P D vwCl [(a0, .inr (9, [.ref x0_nameHead, .ref x0_nameTail, .ref x0_nameOf, .ref x0_windows, .ref x0_koi, .int 0, .ref x0_ready, .ref x0_tape, .int 0, .ref x0_text, .int 0, .ref x0_out, .ref x0_src, .int 0, .int 0, .int 0, .int 0, .int 0, .int 0, .int 0, .int 0, .int 0, .int 0]))] H := hP
  have hD : va_D A [(a0, .inr (9, [.ref x0_nameHead, .ref x0_nameTail, .ref x0_nameOf, .ref x0_windows, .ref x0_koi, .int 0, .ref x0_ready, .ref x0_tape, .int 0, .ref x0_text, .int 0, .ref x0_out, .ref x0_src, .int 0, .int 0, .int 0, .int 0, .int 0, .int 0, .int 0, .int 0, .int 0, .int 0]))] := hD
  refine lv_aload_n hx hb d_MM_read_16 rfl (lv_at hl 0 rfl) ?_
  refine va_get (D := D) (ci := 9) (v := .int 0) (C := "MailCharactersModel") (T := F_MM) (N := 23) hx hb hts i_MM hown hK hP 0 rfl rfl 5 (by decide) (hts _ k_878) (fun _ h9 => h9) rfl d_MM_read_17 ?_
  refine lv_if_le (tgt := 25) hx hb d_MM_read_20 (by decide) (fun _ => ?_) (fun h9 => absurd h9 (by decide +kernel))
  refine lv_aload_n hx hb d_MM_read_25 rfl (lv_at hl 0 rfl) ?_
  refine lv_iconst (v := 0) hx hb d_MM_read_26 (by decide) ?_
  refine va_put (D := D) (ci := 9) (v := .int 0) (ty := .int) (C := "MailCharactersModel") (T := F_MM) (N := 23) hx hb hts i_MM t_MM t_MM_ok n_MM hown hK hP hD hS 0 rfl rfl 10 (by decide) (hts _ k_883) (fun _ h9 => h9) rfl (by decide +kernel) rfl rfl (Nat.le_of_ble_eq_true rfl) d_MM_read_27 (fun H locs hP hD hS => ?_)
  have hP : va_P D vwCl [(a0, .inr (9, [.ref x0_nameHead, .ref x0_nameTail, .ref x0_nameOf, .ref x0_windows, .ref x0_koi, .int 0, .ref x0_ready, .ref x0_tape, .int 0, .ref x0_text, .int 0, .ref x0_out, .ref x0_src, .int 0, .int 0, .int 0, .int 0, .int 0, .int 0, .int 0, .int 0, .int 0, .int 0]))] H := hP
  have hD : va_D A [(a0, .inr (9, [.ref x0_nameHead, .ref x0_nameTail, .ref x0_nameOf, .ref x0_windows, .ref x0_koi, .int 0, .ref x0_ready, .ref x0_tape, .int 0, .ref x0_text, .int 0, .ref x0_out, .ref x0_src, .int 0, .int 0, .int 0, .int 0, .int 0, .int 0, .int 0, .int 0, .int 0, .int 0]))] := hD
  refine lv_aload_n hx hb d_MM_read_30 rfl (lv_at hl 0 rfl) ?_
  refine lv_iconst (v := 0) hx hb d_MM_read_31 (by decide) ?_
  refine lv_aload_n hx hb d_MM_read_32 rfl (lv_at hl 0 rfl) ?_
  refine va_get (D := D) (ci := 9) (v := .int 0) (C := "MailCharactersModel") (T := F_MM) (N := 23) hx hb hts i_MM hown hK hP 0 rfl rfl 8 (by decide) (hts _ k_881) (fun _ h9 => h9) rfl d_MM_read_33 ?_
  refine g_Vv (As := [.int 0, .int 0]) (rest := []) (wr := []) ⟨hx, hb, hml, hown, hts⟩ (c_MM_tapeToSrc_0 l D Z kI a0 x0_nameHead x0_nameTail x0_nameOf x0_windows x0_koi x0_ready x0_tape x0_text x0_out x0_src H.size) (cw_MM_tapeToSrc_0 hts k_1034 ⟨Nat.le_of_ble_eq_true rfl, Nat.le_of_ble_eq_true rfl⟩) hK hZ hP hD hS hA [0] [] (g_recv hK hP (ci := 9) (q0 := 0) rfl rfl) rfl rfl (by decide) (by decide) (by decide) rfl hl.1 rfl (Nat.le_of_ble_eq_true rfl) d_MM_read_36 ⟨Nat.zero_le _, Nat.zero_le _⟩ (fun u_2 H locs hw hP hD hS => ?_)
  have hP : va_P D vwCl [(a0, .inr (9, [.ref x0_nameHead, .ref x0_nameTail, .ref x0_nameOf, .ref x0_windows, .ref x0_koi, .int 0, .ref x0_ready, .ref x0_tape, .int 0, .ref x0_text, .int 0, .ref x0_out, .ref x0_src, .int 0, .int 0, .int 0, .int 0, .int 0, .int 0, .int 0, .int 0, .int 0, .int 0]))] H := hP
  have hD : va_D A [(a0, .inr (9, [.ref x0_nameHead, .ref x0_nameTail, .ref x0_nameOf, .ref x0_windows, .ref x0_koi, .int 0, .ref x0_ready, .ref x0_tape, .int 0, .ref x0_text, .int 0, .ref x0_out, .ref x0_src, .int 0, .int 0, .int 0, .int 0, .int 0, .int 0, .int 0, .int 0, .int 0, .int 0]))] := hD
  refine lv_aload_n hx hb d_MM_read_39 rfl (lv_at hl 0 rfl) ?_
  refine lv_iload_n hx hb d_MM_read_40 rfl (lv_at hl 1 rfl) ?_
  refine g_Vv (As := [.int 9]) (rest := []) (wr := []) ⟨hx, hb, hml, hown, hts⟩ (c_MM_readAll_9 l D Z kI a0 x0_nameHead x0_nameTail x0_nameOf x0_windows x0_koi x0_ready x0_tape x0_text x0_out x0_src H.size) (cw_MM_readAll_9 hts k_1038 ⟨Nat.le_of_ble_eq_true rfl, Nat.le_of_ble_eq_true rfl⟩) hK hZ hP hD hS hA [0] [] (g_recv hK hP (ci := 9) (q0 := 0) rfl rfl) rfl rfl (by decide) (by decide) (by decide) rfl hl.1 rfl (Nat.le_of_ble_eq_true rfl) d_MM_read_41 ⟨Nat.zero_le _, Nat.zero_le _⟩ (fun u_3 H locs hw hP hD hS => ?_)
  have hP : va_P D vwCl [(a0, .inr (9, [.ref x0_nameHead, .ref x0_nameTail, .ref x0_nameOf, .ref x0_windows, .ref x0_koi, .int 0, .ref x0_ready, .ref x0_tape, .int 0, .ref x0_text, .int 0, .ref x0_out, .ref x0_src, .int 0, .int 0, .int 0, .int 0, .int 0, .int 0, .int 0, .int 0, .int 0, .int 0]))] H := hP
  have hD : va_D A [(a0, .inr (9, [.ref x0_nameHead, .ref x0_nameTail, .ref x0_nameOf, .ref x0_windows, .ref x0_koi, .int 0, .ref x0_ready, .ref x0_tape, .int 0, .ref x0_text, .int 0, .ref x0_out, .ref x0_src, .int 0, .int 0, .int 0, .int 0, .int 0, .int 0, .int 0, .int 0, .int 0, .int 0]))] := hD
  refine lv_aload_n hx hb d_MM_read_44 rfl (lv_at hl 0 rfl) ?_
  refine lv_iconst (v := 0) hx hb d_MM_read_45 (by decide) ?_
  refine va_put (D := D) (ci := 9) (v := .int 0) (ty := .int) (C := "MailCharactersModel") (T := F_MM) (N := 23) hx hb hts i_MM t_MM t_MM_ok n_MM hown hK hP hD hS 0 rfl rfl 8 (by decide) (hts _ k_881) (fun _ h9 => h9) rfl (by decide +kernel) rfl rfl (Nat.le_of_ble_eq_true rfl) d_MM_read_46 (fun H locs hP hD hS => ?_)
  have hP : va_P D vwCl [(a0, .inr (9, [.ref x0_nameHead, .ref x0_nameTail, .ref x0_nameOf, .ref x0_windows, .ref x0_koi, .int 0, .ref x0_ready, .ref x0_tape, .int 0, .ref x0_text, .int 0, .ref x0_out, .ref x0_src, .int 0, .int 0, .int 0, .int 0, .int 0, .int 0, .int 0, .int 0, .int 0, .int 0]))] H := hP
  have hD : va_D A [(a0, .inr (9, [.ref x0_nameHead, .ref x0_nameTail, .ref x0_nameOf, .ref x0_windows, .ref x0_koi, .int 0, .ref x0_ready, .ref x0_tape, .int 0, .ref x0_text, .int 0, .ref x0_out, .ref x0_src, .int 0, .int 0, .int 0, .int 0, .int 0, .int 0, .int 0, .int 0, .int 0, .int 0]))] := hD
  refine lv_aload_n hx hb d_MM_read_49 rfl (lv_at hl 0 rfl) ?_
  refine va_get (D := D) (ci := 9) (v := .int 0) (C := "MailCharactersModel") (T := F_MM) (N := 23) hx hb hts i_MM hown hK hP 0 rfl rfl 10 (by decide) (hts _ k_883) (fun _ h9 => h9) rfl d_MM_read_50 ?_
  exact hret 0 () _ _ _ _ d_MM_read_53 rfl rfl hP hD hS
theorem cw_MM_read_9 {R : Room} {s : State} {args : Array Value} {own : String} {idx : Nat} (hts : ∀ w ∈ gW, w.before args s = true) (hl : Cond.methodLink own idx y_MM_read ∈ gW) (hR : rm_MM_read_9.frames + 1 ≤ R.frames ∧ 8 + (2 + 11) + rm_MM_read_9.locals ≤ R.locals) : CallW R s args own "MailCharactersModel" idx y_MM_read b_MM_read 2 (some .int) w_MM_read rm_MM_read_9 0 0 1 := cwV 1 hts (gW_V hl k_1028 k_1029 k_77 k_1030) rfl rfl rfl (by decide +kernel) hR
