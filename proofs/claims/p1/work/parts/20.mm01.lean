def rm_MM_uncode_2 : Room := { frames := 1, cells := 0, slots := 0, locals := 26 }
set_option maxHeartbeats 4000000 in
set_option maxRecDepth 100000 in
theorem c_MM_uncode_2 (l : Launch) (D : va_G) (Z : gZT) (kI : ClassId) (a0 : Nat) (x0_nameHead : Nat) (x0_nameTail : Nat) (x0_nameOf : Nat) (x0_windows : Nat) (x0_koi : Nat) (x0_ready : Nat) (x0_tape : Nat) (x0_text : Nat) (x0_out : Nat) (x0_src : Nat) (sz : Nat) : gMi l y_MM_uncode w_MM_uncode rm_MM_uncode_2 D Z kI [.ref a0, .int 2] sz [(a0, .inr (9, [.ref x0_nameHead, .ref x0_nameTail, .ref x0_nameOf, .ref x0_windows, .ref x0_koi, .int 0, .ref x0_ready, .ref x0_tape, .int 0, .ref x0_text, .int 0, .ref x0_out, .ref x0_src, .int 0, .int 0, .int 0, .int 0, .int 0, .int 0, .int 0, .int 0, .int 0, .int 0]))] (fun (r : Int32) (_u : Unit) => r = 0) (fun (_u : Unit) => ([(a0, .inr (9, [.ref x0_nameHead, .ref x0_nameTail, .ref x0_nameOf, .ref x0_windows, .ref x0_koi, .int 0, .ref x0_ready, .ref x0_tape, .int 0, .ref x0_text, .int 0, .ref x0_out, .ref x0_src, .int 0, .int 0, .int 0, .int 0, .int 0, .int 0, .int 0, .int 0, .int 0, .int 0]))] : va_W)) := by
  refine g_ofi (cc := b_MM_uncode) (maxL := 2) (ty := .int) (by decide) rfl (Nat.le_of_ble_eq_true rfl) ?_
  intro p e s m below meth c A Q H ls hx hb hml hown hts hA hK hZ hP hD hS hl hret
  have hown : s.vm.findClass "MailCharactersModel" = some m.cls := hown
  have hl : lv_has ls 2 [(0, .ref a0), (1, .int 2)] := hl
  refine lv_aload_n hx hb d_MM_uncode_0 rfl (lv_at hl 0 rfl) ?_
  refine lv_iload_n hx hb d_MM_uncode_1 rfl (lv_at hl 1 rfl) ?_
  refine lv_if_lt (tgt := 10) hx hb d_MM_uncode_2 (by decide) (fun h9 => absurd h9 (by decide +kernel)) (fun _ => ?_)
  refine lv_iload_n hx hb d_MM_uncode_5 rfl (lv_at hl 1 rfl) ?_
  refine lv_iconst (v := 3) hx hb d_MM_uncode_6 (by decide) ?_
  refine lv_icmp_le (tgt := 14) hx hb d_MM_uncode_7 (by decide) (fun _ => ?_) (fun h9 => absurd h9 (by decide +kernel))
  refine lv_iconst (v := 0) hx hb d_MM_uncode_14 (by decide) ?_
  refine va_put (D := D) (ci := 9) (v := .int 0) (ty := .int) (C := "MailCharactersModel") (T := F_MM) (N := 23) hx hb hts i_MM t_MM t_MM_ok n_MM hown hK hP hD hS 0 rfl rfl 5 (by decide) (hts _ k_878) (fun _ h9 => h9) rfl (by decide +kernel) rfl rfl (Nat.le_of_ble_eq_true rfl) d_MM_uncode_15 (fun H locs hP hD hS => ?_)
  have hP : va_P D vwCl [(a0, .inr (9, [.ref x0_nameHead, .ref x0_nameTail, .ref x0_nameOf, .ref x0_windows, .ref x0_koi, .int 0, .ref x0_ready, .ref x0_tape, .int 0, .ref x0_text, .int 0, .ref x0_out, .ref x0_src, .int 0, .int 0, .int 0, .int 0, .int 0, .int 0, .int 0, .int 0, .int 0, .int 0]))] H := hP
  have hD : va_D A [(a0, .inr (9, [.ref x0_nameHead, .ref x0_nameTail, .ref x0_nameOf, .ref x0_windows, .ref x0_koi, .int 0, .ref x0_ready, .ref x0_tape, .int 0, .ref x0_text, .int 0, .ref x0_out, .ref x0_src, .int 0, .int 0, .int 0, .int 0, .int 0, .int 0, .int 0, .int 0, .int 0, .int 0]))] := hD
  refine lv_aload_n hx hb d_MM_uncode_18 rfl (lv_at hl 0 rfl) ?_
  refine va_get (D := D) (ci := 9) (v := .int 0) (C := "MailCharactersModel") (T := F_MM) (N := 23) hx hb hts i_MM hown hK hP 0 rfl rfl 5 (by decide) (hts _ k_878) (fun _ h9 => h9) rfl d_MM_uncode_19 ?_
  refine lv_if_le (tgt := 27) hx hb d_MM_uncode_22 (by decide) (fun _ => ?_) (fun h9 => absurd h9 (by decide +kernel))
  refine lv_aload_n hx hb d_MM_uncode_27 rfl (lv_at hl 0 rfl) ?_
  refine lv_iconst (v := 0) hx hb d_MM_uncode_28 (by decide) ?_
  refine va_put (D := D) (ci := 9) (v := .int 0) (ty := .int) (C := "MailCharactersModel") (T := F_MM) (N := 23) hx hb hts i_MM t_MM t_MM_ok n_MM hown hK hP hD hS 0 rfl rfl 13 (by decide) (hts _ k_886) (fun _ h9 => h9) rfl (by decide +kernel) rfl rfl (Nat.le_of_ble_eq_true rfl) d_MM_uncode_29 (fun H locs hP hD hS => ?_)
  have hP : va_P D vwCl [(a0, .inr (9, [.ref x0_nameHead, .ref x0_nameTail, .ref x0_nameOf, .ref x0_windows, .ref x0_koi, .int 0, .ref x0_ready, .ref x0_tape, .int 0, .ref x0_text, .int 0, .ref x0_out, .ref x0_src, .int 0, .int 0, .int 0, .int 0, .int 0, .int 0, .int 0, .int 0, .int 0, .int 0]))] H := hP
  have hD : va_D A [(a0, .inr (9, [.ref x0_nameHead, .ref x0_nameTail, .ref x0_nameOf, .ref x0_windows, .ref x0_koi, .int 0, .ref x0_ready, .ref x0_tape, .int 0, .ref x0_text, .int 0, .ref x0_out, .ref x0_src, .int 0, .int 0, .int 0, .int 0, .int 0, .int 0, .int 0, .int 0, .int 0, .int 0]))] := hD
  refine lv_iload_n hx hb d_MM_uncode_32 rfl (lv_at hl 1 rfl) ?_
  refine lv_iconst (v := 1) hx hb d_MM_uncode_33 (by decide) ?_
  refine lv_icmp_ne (tgt := 49) hx hb d_MM_uncode_34 (by decide) (fun _ => ?_) (fun h9 => absurd h9 (by decide +kernel))
  refine lv_iload_n hx hb d_MM_uncode_49 rfl (lv_at hl 1 rfl) ?_
  refine lv_iconst (v := 2) hx hb d_MM_uncode_50 (by decide) ?_
  refine lv_icmp_ne (tgt := 61) hx hb d_MM_uncode_51 (by decide) (fun h9 => absurd h9 (by decide +kernel)) (fun _ => ?_)
  refine lv_aload_n hx hb d_MM_uncode_54 rfl (lv_at hl 0 rfl) ?_
  refine g_Vv (As := []) (rest := []) (wr := []) ⟨hx, hb, hml, hown, hts⟩ (c_MM_unquote_0 l D Z kI a0 x0_nameHead x0_nameTail x0_nameOf x0_windows x0_koi x0_ready x0_tape x0_text x0_out x0_src H.size) (cw_MM_unquote_0 hts k_984 ⟨Nat.le_of_ble_eq_true rfl, Nat.le_of_ble_eq_true rfl⟩) hK hZ hP hD hS hA [0] [] (g_recv hK hP (ci := 9) (q0 := 0) rfl rfl) rfl rfl (by decide) (by decide) (by decide) rfl hl.1 rfl (Nat.le_of_ble_eq_true rfl) d_MM_uncode_55 ⟨Nat.zero_le _, Nat.zero_le _⟩ (fun u_1 H locs hw hP hD hS => ?_)
  have hP : va_P D vwCl [(a0, .inr (9, [.ref x0_nameHead, .ref x0_nameTail, .ref x0_nameOf, .ref x0_windows, .ref x0_koi, .int 0, .ref x0_ready, .ref x0_tape, .int 0, .ref x0_text, .int 0, .ref x0_out, .ref x0_src, .int 0, .int 0, .int 0, .int 0, .int 0, .int 0, .int 0, .int 0, .int 0, .int 0]))] H := hP
  have hD : va_D A [(a0, .inr (9, [.ref x0_nameHead, .ref x0_nameTail, .ref x0_nameOf, .ref x0_windows, .ref x0_koi, .int 0, .ref x0_ready, .ref x0_tape, .int 0, .ref x0_text, .int 0, .ref x0_out, .ref x0_src, .int 0, .int 0, .int 0, .int 0, .int 0, .int 0, .int 0, .int 0, .int 0, .int 0]))] := hD
  refine lv_goto (tgt := 70) hx hb d_MM_uncode_58 (by decide) ?_
  refine lv_iload_n hx hb d_MM_uncode_70 rfl (lv_at hl 1 rfl) ?_
  refine lv_if_le (tgt := 78) hx hb d_MM_uncode_71 (by decide) (fun h9 => absurd h9 (by decide +kernel)) (fun _ => ?_)
  refine lv_aload_n hx hb d_MM_uncode_74 rfl (lv_at hl 0 rfl) ?_
  refine g_Vv (As := []) (rest := []) (wr := []) ⟨hx, hb, hml, hown, hts⟩ (c_MM_outToTape_0 l D Z kI a0 x0_nameHead x0_nameTail x0_nameOf x0_windows x0_koi x0_ready x0_tape x0_text x0_out x0_src H.size) (cw_MM_outToTape_0 hts k_1023 ⟨Nat.le_of_ble_eq_true rfl, Nat.le_of_ble_eq_true rfl⟩) hK hZ hP hD hS hA [0] [] (g_recv hK hP (ci := 9) (q0 := 0) rfl rfl) rfl rfl (by decide) (by decide) (by decide) rfl hl.1 rfl (Nat.le_of_ble_eq_true rfl) d_MM_uncode_75 ⟨Nat.zero_le _, Nat.zero_le _⟩ (fun u_2 H locs hw hP hD hS => ?_)
  have hP : va_P D vwCl [(a0, .inr (9, [.ref x0_nameHead, .ref x0_nameTail, .ref x0_nameOf, .ref x0_windows, .ref x0_koi, .int 0, .ref x0_ready, .ref x0_tape, .int 0, .ref x0_text, .int 0, .ref x0_out, .ref x0_src, .int 0, .int 0, .int 0, .int 0, .int 0, .int 0, .int 0, .int 0, .int 0, .int 0]))] H := hP
  have hD : va_D A [(a0, .inr (9, [.ref x0_nameHead, .ref x0_nameTail, .ref x0_nameOf, .ref x0_windows, .ref x0_koi, .int 0, .ref x0_ready, .ref x0_tape, .int 0, .ref x0_text, .int 0, .ref x0_out, .ref x0_src, .int 0, .int 0, .int 0, .int 0, .int 0, .int 0, .int 0, .int 0, .int 0, .int 0]))] := hD
  refine lv_aload_n hx hb d_MM_uncode_78 rfl (lv_at hl 0 rfl) ?_
  refine va_get (D := D) (ci := 9) (v := .int 0) (C := "MailCharactersModel") (T := F_MM) (N := 23) hx hb hts i_MM hown hK hP 0 rfl rfl 8 (by decide) (hts _ k_881) (fun _ h9 => h9) rfl d_MM_uncode_79 ?_
  exact hret 0 () _ _ _ _ d_MM_uncode_82 rfl rfl hP hD hS
theorem cw_MM_uncode_2 {R : Room} {s : State} {args : Array Value} {own : String} {idx : Nat} (hts : ∀ w ∈ gW, w.before args s = true) (hl : Cond.methodLink own idx y_MM_uncode ∈ gW) (hR : rm_MM_uncode_2.frames + 1 ≤ R.frames ∧ 8 + (2 + 11) + rm_MM_uncode_2.locals ≤ R.locals) : CallW R s args own "MailCharactersModel" idx y_MM_uncode b_MM_uncode 2 (some .int) w_MM_uncode rm_MM_uncode_2 0 0 1 := cwV 1 hts (gW_V hl k_969 k_970 k_77 k_971) rfl rfl rfl (by decide +kernel) hR
def rm_MM_unhexAll_0 : Room := { frames := 0, cells := 0, slots := 0, locals := 0 }
set_option maxHeartbeats 4000000 in
set_option maxRecDepth 100000 in
theorem c_MM_unhexAll_0 (l : Launch) (D : va_G) (Z : gZT) (kI : ClassId) (a0 : Nat) (x0_nameHead : Nat) (x0_nameTail : Nat) (x0_nameOf : Nat) (x0_windows : Nat) (x0_koi : Nat) (x0_ready : Nat) (x0_tape : Nat) (x0_text : Nat) (x0_out : Nat) (x0_src : Nat) (sz : Nat) : gMv l y_MM_unhexAll w_MM_unhexAll rm_MM_unhexAll_0 D Z kI [.ref a0] sz [(a0, .inr (9, [.ref x0_nameHead, .ref x0_nameTail, .ref x0_nameOf, .ref x0_windows, .ref x0_koi, .int 0, .ref x0_ready, .ref x0_tape, .int 0, .ref x0_text, .int 0, .ref x0_out, .ref x0_src, .int 0, .int 0, .int 0, .int 0, .int 0, .int 0, .int 0, .int 0, .int 0, .int 0]))] (fun (_u : Unit) => True) (fun (_u : Unit) => ([(a0, .inr (9, [.ref x0_nameHead, .ref x0_nameTail, .ref x0_nameOf, .ref x0_windows, .ref x0_koi, .int 0, .ref x0_ready, .ref x0_tape, .int 0, .ref x0_text, .int 0, .ref x0_out, .ref x0_src, .int 0, .int 0, .int 0, .int 0, .int 0, .int 0, .int 0, .int 0, .int 0, .int 0]))] : va_W)) := by
  refine g_ofv (cc := b_MM_unhexAll) (maxL := 6) (by decide) rfl (Nat.le_of_ble_eq_true rfl) ?_
  intro p e s m below meth c A Q H ls hx hb hml hown hts hA hK hZ hP hD hS hl hret
  have hown : s.vm.findClass "MailCharactersModel" = some m.cls := hown
  have hl : lv_has ls 6 [(0, .ref a0)] := hl
  refine lv_iconst (v := 0) hx hb d_MM_unhexAll_0 (by decide) ?_
  refine lv_istore_n (lv' := [(1, .int 0), (0, .ref a0)]) hx hb d_MM_unhexAll_1 rfl hl (by decide) rfl (fun ls hl => ?_)
  refine lv_iconst (v := 0) hx hb d_MM_unhexAll_2 (by decide) ?_
  refine lv_istore_n (lv' := [(2, .int 0), (1, .int 0), (0, .ref a0)]) hx hb d_MM_unhexAll_3 rfl hl (by decide) rfl (fun ls hl => ?_)
  refine lv_iconst (v := 1) hx hb d_MM_unhexAll_4 (by decide) ?_
  refine lv_istore_n (lv' := [(3, .int 1), (2, .int 0), (1, .int 0), (0, .ref a0)]) hx hb d_MM_unhexAll_5 rfl hl (by decide) rfl (fun ls hl => ?_)
  refine lv_iload_n hx hb d_MM_unhexAll_6 rfl (lv_at hl 0 rfl) ?_
  refine lv_if_eq (tgt := 65) hx hb d_MM_unhexAll_7 (by decide) (fun h9 => absurd h9 (by decide +kernel)) (fun _ => ?_)
  refine lv_iload_n hx hb d_MM_unhexAll_10 rfl (lv_at hl 2 rfl) ?_
  refine lv_aload_n hx hb d_MM_unhexAll_11 rfl (lv_at hl 3 rfl) ?_
  refine va_get (D := D) (ci := 9) (v := .int 0) (C := "MailCharactersModel") (T := F_MM) (N := 23) hx hb hts i_MM hown hK hP 0 rfl rfl 8 (by decide) (hts _ k_881) (fun _ h9 => h9) rfl d_MM_unhexAll_12 ?_
  refine lv_icmp_ge (tgt := 65) hx hb d_MM_unhexAll_15 (by decide) (fun _ => ?_) (fun h9 => absurd h9 (by decide +kernel))
  exact hret () _ _ _ _ d_MM_unhexAll_65 trivial hP hD hS
theorem cw_MM_unhexAll_0 {R : Room} {s : State} {args : Array Value} {own : String} {idx : Nat} (hts : ∀ w ∈ gW, w.before args s = true) (hl : Cond.methodLink own idx y_MM_unhexAll ∈ gW) (hR : rm_MM_unhexAll_0.frames + 1 ≤ R.frames ∧ 8 + (6 + 11) + rm_MM_unhexAll_0.locals ≤ R.locals) : CallW R s args own "MailCharactersModel" idx y_MM_unhexAll b_MM_unhexAll 6 none w_MM_unhexAll rm_MM_unhexAll_0 0 0 0 := cwV 0 hts (gW_V hl k_1005 k_32 k_77 k_1006) rfl rfl rfl (by decide +kernel) hR
def rm_MM_uncode_3 : Room := { frames := 1, cells := 0, slots := 0, locals := 25 }
set_option maxHeartbeats 4000000 in
set_option maxRecDepth 100000 in
theorem c_MM_uncode_3 (l : Launch) (D : va_G) (Z : gZT) (kI : ClassId) (a0 : Nat) (x0_nameHead : Nat) (x0_nameTail : Nat) (x0_nameOf : Nat) (x0_windows : Nat) (x0_koi : Nat) (x0_ready : Nat) (x0_tape : Nat) (x0_text : Nat) (x0_out : Nat) (x0_src : Nat) (sz : Nat) : gMi l y_MM_uncode w_MM_uncode rm_MM_uncode_3 D Z kI [.ref a0, .int 3] sz [(a0, .inr (9, [.ref x0_nameHead, .ref x0_nameTail, .ref x0_nameOf, .ref x0_windows, .ref x0_koi, .int 0, .ref x0_ready, .ref x0_tape, .int 0, .ref x0_text, .int 0, .ref x0_out, .ref x0_src, .int 0, .int 0, .int 0, .int 0, .int 0, .int 0, .int 0, .int 0, .int 0, .int 0]))] (fun (r : Int32) (_u : Unit) => r = 0) (fun (_u : Unit) => ([(a0, .inr (9, [.ref x0_nameHead, .ref x0_nameTail, .ref x0_nameOf, .ref x0_windows, .ref x0_koi, .int 0, .ref x0_ready, .ref x0_tape, .int 0, .ref x0_text, .int 0, .ref x0_out, .ref x0_src, .int 0, .int 0, .int 0, .int 0, .int 0, .int 0, .int 0, .int 0, .int 0, .int 0]))] : va_W)) := by
  refine g_ofi (cc := b_MM_uncode) (maxL := 2) (ty := .int) (by decide) rfl (Nat.le_of_ble_eq_true rfl) ?_
  intro p e s m below meth c A Q H ls hx hb hml hown hts hA hK hZ hP hD hS hl hret
  have hown : s.vm.findClass "MailCharactersModel" = some m.cls := hown
  have hl : lv_has ls 2 [(0, .ref a0), (1, .int 3)] := hl
  refine lv_aload_n hx hb d_MM_uncode_0 rfl (lv_at hl 0 rfl) ?_
  refine lv_iload_n hx hb d_MM_uncode_1 rfl (lv_at hl 1 rfl) ?_
  refine lv_if_lt (tgt := 10) hx hb d_MM_uncode_2 (by decide) (fun h9 => absurd h9 (by decide +kernel)) (fun _ => ?_)
  refine lv_iload_n hx hb d_MM_uncode_5 rfl (lv_at hl 1 rfl) ?_
  refine lv_iconst (v := 3) hx hb d_MM_uncode_6 (by decide) ?_
  refine lv_icmp_le (tgt := 14) hx hb d_MM_uncode_7 (by decide) (fun _ => ?_) (fun h9 => absurd h9 (by decide +kernel))
  refine lv_iconst (v := 0) hx hb d_MM_uncode_14 (by decide) ?_
  refine va_put (D := D) (ci := 9) (v := .int 0) (ty := .int) (C := "MailCharactersModel") (T := F_MM) (N := 23) hx hb hts i_MM t_MM t_MM_ok n_MM hown hK hP hD hS 0 rfl rfl 5 (by decide) (hts _ k_878) (fun _ h9 => h9) rfl (by decide +kernel) rfl rfl (Nat.le_of_ble_eq_true rfl) d_MM_uncode_15 (fun H locs hP hD hS => ?_)
  have hP : va_P D vwCl [(a0, .inr (9, [.ref x0_nameHead, .ref x0_nameTail, .ref x0_nameOf, .ref x0_windows, .ref x0_koi, .int 0, .ref x0_ready, .ref x0_tape, .int 0, .ref x0_text, .int 0, .ref x0_out, .ref x0_src, .int 0, .int 0, .int 0, .int 0, .int 0, .int 0, .int 0, .int 0, .int 0, .int 0]))] H := hP
  have hD : va_D A [(a0, .inr (9, [.ref x0_nameHead, .ref x0_nameTail, .ref x0_nameOf, .ref x0_windows, .ref x0_koi, .int 0, .ref x0_ready, .ref x0_tape, .int 0, .ref x0_text, .int 0, .ref x0_out, .ref x0_src, .int 0, .int 0, .int 0, .int 0, .int 0, .int 0, .int 0, .int 0, .int 0, .int 0]))] := hD
  refine lv_aload_n hx hb d_MM_uncode_18 rfl (lv_at hl 0 rfl) ?_
  refine va_get (D := D) (ci := 9) (v := .int 0) (C := "MailCharactersModel") (T := F_MM) (N := 23) hx hb hts i_MM hown hK hP 0 rfl rfl 5 (by decide) (hts _ k_878) (fun _ h9 => h9) rfl d_MM_uncode_19 ?_
  refine lv_if_le (tgt := 27) hx hb d_MM_uncode_22 (by decide) (fun _ => ?_) (fun h9 => absurd h9 (by decide +kernel))
  refine lv_aload_n hx hb d_MM_uncode_27 rfl (lv_at hl 0 rfl) ?_
  refine lv_iconst (v := 0) hx hb d_MM_uncode_28 (by decide) ?_
  refine va_put (D := D) (ci := 9) (v := .int 0) (ty := .int) (C := "MailCharactersModel") (T := F_MM) (N := 23) hx hb hts i_MM t_MM t_MM_ok n_MM hown hK hP hD hS 0 rfl rfl 13 (by decide) (hts _ k_886) (fun _ h9 => h9) rfl (by decide +kernel) rfl rfl (Nat.le_of_ble_eq_true rfl) d_MM_uncode_29 (fun H locs hP hD hS => ?_)
  have hP : va_P D vwCl [(a0, .inr (9, [.ref x0_nameHead, .ref x0_nameTail, .ref x0_nameOf, .ref x0_windows, .ref x0_koi, .int 0, .ref x0_ready, .ref x0_tape, .int 0, .ref x0_text, .int 0, .ref x0_out, .ref x0_src, .int 0, .int 0, .int 0, .int 0, .int 0, .int 0, .int 0, .int 0, .int 0, .int 0]))] H := hP
  have hD : va_D A [(a0, .inr (9, [.ref x0_nameHead, .ref x0_nameTail, .ref x0_nameOf, .ref x0_windows, .ref x0_koi, .int 0, .ref x0_ready, .ref x0_tape, .int 0, .ref x0_text, .int 0, .ref x0_out, .ref x0_src, .int 0, .int 0, .int 0, .int 0, .int 0, .int 0, .int 0, .int 0, .int 0, .int 0]))] := hD
  refine lv_iload_n hx hb d_MM_uncode_32 rfl (lv_at hl 1 rfl) ?_
  refine lv_iconst (v := 1) hx hb d_MM_uncode_33 (by decide) ?_
  refine lv_icmp_ne (tgt := 49) hx hb d_MM_uncode_34 (by decide) (fun _ => ?_) (fun h9 => absurd h9 (by decide +kernel))
  refine lv_iload_n hx hb d_MM_uncode_49 rfl (lv_at hl 1 rfl) ?_
  refine lv_iconst (v := 2) hx hb d_MM_uncode_50 (by decide) ?_
  refine lv_icmp_ne (tgt := 61) hx hb d_MM_uncode_51 (by decide) (fun _ => ?_) (fun h9 => absurd h9 (by decide +kernel))
  refine lv_iload_n hx hb d_MM_uncode_61 rfl (lv_at hl 1 rfl) ?_
  refine lv_iconst (v := 3) hx hb d_MM_uncode_62 (by decide) ?_
  refine lv_icmp_ne (tgt := 70) hx hb d_MM_uncode_63 (by decide) (fun h9 => absurd h9 (by decide +kernel)) (fun _ => ?_)
  refine lv_aload_n hx hb d_MM_uncode_66 rfl (lv_at hl 0 rfl) ?_
  refine g_Vv (As := []) (rest := []) (wr := []) ⟨hx, hb, hml, hown, hts⟩ (c_MM_unhexAll_0 l D Z kI a0 x0_nameHead x0_nameTail x0_nameOf x0_windows x0_koi x0_ready x0_tape x0_text x0_out x0_src H.size) (cw_MM_unhexAll_0 hts k_1003 ⟨Nat.le_of_ble_eq_true rfl, Nat.le_of_ble_eq_true rfl⟩) hK hZ hP hD hS hA [0] [] (g_recv hK hP (ci := 9) (q0 := 0) rfl rfl) rfl rfl (by decide) (by decide) (by decide) rfl hl.1 rfl (Nat.le_of_ble_eq_true rfl) d_MM_uncode_67 ⟨Nat.zero_le _, Nat.zero_le _⟩ (fun u_1 H locs hw hP hD hS => ?_)
  have hP : va_P D vwCl [(a0, .inr (9, [.ref x0_nameHead, .ref x0_nameTail, .ref x0_nameOf, .ref x0_windows, .ref x0_koi, .int 0, .ref x0_ready, .ref x0_tape, .int 0, .ref x0_text, .int 0, .ref x0_out, .ref x0_src, .int 0, .int 0, .int 0, .int 0, .int 0, .int 0, .int 0, .int 0, .int 0, .int 0]))] H := hP
  have hD : va_D A [(a0, .inr (9, [.ref x0_nameHead, .ref x0_nameTail, .ref x0_nameOf, .ref x0_windows, .ref x0_koi, .int 0, .ref x0_ready, .ref x0_tape, .int 0, .ref x0_text, .int 0, .ref x0_out, .ref x0_src, .int 0, .int 0, .int 0, .int 0, .int 0, .int 0, .int 0, .int 0, .int 0, .int 0]))] := hD
  refine lv_iload_n hx hb d_MM_uncode_70 rfl (lv_at hl 1 rfl) ?_
  refine lv_if_le (tgt := 78) hx hb d_MM_uncode_71 (by decide) (fun h9 => absurd h9 (by decide +kernel)) (fun _ => ?_)
  refine lv_aload_n hx hb d_MM_uncode_74 rfl (lv_at hl 0 rfl) ?_
  refine g_Vv (As := []) (rest := []) (wr := []) ⟨hx, hb, hml, hown, hts⟩ (c_MM_outToTape_0 l D Z kI a0 x0_nameHead x0_nameTail x0_nameOf x0_windows x0_koi x0_ready x0_tape x0_text x0_out x0_src H.size) (cw_MM_outToTape_0 hts k_1023 ⟨Nat.le_of_ble_eq_true rfl, Nat.le_of_ble_eq_true rfl⟩) hK hZ hP hD hS hA [0] [] (g_recv hK hP (ci := 9) (q0 := 0) rfl rfl) rfl rfl (by decide) (by decide) (by decide) rfl hl.1 rfl (Nat.le_of_ble_eq_true rfl) d_MM_uncode_75 ⟨Nat.zero_le _, Nat.zero_le _⟩ (fun u_2 H locs hw hP hD hS => ?_)
  have hP : va_P D vwCl [(a0, .inr (9, [.ref x0_nameHead, .ref x0_nameTail, .ref x0_nameOf, .ref x0_windows, .ref x0_koi, .int 0, .ref x0_ready, .ref x0_tape, .int 0, .ref x0_text, .int 0, .ref x0_out, .ref x0_src, .int 0, .int 0, .int 0, .int 0, .int 0, .int 0, .int 0, .int 0, .int 0, .int 0]))] H := hP
  have hD : va_D A [(a0, .inr (9, [.ref x0_nameHead, .ref x0_nameTail, .ref x0_nameOf, .ref x0_windows, .ref x0_koi, .int 0, .ref x0_ready, .ref x0_tape, .int 0, .ref x0_text, .int 0, .ref x0_out, .ref x0_src, .int 0, .int 0, .int 0, .int 0, .int 0, .int 0, .int 0, .int 0, .int 0, .int 0]))] := hD
  refine lv_aload_n hx hb d_MM_uncode_78 rfl (lv_at hl 0 rfl) ?_
  refine va_get (D := D) (ci := 9) (v := .int 0) (C := "MailCharactersModel") (T := F_MM) (N := 23) hx hb hts i_MM hown hK hP 0 rfl rfl 8 (by decide) (hts _ k_881) (fun _ h9 => h9) rfl d_MM_uncode_79 ?_
  exact hret 0 () _ _ _ _ d_MM_uncode_82 rfl rfl hP hD hS
theorem cw_MM_uncode_3 {R : Room} {s : State} {args : Array Value} {own : String} {idx : Nat} (hts : ∀ w ∈ gW, w.before args s = true) (hl : Cond.methodLink own idx y_MM_uncode ∈ gW) (hR : rm_MM_uncode_3.frames + 1 ≤ R.frames ∧ 8 + (2 + 11) + rm_MM_uncode_3.locals ≤ R.locals) : CallW R s args own "MailCharactersModel" idx y_MM_uncode b_MM_uncode 2 (some .int) w_MM_uncode rm_MM_uncode_3 0 0 1 := cwV 1 hts (gW_V hl k_969 k_970 k_77 k_971) rfl rfl rfl (by decide +kernel) hR
def rm_MM_uncode_4 : Room := { frames := 0, cells := 0, slots := 0, locals := 0 }
set_option maxHeartbeats 4000000 in
set_option maxRecDepth 100000 in
theorem c_MM_uncode_4 (l : Launch) (D : va_G) (Z : gZT) (kI : ClassId) (a0 : Nat) (x0_nameHead : Nat) (x0_nameTail : Nat) (x0_nameOf : Nat) (x0_windows : Nat) (x0_koi : Nat) (x0_ready : Nat) (x0_tape : Nat) (x0_text : Nat) (x0_out : Nat) (x0_src : Nat) (sz : Nat) (p1 : Int32) (hpre0 : p1 < 0) : gMi l y_MM_uncode w_MM_uncode rm_MM_uncode_4 D Z kI [.ref a0, .int p1] sz [(a0, .inr (9, [.ref x0_nameHead, .ref x0_nameTail, .ref x0_nameOf, .ref x0_windows, .ref x0_koi, .int 0, .ref x0_ready, .ref x0_tape, .int 0, .ref x0_text, .int 0, .ref x0_out, .ref x0_src, .int 0, .int 0, .int 0, .int 0, .int 0, .int 0, .int 0, .int 0, .int 0, .int 0]))] (fun (r : Int32) (_u : Unit) => r = 0) (fun (_u : Unit) => ([(a0, .inr (9, [.ref x0_nameHead, .ref x0_nameTail, .ref x0_nameOf, .ref x0_windows, .ref x0_koi, .int 1, .ref x0_ready, .ref x0_tape, .int 0, .ref x0_text, .int 0, .ref x0_out, .ref x0_src, .int 0, .int 0, .int 0, .int 0, .int 0, .int 0, .int 0, .int 0, .int 0, .int 0]))] : va_W)) := by
  refine g_ofi (cc := b_MM_uncode) (maxL := 2) (ty := .int) (by decide) rfl (Nat.le_of_ble_eq_true rfl) ?_
  intro p e s m below meth c A Q H ls hx hb hml hown hts hA hK hZ hP hD hS hl hret
  have hown : s.vm.findClass "MailCharactersModel" = some m.cls := hown
  have hl : lv_has ls 2 [(0, .ref a0), (1, .int p1)] := hl
  refine lv_aload_n hx hb d_MM_uncode_0 rfl (lv_at hl 0 rfl) ?_
  refine lv_iload_n hx hb d_MM_uncode_1 rfl (lv_at hl 1 rfl) ?_
  refine lv_if_lt (tgt := 10) hx hb d_MM_uncode_2 (by decide) (fun _ => ?_) (fun h9 => absurd hpre0 h9)
  refine lv_iconst (v := 1) hx hb d_MM_uncode_10 (by decide) ?_
  refine lv_goto (tgt := 15) hx hb d_MM_uncode_11 (by decide) ?_
  refine va_put (D := D) (ci := 9) (v := .int 1) (ty := .int) (C := "MailCharactersModel") (T := F_MM) (N := 23) hx hb hts i_MM t_MM t_MM_ok n_MM hown hK hP hD hS 0 rfl rfl 5 (by decide) (hts _ k_878) (fun _ h9 => h9) rfl (by decide +kernel) rfl rfl (Nat.le_of_ble_eq_true rfl) d_MM_uncode_15 (fun H locs hP hD hS => ?_)
  have hP : va_P D vwCl [(a0, .inr (9, [.ref x0_nameHead, .ref x0_nameTail, .ref x0_nameOf, .ref x0_windows, .ref x0_koi, .int 1, .ref x0_ready, .ref x0_tape, .int 0, .ref x0_text, .int 0, .ref x0_out, .ref x0_src, .int 0, .int 0, .int 0, .int 0, .int 0, .int 0, .int 0, .int 0, .int 0, .int 0]))] H := hP
  have hD : va_D A [(a0, .inr (9, [.ref x0_nameHead, .ref x0_nameTail, .ref x0_nameOf, .ref x0_windows, .ref x0_koi, .int 1, .ref x0_ready, .ref x0_tape, .int 0, .ref x0_text, .int 0, .ref x0_out, .ref x0_src, .int 0, .int 0, .int 0, .int 0, .int 0, .int 0, .int 0, .int 0, .int 0, .int 0]))] := hD
  refine lv_aload_n hx hb d_MM_uncode_18 rfl (lv_at hl 0 rfl) ?_
  refine va_get (D := D) (ci := 9) (v := .int 1) (C := "MailCharactersModel") (T := F_MM) (N := 23) hx hb hts i_MM hown hK hP 0 rfl rfl 5 (by decide) (hts _ k_878) (fun _ h9 => h9) rfl d_MM_uncode_19 ?_
  refine lv_if_le (tgt := 27) hx hb d_MM_uncode_22 (by decide) (fun h9 => absurd h9 (by decide +kernel)) (fun _ => ?_)
  refine lv_iconst (v := 0) hx hb d_MM_uncode_25 (by decide) ?_
  exact hret 0 () _ _ _ _ d_MM_uncode_26 rfl rfl hP hD hS
theorem cw_MM_uncode_4 {R : Room} {s : State} {args : Array Value} {own : String} {idx : Nat} (hts : ∀ w ∈ gW, w.before args s = true) (hl : Cond.methodLink own idx y_MM_uncode ∈ gW) (hR : rm_MM_uncode_4.frames + 1 ≤ R.frames ∧ 8 + (2 + 11) + rm_MM_uncode_4.locals ≤ R.locals) : CallW R s args own "MailCharactersModel" idx y_MM_uncode b_MM_uncode 2 (some .int) w_MM_uncode rm_MM_uncode_4 0 0 1 := cwV 1 hts (gW_V hl k_969 k_970 k_77 k_971) rfl rfl rfl (by decide +kernel) hR
def rm_MM_uncode_5 : Room := { frames := 0, cells := 0, slots := 0, locals := 0 }
set_option maxHeartbeats 4000000 in
set_option maxRecDepth 100000 in
theorem c_MM_uncode_5 (l : Launch) (D : va_G) (Z : gZT) (kI : ClassId) (a0 : Nat) (x0_nameHead : Nat) (x0_nameTail : Nat) (x0_nameOf : Nat) (x0_windows : Nat) (x0_koi : Nat) (x0_ready : Nat) (x0_tape : Nat) (x0_text : Nat) (x0_out : Nat) (x0_src : Nat) (sz : Nat) (p1 : Int32) (hpre0 : ¬ p1 < 0) (hpre1 : ¬ p1 ≤ 3) : gMi l y_MM_uncode w_MM_uncode rm_MM_uncode_5 D Z kI [.ref a0, .int p1] sz [(a0, .inr (9, [.ref x0_nameHead, .ref x0_nameTail, .ref x0_nameOf, .ref x0_windows, .ref x0_koi, .int 0, .ref x0_ready, .ref x0_tape, .int 0, .ref x0_text, .int 0, .ref x0_out, .ref x0_src, .int 0, .int 0, .int 0, .int 0, .int 0, .int 0, .int 0, .int 0, .int 0, .int 0]))] (fun (r : Int32) (_u : Unit) => r = 0) (fun (_u : Unit) => ([(a0, .inr (9, [.ref x0_nameHead, .ref x0_nameTail, .ref x0_nameOf, .ref x0_windows, .ref x0_koi, .int 1, .ref x0_ready, .ref x0_tape, .int 0, .ref x0_text, .int 0, .ref x0_out, .ref x0_src, .int 0, .int 0, .int 0, .int 0, .int 0, .int 0, .int 0, .int 0, .int 0, .int 0]))] : va_W)) := by
  refine g_ofi (cc := b_MM_uncode) (maxL := 2) (ty := .int) (by decide) rfl (Nat.le_of_ble_eq_true rfl) ?_
  intro p e s m below meth c A Q H ls hx hb hml hown hts hA hK hZ hP hD hS hl hret
  have hown : s.vm.findClass "MailCharactersModel" = some m.cls := hown
  have hl : lv_has ls 2 [(0, .ref a0), (1, .int p1)] := hl
  refine lv_aload_n hx hb d_MM_uncode_0 rfl (lv_at hl 0 rfl) ?_
  refine lv_iload_n hx hb d_MM_uncode_1 rfl (lv_at hl 1 rfl) ?_
  refine lv_if_lt (tgt := 10) hx hb d_MM_uncode_2 (by decide) (fun h9 => absurd h9 hpre0) (fun _ => ?_)
  refine lv_iload_n hx hb d_MM_uncode_5 rfl (lv_at hl 1 rfl) ?_
  refine lv_iconst (v := 3) hx hb d_MM_uncode_6 (by decide) ?_
  refine lv_icmp_le (tgt := 14) hx hb d_MM_uncode_7 (by decide) (fun h9 => absurd h9 hpre1) (fun _ => ?_)
  refine lv_iconst (v := 1) hx hb d_MM_uncode_10 (by decide) ?_
  refine lv_goto (tgt := 15) hx hb d_MM_uncode_11 (by decide) ?_
  refine va_put (D := D) (ci := 9) (v := .int 1) (ty := .int) (C := "MailCharactersModel") (T := F_MM) (N := 23) hx hb hts i_MM t_MM t_MM_ok n_MM hown hK hP hD hS 0 rfl rfl 5 (by decide) (hts _ k_878) (fun _ h9 => h9) rfl (by decide +kernel) rfl rfl (Nat.le_of_ble_eq_true rfl) d_MM_uncode_15 (fun H locs hP hD hS => ?_)
  have hP : va_P D vwCl [(a0, .inr (9, [.ref x0_nameHead, .ref x0_nameTail, .ref x0_nameOf, .ref x0_windows, .ref x0_koi, .int 1, .ref x0_ready, .ref x0_tape, .int 0, .ref x0_text, .int 0, .ref x0_out, .ref x0_src, .int 0, .int 0, .int 0, .int 0, .int 0, .int 0, .int 0, .int 0, .int 0, .int 0]))] H := hP
  have hD : va_D A [(a0, .inr (9, [.ref x0_nameHead, .ref x0_nameTail, .ref x0_nameOf, .ref x0_windows, .ref x0_koi, .int 1, .ref x0_ready, .ref x0_tape, .int 0, .ref x0_text, .int 0, .ref x0_out, .ref x0_src, .int 0, .int 0, .int 0, .int 0, .int 0, .int 0, .int 0, .int 0, .int 0, .int 0]))] := hD
  refine lv_aload_n hx hb d_MM_uncode_18 rfl (lv_at hl 0 rfl) ?_
  refine va_get (D := D) (ci := 9) (v := .int 1) (C := "MailCharactersModel") (T := F_MM) (N := 23) hx hb hts i_MM hown hK hP 0 rfl rfl 5 (by decide) (hts _ k_878) (fun _ h9 => h9) rfl d_MM_uncode_19 ?_
  refine lv_if_le (tgt := 27) hx hb d_MM_uncode_22 (by decide) (fun h9 => absurd h9 (by decide +kernel)) (fun _ => ?_)
  refine lv_iconst (v := 0) hx hb d_MM_uncode_25 (by decide) ?_
  exact hret 0 () _ _ _ _ d_MM_uncode_26 rfl rfl hP hD hS
theorem cw_MM_uncode_5 {R : Room} {s : State} {args : Array Value} {own : String} {idx : Nat} (hts : ∀ w ∈ gW, w.before args s = true) (hl : Cond.methodLink own idx y_MM_uncode ∈ gW) (hR : rm_MM_uncode_5.frames + 1 ≤ R.frames ∧ 8 + (2 + 11) + rm_MM_uncode_5.locals ≤ R.locals) : CallW R s args own "MailCharactersModel" idx y_MM_uncode b_MM_uncode 2 (some .int) w_MM_uncode rm_MM_uncode_5 0 0 1 := cwV 1 hts (gW_V hl k_969 k_970 k_77 k_971) rfl rfl rfl (by decide +kernel) hR
def rm_MM_isCharset_0 : Room := { frames := 0, cells := 0, slots := 0, locals := 0 }
set_option maxHeartbeats 4000000 in
set_option maxRecDepth 100000 in
theorem c_MM_isCharset_0 (l : Launch) (D : va_G) (Z : gZT) (kI : ClassId) (sz : Nat) : gMi l y_MM_isCharset w_MM_isCharset rm_MM_isCharset_0 D Z kI [.int 0] sz ([] : va_W) (fun (r : Int32) (_u : Unit) => r = 1) (fun (_u : Unit) => ([] : va_W)) := by
  refine g_ofi (cc := b_MM_isCharset) (maxL := 1) (ty := .boolean) (by decide) rfl (Nat.le_of_ble_eq_true rfl) ?_
  intro p e s m below meth c A Q H ls hx hb hml hown hts hA hK hZ hP hD hS hl hret
  have hown : s.vm.findClass "MailCharactersModel" = some m.cls := hown
  have hl : lv_has ls 1 [(0, .int 0)] := hl
  refine lv_iload_n hx hb d_MM_isCharset_0 rfl (lv_at hl 0 rfl) ?_
  refine lv_if_lt (tgt := 14) hx hb d_MM_isCharset_1 (by decide) (fun h9 => absurd h9 (by decide +kernel)) (fun _ => ?_)
  refine lv_iload_n hx hb d_MM_isCharset_4 rfl (lv_at hl 0 rfl) ?_
  refine lv_bipush (v := 9) hx hb d_MM_isCharset_5 (by decide) ?_
  refine lv_icmp_gt (tgt := 14) hx hb d_MM_isCharset_7 (by decide) (fun h9 => absurd h9 (by decide +kernel)) (fun _ => ?_)
  refine lv_iconst (v := 1) hx hb d_MM_isCharset_10 (by decide) ?_
  refine lv_goto (tgt := 15) hx hb d_MM_isCharset_11 (by decide) ?_
  exact hret 1 () _ _ _ _ d_MM_isCharset_15 rfl rfl hP hD hS
theorem cw_MM_isCharset_0 {R : Room} {s : State} {args : Array Value} {own : String} {idx : Nat} (hts : ∀ w ∈ gW, w.before args s = true) (hl : Cond.methodLink own idx y_MM_isCharset ∈ gW) (hR : rm_MM_isCharset_0.frames + 1 ≤ R.frames ∧ 8 + (1 + 11) + rm_MM_isCharset_0.locals ≤ R.locals) : CallB R s args own idx y_MM_isCharset b_MM_isCharset 1 (some .boolean) w_MM_isCharset rm_MM_isCharset_0 0 0 1 ∧ (Cond.static y_MM_isCharset).before args s = true := va_cwS 1 hts (gW_S hl k_1032 k_77 k_1033) rfl rfl rfl (by decide +kernel) hR
def rm_MM_tapeToSrc_0 : Room := { frames := 0, cells := 0, slots := 0, locals := 0 }
set_option maxHeartbeats 4000000 in
set_option maxRecDepth 100000 in
theorem c_MM_tapeToSrc_0 (l : Launch) (D : va_G) (Z : gZT) (kI : ClassId) (a0 : Nat) (x0_nameHead : Nat) (x0_nameTail : Nat) (x0_nameOf : Nat) (x0_windows : Nat) (x0_koi : Nat) (x0_ready : Nat) (x0_tape : Nat) (x0_text : Nat) (x0_out : Nat) (x0_src : Nat) (sz : Nat) : gMv l y_MM_tapeToSrc w_MM_tapeToSrc rm_MM_tapeToSrc_0 D Z kI [.ref a0, .int 0, .int 0] sz [(a0, .inr (9, [.ref x0_nameHead, .ref x0_nameTail, .ref x0_nameOf, .ref x0_windows, .ref x0_koi, .int 0, .ref x0_ready, .ref x0_tape, .int 0, .ref x0_text, .int 0, .ref x0_out, .ref x0_src, .int 0, .int 0, .int 0, .int 0, .int 0, .int 0, .int 0, .int 0, .int 0, .int 0]))] (fun (_u : Unit) => True) (fun (_u : Unit) => ([(a0, .inr (9, [.ref x0_nameHead, .ref x0_nameTail, .ref x0_nameOf, .ref x0_windows, .ref x0_koi, .int 0, .ref x0_ready, .ref x0_tape, .int 0, .ref x0_text, .int 0, .ref x0_out, .ref x0_src, .int 0, .int 0, .int 0, .int 0, .int 0, .int 0, .int 0, .int 0, .int 0, .int 0]))] : va_W)) := by
  refine g_ofv (cc := b_MM_tapeToSrc) (maxL := 4) (by decide) rfl (Nat.le_of_ble_eq_true rfl) ?_
  intro p e s m below meth c A Q H ls hx hb hml hown hts hA hK hZ hP hD hS hl hret
  have hown : s.vm.findClass "MailCharactersModel" = some m.cls := hown
  have hl : lv_has ls 4 [(0, .ref a0), (1, .int 0), (2, .int 0)] := hl
  refine lv_aload_n hx hb d_MM_tapeToSrc_0 rfl (lv_at hl 0 rfl) ?_
  refine lv_iload_n hx hb d_MM_tapeToSrc_1 rfl (lv_at hl 2 rfl) ?_
  refine lv_iload_n hx hb d_MM_tapeToSrc_2 rfl (lv_at hl 1 rfl) ?_
  refine lv_isub hx hb d_MM_tapeToSrc_3 ?_
  refine lv_topi (fun x_1 ex_1 => ?_)
  obtain rfl : x_1 = 0 := ex_1.trans (by decide)
  refine va_put (D := D) (ci := 9) (v := .int 0) (ty := .int) (C := "MailCharactersModel") (T := F_MM) (N := 23) hx hb hts i_MM t_MM t_MM_ok n_MM hown hK hP hD hS 0 rfl rfl 14 (by decide) (hts _ k_887) (fun _ h9 => h9) rfl (by decide +kernel) rfl rfl (Nat.le_of_ble_eq_true rfl) d_MM_tapeToSrc_4 (fun H locs hP hD hS => ?_)
  have hP : va_P D vwCl [(a0, .inr (9, [.ref x0_nameHead, .ref x0_nameTail, .ref x0_nameOf, .ref x0_windows, .ref x0_koi, .int 0, .ref x0_ready, .ref x0_tape, .int 0, .ref x0_text, .int 0, .ref x0_out, .ref x0_src, .int 0, .int 0, .int 0, .int 0, .int 0, .int 0, .int 0, .int 0, .int 0, .int 0]))] H := hP
  have hD : va_D A [(a0, .inr (9, [.ref x0_nameHead, .ref x0_nameTail, .ref x0_nameOf, .ref x0_windows, .ref x0_koi, .int 0, .ref x0_ready, .ref x0_tape, .int 0, .ref x0_text, .int 0, .ref x0_out, .ref x0_src, .int 0, .int 0, .int 0, .int 0, .int 0, .int 0, .int 0, .int 0, .int 0, .int 0]))] := hD
  refine lv_iconst (v := 0) hx hb d_MM_tapeToSrc_7 (by decide) ?_
  refine lv_istore_n (lv' := [(3, .int 0), (0, .ref a0), (1, .int 0), (2, .int 0)]) hx hb d_MM_tapeToSrc_8 rfl hl (by decide) rfl (fun ls hl => ?_)
  refine lv_iload_n hx hb d_MM_tapeToSrc_9 rfl (lv_at hl 0 rfl) ?_
  refine lv_aload_n hx hb d_MM_tapeToSrc_10 rfl (lv_at hl 1 rfl) ?_
  refine va_get (D := D) (ci := 9) (v := .int 0) (C := "MailCharactersModel") (T := F_MM) (N := 23) hx hb hts i_MM hown hK hP 0 rfl rfl 14 (by decide) (hts _ k_887) (fun _ h9 => h9) rfl d_MM_tapeToSrc_11 ?_
  refine lv_icmp_ge (tgt := 37) hx hb d_MM_tapeToSrc_14 (by decide) (fun _ => ?_) (fun h9 => absurd h9 (by decide +kernel))
  exact hret () _ _ _ _ d_MM_tapeToSrc_37 trivial hP hD hS
theorem cw_MM_tapeToSrc_0 {R : Room} {s : State} {args : Array Value} {own : String} {idx : Nat} (hts : ∀ w ∈ gW, w.before args s = true) (hl : Cond.methodLink own idx y_MM_tapeToSrc ∈ gW) (hR : rm_MM_tapeToSrc_0.frames + 1 ≤ R.frames ∧ 8 + (4 + 11) + rm_MM_tapeToSrc_0.locals ≤ R.locals) : CallW R s args own "MailCharactersModel" idx y_MM_tapeToSrc b_MM_tapeToSrc 4 none w_MM_tapeToSrc rm_MM_tapeToSrc_0 0 0 2 := cwV 2 hts (gW_V hl k_1036 k_38 k_77 k_1037) rfl rfl rfl (by decide +kernel) hR
def rm_MM_readAll_0 : Room := { frames := 0, cells := 0, slots := 0, locals := 0 }
set_option maxHeartbeats 4000000 in
set_option maxRecDepth 100000 in
theorem c_MM_readAll_0 (l : Launch) (D : va_G) (Z : gZT) (kI : ClassId) (a0 : Nat) (x0_nameHead : Nat) (x0_nameTail : Nat) (x0_nameOf : Nat) (x0_windows : Nat) (x0_koi : Nat) (x0_ready : Nat) (x0_tape : Nat) (x0_text : Nat) (x0_out : Nat) (x0_src : Nat) (sz : Nat) : gMv l y_MM_readAll w_MM_readAll rm_MM_readAll_0 D Z kI [.ref a0, .int 0] sz [(a0, .inr (9, [.ref x0_nameHead, .ref x0_nameTail, .ref x0_nameOf, .ref x0_windows, .ref x0_koi, .int 0, .ref x0_ready, .ref x0_tape, .int 0, .ref x0_text, .int 0, .ref x0_out, .ref x0_src, .int 0, .int 0, .int 0, .int 0, .int 0, .int 0, .int 0, .int 0, .int 0, .int 0]))] (fun (_u : Unit) => True) (fun (_u : Unit) => ([(a0, .inr (9, [.ref x0_nameHead, .ref x0_nameTail, .ref x0_nameOf, .ref x0_windows, .ref x0_koi, .int 0, .ref x0_ready, .ref x0_tape, .int 0, .ref x0_text, .int 0, .ref x0_out, .ref x0_src, .int 0, .int 0, .int 0, .int 0, .int 0, .int 0, .int 0, .int 0, .int 0, .int 0]))] : va_W)) := by
  refine g_ofv (cc := b_MM_readAll) (maxL := 2) (by decide) rfl (Nat.le_of_ble_eq_true rfl) ?_
  intro p e s m below meth c A Q H ls hx hb hml hown hts hA hK hZ hP hD hS hl hret
  have hown : s.vm.findClass "MailCharactersModel" = some m.cls := hown
  have hl : lv_has ls 2 [(0, .ref a0), (1, .int 0)] := hl
  refine lv_aload_n hx hb d_MM_readAll_0 rfl (lv_at hl 0 rfl) ?_
  refine lv_iconst (v := 0) hx hb d_MM_readAll_1 (by decide) ?_
  refine va_put (D := D) (ci := 9) (v := .int 0) (ty := .int) (C := "MailCharactersModel") (T := F_MM) (N := 23) hx hb hts i_MM t_MM t_MM_ok n_MM hown hK hP hD hS 0 rfl rfl 15 (by decide) (hts _ k_888) (fun _ h9 => h9) rfl (by decide +kernel) rfl rfl (Nat.le_of_ble_eq_true rfl) d_MM_readAll_2 (fun H locs hP hD hS => ?_)
  have hP : va_P D vwCl [(a0, .inr (9, [.ref x0_nameHead, .ref x0_nameTail, .ref x0_nameOf, .ref x0_windows, .ref x0_koi, .int 0, .ref x0_ready, .ref x0_tape, .int 0, .ref x0_text, .int 0, .ref x0_out, .ref x0_src, .int 0, .int 0, .int 0, .int 0, .int 0, .int 0, .int 0, .int 0, .int 0, .int 0]))] H := hP
  have hD : va_D A [(a0, .inr (9, [.ref x0_nameHead, .ref x0_nameTail, .ref x0_nameOf, .ref x0_windows, .ref x0_koi, .int 0, .ref x0_ready, .ref x0_tape, .int 0, .ref x0_text, .int 0, .ref x0_out, .ref x0_src, .int 0, .int 0, .int 0, .int 0, .int 0, .int 0, .int 0, .int 0, .int 0, .int 0]))] := hD
  refine lv_iload_n hx hb d_MM_readAll_5 rfl (lv_at hl 1 rfl) ?_
  refine lv_iconst (v := 5) hx hb d_MM_readAll_6 (by decide) ?_
  refine lv_icmp_ne (tgt := 17) hx hb d_MM_readAll_7 (by decide) (fun _ => ?_) (fun h9 => absurd h9 (by decide +kernel))
  refine lv_iload_n hx hb d_MM_readAll_17 rfl (lv_at hl 1 rfl) ?_
  refine lv_bipush (v := 6) hx hb d_MM_readAll_18 (by decide) ?_
  refine lv_icmp_eq (tgt := 29) hx hb d_MM_readAll_20 (by decide) (fun h9 => absurd h9 (by decide +kernel)) (fun _ => ?_)
  refine lv_iload_n hx hb d_MM_readAll_23 rfl (lv_at hl 1 rfl) ?_
  refine lv_bipush (v := 7) hx hb d_MM_readAll_24 (by decide) ?_
  refine lv_icmp_ne (tgt := 44) hx hb d_MM_readAll_26 (by decide) (fun _ => ?_) (fun h9 => absurd h9 (by decide +kernel))
  refine lv_aload_n hx hb d_MM_readAll_44 rfl (lv_at hl 0 rfl) ?_
  refine va_get (D := D) (ci := 9) (v := .int 0) (C := "MailCharactersModel") (T := F_MM) (N := 23) hx hb hts i_MM hown hK hP 0 rfl rfl 15 (by decide) (hts _ k_888) (fun _ h9 => h9) rfl d_MM_readAll_45 ?_
  refine lv_aload_n hx hb d_MM_readAll_48 rfl (lv_at hl 0 rfl) ?_
  refine va_get (D := D) (ci := 9) (v := .int 0) (C := "MailCharactersModel") (T := F_MM) (N := 23) hx hb hts i_MM hown hK hP 0 rfl rfl 14 (by decide) (hts _ k_887) (fun _ h9 => h9) rfl d_MM_readAll_49 ?_
  refine lv_icmp_ge (tgt := 110) hx hb d_MM_readAll_52 (by decide) (fun _ => ?_) (fun h9 => absurd h9 (by decide +kernel))
  exact hret () _ _ _ _ d_MM_readAll_110 trivial hP hD hS
theorem cw_MM_readAll_0 {R : Room} {s : State} {args : Array Value} {own : String} {idx : Nat} (hts : ∀ w ∈ gW, w.before args s = true) (hl : Cond.methodLink own idx y_MM_readAll ∈ gW) (hR : rm_MM_readAll_0.frames + 1 ≤ R.frames ∧ 8 + (2 + 11) + rm_MM_readAll_0.locals ≤ R.locals) : CallW R s args own "MailCharactersModel" idx y_MM_readAll b_MM_readAll 2 none w_MM_readAll rm_MM_readAll_0 0 0 1 := cwV 1 hts (gW_V hl k_1040 k_39 k_77 k_1041) rfl rfl rfl (by decide +kernel) hR
def rm_MM_read_0 : Room := { frames := 1, cells := 0, slots := 0, locals := 23 }
set_option maxHeartbeats 4000000 in
set_option maxRecDepth 100000 in
theorem c_MM_read_0 (l : Launch) (D : va_G) (Z : gZT) (kI : ClassId) (a0 : Nat) (x0_nameHead : Nat) (x0_nameTail : Nat) (x0_nameOf : Nat) (x0_windows : Nat) (x0_koi : Nat) (x0_ready : Nat) (x0_tape : Nat) (x0_text : Nat) (x0_out : Nat) (x0_src : Nat) (sz : Nat) : gMi l y_MM_read w_MM_read rm_MM_read_0 D Z kI [.ref a0, .int 0] sz [(a0, .inr (9, [.ref x0_nameHead, .ref x0_nameTail, .ref x0_nameOf, .ref x0_windows, .ref x0_koi, .int 0, .ref x0_ready, .ref x0_tape, .int 0, .ref x0_text, .int 0, .ref x0_out, .ref x0_src, .int 0, .int 0, .int 0, .int 0, .int 0, .int 0, .int 0, .int 0, .int 0, .int 0]))] (fun (r : Int32) (_u : Unit) => r = 0) (fun (_u : Unit) => ([(a0, .inr (9, [.ref x0_nameHead, .ref x0_nameTail, .ref x0_nameOf, .ref x0_windows, .ref x0_koi, .int 0, .ref x0_ready, .ref x0_tape, .int 0, .ref x0_text, .int 0, .ref x0_out, .ref x0_src, .int 0, .int 0, .int 0, .int 0, .int 0, .int 0, .int 0, .int 0, .int 0, .int 0]))] : va_W)) := by
  refine g_ofi (cc := b_MM_read) (maxL := 2) (ty := .int) (by decide) rfl (Nat.le_of_ble_eq_true rfl) ?_
  intro p e s m below meth c A Q H ls hx hb hml hown hts hA hK hZ hP hD hS hl hret
  have hown : s.vm.findClass "MailCharactersModel" = some m.cls := hown
  have hl : lv_has ls 2 [(0, .ref a0), (1, .int 0)] := hl
  refine lv_aload_n hx hb d_MM_read_0 rfl (lv_at hl 0 rfl) ?_
  refine lv_iload_n hx hb d_MM_read_1 rfl (lv_at hl 1 rfl) ?_
  refine g_Si (As := [.int 0]) (rest := [.ref a0]) (wr := [(a0, .inr (9, [.ref x0_nameHead, .ref x0_nameTail, .ref x0_nameOf, .ref x0_windows, .ref x0_koi, .int 0, .ref x0_ready, .ref x0_tape, .int 0, .ref x0_text, .int 0, .ref x0_out, .ref x0_src, .int 0, .int 0, .int 0, .int 0, .int 0, .int 0, .int 0, .int 0, .int 0, .int 0]))]) ⟨hx, hb, hml, hown, hts⟩ (c_MM_isCharset_0 l D Z kI H.size) (cw_MM_isCharset_0 hts k_1031 ⟨Nat.le_of_ble_eq_true rfl, Nat.le_of_ble_eq_true rfl⟩) hK hZ hP hD hS hA [] [0] rfl rfl (by decide) (by decide) (by decide) rfl hl.1 rfl (Nat.le_of_ble_eq_true rfl) d_MM_read_2 ⟨Nat.zero_le _, Nat.zero_le _⟩ (fun r_1 u_1 H locs hw hP hD hS => ?_)
  obtain rfl : r_1 = 1 := hw
  have hP : va_P D vwCl [(a0, .inr (9, [.ref x0_nameHead, .ref x0_nameTail, .ref x0_nameOf, .ref x0_windows, .ref x0_koi, .int 0, .ref x0_ready, .ref x0_tape, .int 0, .ref x0_text, .int 0, .ref x0_out, .ref x0_src, .int 0, .int 0, .int 0, .int 0, .int 0, .int 0, .int 0, .int 0, .int 0, .int 0]))] H := hP
  have hD : va_D A [(a0, .inr (9, [.ref x0_nameHead, .ref x0_nameTail, .ref x0_nameOf, .ref x0_windows, .ref x0_koi, .int 0, .ref x0_ready, .ref x0_tape, .int 0, .ref x0_text, .int 0, .ref x0_out, .ref x0_src, .int 0, .int 0, .int 0, .int 0, .int 0, .int 0, .int 0, .int 0, .int 0, .int 0]))] := hD
  refine lv_if_eq (tgt := 12) hx hb d_MM_read_5 (by decide) (fun h9 => absurd h9 (by decide +kernel)) (fun _ => ?_)
  refine lv_iconst (v := 0) hx hb d_MM_read_8 (by decide) ?_
  refine lv_goto (tgt := 13) hx hb d_MM_read_9 (by decide) ?_
  refine va_put (D := D) (ci := 9) (v := .int 0) (ty := .int) (C := "MailCharactersModel") (T := F_MM) (N := 23) hx hb hts i_MM t_MM t_MM_ok n_MM hown hK hP hD hS 0 rfl rfl 5 (by decide) (hts _ k_878) (fun _ h9 => h9) rfl (by decide +kernel) rfl rfl (Nat.le_of_ble_eq_true rfl) d_MM_read_13 (fun H locs hP hD hS => ?_)
  have hP : va_P D vwCl [(a0, .inr (9, [.ref x0_nameHead, .ref x0_nameTail, .ref x0_nameOf, .ref x0_windows, .ref x0_koi, .int 0, .ref x0_ready, .ref x0_tape, .int 0, .ref x0_text, .int 0, .ref x0_out, .ref x0_src, .int 0, .int 0, .int 0, .int 0, .int 0, .int 0, .int 0, .int 0, .int 0, .int 0]))] H := hP
  have hD : va_D A [(a0, .inr (9, [.ref x0_nameHead, .ref x0_nameTail, .ref x0_nameOf, .ref x0_windows, .ref x0_koi, .int 0, .ref x0_ready, .ref x0_tape, .int 0, .ref x0_text, .int 0, .ref x0_out, .ref x0_src, .int 0, .int 0, .int 0, .int 0, .int 0, .int 0, .int 0, .int 0, .int 0, .int 0]))] := hD
  refine lv_aload_n hx hb d_MM_read_16 rfl (lv_at hl 0 rfl) ?_
  refine va_get (D := D) (ci := 9) (v := .int 0) (C := "MailCharactersModel") (T := F_MM) (N := 23) hx hb hts i_MM hown hK hP 0 rfl rfl 5 (by decide) (hts _ k_878) (fun _ h9 => h9) rfl d_MM_read_17 ?_
  refine lv_if_le (tgt := 25) hx hb d_MM_read_20 (by decide) (fun _ => ?_) (fun h9 => absurd h9 (by decide +kernel))
  refine lv_aload_n hx hb d_MM_read_25 rfl (lv_at hl 0 rfl) ?_
  refine lv_iconst (v := 0) hx hb d_MM_read_26 (by decide) ?_
  refine va_put (D := D) (ci := 9) (v := .int 0) (ty := .int) (C := "MailCharactersModel") (T := F_MM) (N := 23) hx hb hts i_MM t_MM t_MM_ok n_MM hown hK hP hD hS 0 rfl rfl 10 (by decide) (hts _ k_883) (fun _ h9 => h9) rfl (by decide +kernel) rfl rfl (Nat.le_of_ble_eq_true rfl) d_MM_read_27 (fun H locs hP hD hS => ?_)
  have hP : va_P D vwCl [(a0, .inr (9, [.ref x0_nameHead, .ref x0_nameTail, .ref x0_nameOf, .ref x0_windows, .ref x0_koi, .int 0, .ref x0_ready, .ref x0_tape, .int 0, .ref x0_text, .int 0, .ref x0_out, .ref x0_src, .int 0, .int 0, .int 0, .int 0, .int 0, .int 0, .int 0, .int 0, .int 0, .int 0]))] H := hP
  have hD : va_D A [(a0, .inr (9, [.ref x0_nameHead, .ref x0_nameTail, .ref x0_nameOf, .ref x0_windows, .ref x0_koi, .int 0, .ref x0_ready, .ref x0_tape, .int 0, .ref x0_text, .int 0, .ref x0_out, .ref x0_src, .int 0, .int 0, .int 0, .int 0, .int 0, .int 0, .int 0, .int 0, .int 0, .int 0]))] := hD
  refine lv_aload_n hx hb d_MM_read_30 rfl (lv_at hl 0 rfl) ?_
  refine lv_iconst (v := 0) hx hb d_MM_read_31 (by decide) ?_
  refine lv_aload_n hx hb d_MM_read_32 rfl (lv_at hl 0 rfl) ?_
  refine va_get (D := D) (ci := 9) (v := .int 0) (C := "MailCharactersModel") (T := F_MM) (N := 23) hx hb hts i_MM hown hK hP 0 rfl rfl 8 (by decide) (hts _ k_881) (fun _ h9 => h9) rfl d_MM_read_33 ?_
  refine g_Vv (As := [.int 0, .int 0]) (rest := []) (wr := []) ⟨hx, hb, hml, hown, hts⟩ (c_MM_tapeToSrc_0 l D Z kI a0 x0_nameHead x0_nameTail x0_nameOf x0_windows x0_koi x0_ready x0_tape x0_text x0_out x0_src H.size) (cw_MM_tapeToSrc_0 hts k_1034 ⟨Nat.le_of_ble_eq_true rfl, Nat.le_of_ble_eq_true rfl⟩) hK hZ hP hD hS hA [0] [] (g_recv hK hP (ci := 9) (q0 := 0) rfl rfl) rfl rfl (by decide) (by decide) (by decide) rfl hl.1 rfl (Nat.le_of_ble_eq_true rfl) d_MM_read_36 ⟨Nat.zero_le _, Nat.zero_le _⟩ (fun u_2 H locs hw hP hD hS => ?_)
  have hP : va_P D vwCl [(a0, .inr (9, [.ref x0_nameHead, .ref x0_nameTail, .ref x0_nameOf, .ref x0_windows, .ref x0_koi, .int 0, .ref x0_ready, .ref x0_tape, .int 0, .ref x0_text, .int 0, .ref x0_out, .ref x0_src, .int 0, .int 0, .int 0, .int 0, .int 0, .int 0, .int 0, .int 0, .int 0, .int 0]))] H := hP
  have hD : va_D A [(a0, .inr (9, [.ref x0_nameHead, .ref x0_nameTail, .ref x0_nameOf, .ref x0_windows, .ref x0_koi, .int 0, .ref x0_ready, .ref x0_tape, .int 0, .ref x0_text, .int 0, .ref x0_out, .ref x0_src, .int 0, .int 0, .int 0, .int 0, .int 0, .int 0, .int 0, .int 0, .int 0, .int 0]))] := hD
  refine lv_aload_n hx hb d_MM_read_39 rfl (lv_at hl 0 rfl) ?_
  refine lv_iload_n hx hb d_MM_read_40 rfl (lv_at hl 1 rfl) ?_
  refine g_Vv (As := [.int 0]) (rest := []) (wr := []) ⟨hx, hb, hml, hown, hts⟩ (c_MM_readAll_0 l D Z kI a0 x0_nameHead x0_nameTail x0_nameOf x0_windows x0_koi x0_ready x0_tape x0_text x0_out x0_src H.size) (cw_MM_readAll_0 hts k_1038 ⟨Nat.le_of_ble_eq_true rfl, Nat.le_of_ble_eq_true rfl⟩) hK hZ hP hD hS hA [0] [] (g_recv hK hP (ci := 9) (q0 := 0) rfl rfl) rfl rfl (by decide) (by decide) (by decide) rfl hl.1 rfl (Nat.le_of_ble_eq_true rfl) d_MM_read_41 ⟨Nat.zero_le _, Nat.zero_le _⟩ (fun u_3 H locs hw hP hD hS => ?_)
  have hP : va_P D vwCl [(a0, .inr (9, [.ref x0_nameHead, .ref x0_nameTail, .ref x0_nameOf, .ref x0_windows, .ref x0_koi, .int 0, .ref x0_ready, .ref x0_tape, .int 0, .ref x0_text, .int 0, .ref x0_out, .ref x0_src, .int 0, .int 0, .int 0, .int 0, .int 0, .int 0, .int 0, .int 0, .int 0, .int 0]))] H := hP
  have hD : va_D A [(a0, .inr (9, [.ref x0_nameHead, .ref x0_nameTail, .ref x0_nameOf, .ref x0_windows, .ref x0_koi, .int 0, .ref x0_ready, .ref x0_tape, .int 0, .ref x0_text, .int 0, .ref x0_out, .ref x0_src, .int 0, .int 0, .int 0, .int 0, .int 0, .int 0, .int 0, .int 0, .int 0, .int 0]))] := hD
  refine lv_aload_n hx hb d_MM_read_44 rfl (lv_at hl 0 rfl) ?_
  refine lv_iconst (v := 0) hx hb d_MM_read_45 (by decide) ?_
  refine va_put (D := D) (ci := 9) (v := .int 0) (ty := .int) (C := "MailCharactersModel") (T := F_MM) (N := 23) hx hb hts i_MM t_MM t_MM_ok n_MM hown hK hP hD hS 0 rfl rfl 8 (by decide) (hts _ k_881) (fun _ h9 => h9) rfl (by decide +kernel) rfl rfl (Nat.le_of_ble_eq_true rfl) d_MM_read_46 (fun H locs hP hD hS => ?_)
  have hP : va_P D vwCl [(a0, .inr (9, [.ref x0_nameHead, .ref x0_nameTail, .ref x0_nameOf, .ref x0_windows, .ref x0_koi, .int 0, .ref x0_ready, .ref x0_tape, .int 0, .ref x0_text, .int 0, .ref x0_out, .ref x0_src, .int 0, .int 0, .int 0, .int 0, .int 0, .int 0, .int 0, .int 0, .int 0, .int 0]))] H := hP
  have hD : va_D A [(a0, .inr (9, [.ref x0_nameHead, .ref x0_nameTail, .ref x0_nameOf, .ref x0_windows, .ref x0_koi, .int 0, .ref x0_ready, .ref x0_tape, .int 0, .ref x0_text, .int 0, .ref x0_out, .ref x0_src, .int 0, .int 0, .int 0, .int 0, .int 0, .int 0, .int 0, .int 0, .int 0, .int 0]))] := hD
  refine lv_aload_n hx hb d_MM_read_49 rfl (lv_at hl 0 rfl) ?_
  refine va_get (D := D) (ci := 9) (v := .int 0) (C := "MailCharactersModel") (T := F_MM) (N := 23) hx hb hts i_MM hown hK hP 0 rfl rfl 10 (by decide) (hts _ k_883) (fun _ h9 => h9) rfl d_MM_read_50 ?_
  exact hret 0 () _ _ _ _ d_MM_read_53 rfl rfl hP hD hS
theorem cw_MM_read_0 {R : Room} {s : State} {args : Array Value} {own : String} {idx : Nat} (hts : ∀ w ∈ gW, w.before args s = true) (hl : Cond.methodLink own idx y_MM_read ∈ gW) (hR : rm_MM_read_0.frames + 1 ≤ R.frames ∧ 8 + (2 + 11) + rm_MM_read_0.locals ≤ R.locals) : CallW R s args own "MailCharactersModel" idx y_MM_read b_MM_read 2 (some .int) w_MM_read rm_MM_read_0 0 0 1 := cwV 1 hts (gW_V hl k_1028 k_1029 k_77 k_1030) rfl rfl rfl (by decide +kernel) hR
def rm_MM_isCharset_1 : Room := { frames := 0, cells := 0, slots := 0, locals := 0 }
set_option maxHeartbeats 4000000 in
set_option maxRecDepth 100000 in
theorem c_MM_isCharset_1 (l : Launch) (D : va_G) (Z : gZT) (kI : ClassId) (sz : Nat) : gMi l y_MM_isCharset w_MM_isCharset rm_MM_isCharset_1 D Z kI [.int 1] sz ([] : va_W) (fun (r : Int32) (_u : Unit) => r = 1) (fun (_u : Unit) => ([] : va_W)) := by
  refine g_ofi (cc := b_MM_isCharset) (maxL := 1) (ty := .boolean) (by decide) rfl (Nat.le_of_ble_eq_true rfl) ?_
  intro p e s m below meth c A Q H ls hx hb hml hown hts hA hK hZ hP hD hS hl hret
  have hown : s.vm.findClass "MailCharactersModel" = some m.cls := hown
  have hl : lv_has ls 1 [(0, .int 1)] := hl
  refine lv_iload_n hx hb d_MM_isCharset_0 rfl (lv_at hl 0 rfl) ?_
  refine lv_if_lt (tgt := 14) hx hb d_MM_isCharset_1 (by decide) (fun h9 => absurd h9 (by decide +kernel)) (fun _ => ?_)
  refine lv_iload_n hx hb d_MM_isCharset_4 rfl (lv_at hl 0 rfl) ?_
  refine lv_bipush (v := 9) hx hb d_MM_isCharset_5 (by decide) ?_
  refine lv_icmp_gt (tgt := 14) hx hb d_MM_isCharset_7 (by decide) (fun h9 => absurd h9 (by decide +kernel)) (fun _ => ?_)
  refine lv_iconst (v := 1) hx hb d_MM_isCharset_10 (by decide) ?_
  refine lv_goto (tgt := 15) hx hb d_MM_isCharset_11 (by decide) ?_
  exact hret 1 () _ _ _ _ d_MM_isCharset_15 rfl rfl hP hD hS
theorem cw_MM_isCharset_1 {R : Room} {s : State} {args : Array Value} {own : String} {idx : Nat} (hts : ∀ w ∈ gW, w.before args s = true) (hl : Cond.methodLink own idx y_MM_isCharset ∈ gW) (hR : rm_MM_isCharset_1.frames + 1 ≤ R.frames ∧ 8 + (1 + 11) + rm_MM_isCharset_1.locals ≤ R.locals) : CallB R s args own idx y_MM_isCharset b_MM_isCharset 1 (some .boolean) w_MM_isCharset rm_MM_isCharset_1 0 0 1 ∧ (Cond.static y_MM_isCharset).before args s = true := va_cwS 1 hts (gW_S hl k_1032 k_77 k_1033) rfl rfl rfl (by decide +kernel) hR
def rm_MM_readAll_1 : Room := { frames := 0, cells := 0, slots := 0, locals := 0 }
set_option maxHeartbeats 4000000 in
set_option maxRecDepth 100000 in
theorem c_MM_readAll_1 (l : Launch) (D : va_G) (Z : gZT) (kI : ClassId) (a0 : Nat) (x0_nameHead : Nat) (x0_nameTail : Nat) (x0_nameOf : Nat) (x0_windows : Nat) (x0_koi : Nat) (x0_ready : Nat) (x0_tape : Nat) (x0_text : Nat) (x0_out : Nat) (x0_src : Nat) (sz : Nat) : gMv l y_MM_readAll w_MM_readAll rm_MM_readAll_1 D Z kI [.ref a0, .int 1] sz [(a0, .inr (9, [.ref x0_nameHead, .ref x0_nameTail, .ref x0_nameOf, .ref x0_windows, .ref x0_koi, .int 0, .ref x0_ready, .ref x0_tape, .int 0, .ref x0_text, .int 0, .ref x0_out, .ref x0_src, .int 0, .int 0, .int 0, .int 0, .int 0, .int 0, .int 0, .int 0, .int 0, .int 0]))] (fun (_u : Unit) => True) (fun (_u : Unit) => ([(a0, .inr (9, [.ref x0_nameHead, .ref x0_nameTail, .ref x0_nameOf, .ref x0_windows, .ref x0_koi, .int 0, .ref x0_ready, .ref x0_tape, .int 0, .ref x0_text, .int 0, .ref x0_out, .ref x0_src, .int 0, .int 0, .int 0, .int 0, .int 0, .int 0, .int 0, .int 0, .int 0, .int 0]))] : va_W)) := by
  refine g_ofv (cc := b_MM_readAll) (maxL := 2) (by decide) rfl (Nat.le_of_ble_eq_true rfl) ?_
  intro p e s m below meth c A Q H ls hx hb hml hown hts hA hK hZ hP hD hS hl hret
  have hown : s.vm.findClass "MailCharactersModel" = some m.cls := hown
  have hl : lv_has ls 2 [(0, .ref a0), (1, .int 1)] := hl
  refine lv_aload_n hx hb d_MM_readAll_0 rfl (lv_at hl 0 rfl) ?_
  refine lv_iconst (v := 0) hx hb d_MM_readAll_1 (by decide) ?_
  refine va_put (D := D) (ci := 9) (v := .int 0) (ty := .int) (C := "MailCharactersModel") (T := F_MM) (N := 23) hx hb hts i_MM t_MM t_MM_ok n_MM hown hK hP hD hS 0 rfl rfl 15 (by decide) (hts _ k_888) (fun _ h9 => h9) rfl (by decide +kernel) rfl rfl (Nat.le_of_ble_eq_true rfl) d_MM_readAll_2 (fun H locs hP hD hS => ?_)
  have hP : va_P D vwCl [(a0, .inr (9, [.ref x0_nameHead, .ref x0_nameTail, .ref x0_nameOf, .ref x0_windows, .ref x0_koi, .int 0, .ref x0_ready, .ref x0_tape, .int 0, .ref x0_text, .int 0, .ref x0_out, .ref x0_src, .int 0, .int 0, .int 0, .int 0, .int 0, .int 0, .int 0, .int 0, .int 0, .int 0]))] H := hP
  have hD : va_D A [(a0, .inr (9, [.ref x0_nameHead, .ref x0_nameTail, .ref x0_nameOf, .ref x0_windows, .ref x0_koi, .int 0, .ref x0_ready, .ref x0_tape, .int 0, .ref x0_text, .int 0, .ref x0_out, .ref x0_src, .int 0, .int 0, .int 0, .int 0, .int 0, .int 0, .int 0, .int 0, .int 0, .int 0]))] := hD
  refine lv_iload_n hx hb d_MM_readAll_5 rfl (lv_at hl 1 rfl) ?_
  refine lv_iconst (v := 5) hx hb d_MM_readAll_6 (by decide) ?_
  refine lv_icmp_ne (tgt := 17) hx hb d_MM_readAll_7 (by decide) (fun _ => ?_) (fun h9 => absurd h9 (by decide +kernel))
  refine lv_iload_n hx hb d_MM_readAll_17 rfl (lv_at hl 1 rfl) ?_
  refine lv_bipush (v := 6) hx hb d_MM_readAll_18 (by decide) ?_
  refine lv_icmp_eq (tgt := 29) hx hb d_MM_readAll_20 (by decide) (fun h9 => absurd h9 (by decide +kernel)) (fun _ => ?_)
  refine lv_iload_n hx hb d_MM_readAll_23 rfl (lv_at hl 1 rfl) ?_
  refine lv_bipush (v := 7) hx hb d_MM_readAll_24 (by decide) ?_
  refine lv_icmp_ne (tgt := 44) hx hb d_MM_readAll_26 (by decide) (fun _ => ?_) (fun h9 => absurd h9 (by decide +kernel))
  refine lv_aload_n hx hb d_MM_readAll_44 rfl (lv_at hl 0 rfl) ?_
  refine va_get (D := D) (ci := 9) (v := .int 0) (C := "MailCharactersModel") (T := F_MM) (N := 23) hx hb hts i_MM hown hK hP 0 rfl rfl 15 (by decide) (hts _ k_888) (fun _ h9 => h9) rfl d_MM_readAll_45 ?_
  refine lv_aload_n hx hb d_MM_readAll_48 rfl (lv_at hl 0 rfl) ?_
  refine va_get (D := D) (ci := 9) (v := .int 0) (C := "MailCharactersModel") (T := F_MM) (N := 23) hx hb hts i_MM hown hK hP 0 rfl rfl 14 (by decide) (hts _ k_887) (fun _ h9 => h9) rfl d_MM_readAll_49 ?_
  refine lv_icmp_ge (tgt := 110) hx hb d_MM_readAll_52 (by decide) (fun _ => ?_) (fun h9 => absurd h9 (by decide +kernel))
  exact hret () _ _ _ _ d_MM_readAll_110 trivial hP hD hS
theorem cw_MM_readAll_1 {R : Room} {s : State} {args : Array Value} {own : String} {idx : Nat} (hts : ∀ w ∈ gW, w.before args s = true) (hl : Cond.methodLink own idx y_MM_readAll ∈ gW) (hR : rm_MM_readAll_1.frames + 1 ≤ R.frames ∧ 8 + (2 + 11) + rm_MM_readAll_1.locals ≤ R.locals) : CallW R s args own "MailCharactersModel" idx y_MM_readAll b_MM_readAll 2 none w_MM_readAll rm_MM_readAll_1 0 0 1 := cwV 1 hts (gW_V hl k_1040 k_39 k_77 k_1041) rfl rfl rfl (by decide +kernel) hR
def rm_MM_read_1 : Room := { frames := 1, cells := 0, slots := 0, locals := 23 }
set_option maxHeartbeats 4000000 in
set_option maxRecDepth 100000 in
theorem c_MM_read_1 (l : Launch) (D : va_G) (Z : gZT) (kI : ClassId) (a0 : Nat) (x0_nameHead : Nat) (x0_nameTail : Nat) (x0_nameOf : Nat) (x0_windows : Nat) (x0_koi : Nat) (x0_ready : Nat) (x0_tape : Nat) (x0_text : Nat) (x0_out : Nat) (x0_src : Nat) (sz : Nat) : gMi l y_MM_read w_MM_read rm_MM_read_1 D Z kI [.ref a0, .int 1] sz [(a0, .inr (9, [.ref x0_nameHead, .ref x0_nameTail, .ref x0_nameOf, .ref x0_windows, .ref x0_koi, .int 0, .ref x0_ready, .ref x0_tape, .int 0, .ref x0_text, .int 0, .ref x0_out, .ref x0_src, .int 0, .int 0, .int 0, .int 0, .int 0, .int 0, .int 0, .int 0, .int 0, .int 0]))] (fun (r : Int32) (_u : Unit) => r = 0) (fun (_u : Unit) => ([(a0, .inr (9, [.ref x0_nameHead, .ref x0_nameTail, .ref x0_nameOf, .ref x0_windows, .ref x0_koi, .int 0, .ref x0_ready, .ref x0_tape, .int 0, .ref x0_text, .int 0, .ref x0_out, .ref x0_src, .int 0, .int 0, .int 0, .int 0, .int 0, .int 0, .int 0, .int 0, .int 0, .int 0]))] : va_W)) := by
  refine g_ofi (cc := b_MM_read) (maxL := 2) (ty := .int) (by decide) rfl (Nat.le_of_ble_eq_true rfl) ?_
  intro p e s m below meth c A Q H ls hx hb hml hown hts hA hK hZ hP hD hS hl hret
  have hown : s.vm.findClass "MailCharactersModel" = some m.cls := hown
  have hl : lv_has ls 2 [(0, .ref a0), (1, .int 1)] := hl
  refine lv_aload_n hx hb d_MM_read_0 rfl (lv_at hl 0 rfl) ?_
  refine lv_iload_n hx hb d_MM_read_1 rfl (lv_at hl 1 rfl) ?_
  refine g_Si (As := [.int 1]) (rest := [.ref a0]) (wr := [(a0, .inr (9, [.ref x0_nameHead, .ref x0_nameTail, .ref x0_nameOf, .ref x0_windows, .ref x0_koi, .int 0, .ref x0_ready, .ref x0_tape, .int 0, .ref x0_text, .int 0, .ref x0_out, .ref x0_src, .int 0, .int 0, .int 0, .int 0, .int 0, .int 0, .int 0, .int 0, .int 0, .int 0]))]) ⟨hx, hb, hml, hown, hts⟩ (c_MM_isCharset_1 l D Z kI H.size) (cw_MM_isCharset_1 hts k_1031 ⟨Nat.le_of_ble_eq_true rfl, Nat.le_of_ble_eq_true rfl⟩) hK hZ hP hD hS hA [] [0] rfl rfl (by decide) (by decide) (by decide) rfl hl.1 rfl (Nat.le_of_ble_eq_true rfl) d_MM_read_2 ⟨Nat.zero_le _, Nat.zero_le _⟩ (fun r_1 u_1 H locs hw hP hD hS => ?_)
  obtain rfl : r_1 = 1 := hw
  have hP : va_P D vwCl [(a0, .inr (9, [.ref x0_nameHead, .ref x0_nameTail, .ref x0_nameOf, .ref x0_windows, .ref x0_koi, .int 0, .ref x0_ready, .ref x0_tape, .int 0, .ref x0_text, .int 0, .ref x0_out, .ref x0_src, .int 0, .int 0, .int 0, .int 0, .int 0, .int 0, .int 0, .int 0, .int 0, .int 0]))] H := hP
  have hD : va_D A [(a0, .inr (9, [.ref x0_nameHead, .ref x0_nameTail, .ref x0_nameOf, .ref x0_windows, .ref x0_koi, .int 0, .ref x0_ready, .ref x0_tape, .int 0, .ref x0_text, .int 0, .ref x0_out, .ref x0_src, .int 0, .int 0, .int 0, .int 0, .int 0, .int 0, .int 0, .int 0, .int 0, .int 0]))] := hD
  refine lv_if_eq (tgt := 12) hx hb d_MM_read_5 (by decide) (fun h9 => absurd h9 (by decide +kernel)) (fun _ => ?_)
  refine lv_iconst (v := 0) hx hb d_MM_read_8 (by decide) ?_
  refine lv_goto (tgt := 13) hx hb d_MM_read_9 (by decide) ?_
  refine va_put (D := D) (ci := 9) (v := .int 0) (ty := .int) (C := "MailCharactersModel") (T := F_MM) (N := 23) hx hb hts i_MM t_MM t_MM_ok n_MM hown hK hP hD hS 0 rfl rfl 5 (by decide) (hts _ k_878) (fun _ h9 => h9) rfl (by decide +kernel) rfl rfl (Nat.le_of_ble_eq_true rfl) d_MM_read_13 (fun H locs hP hD hS => ?_)
  have hP : va_P D vwCl [(a0, .inr (9, [.ref x0_nameHead, .ref x0_nameTail, .ref x0_nameOf, .ref x0_windows, .ref x0_koi, .int 0, .ref x0_ready, .ref x0_tape, .int 0, .ref x0_text, .int 0, .ref x0_out, .ref x0_src, .int 0, .int 0, .int 0, .int 0, .int 0, .int 0, .int 0, .int 0, .int 0, .int 0]))] H := hP
  have hD : va_D A [(a0, .inr (9, [.ref x0_nameHead, .ref x0_nameTail, .ref x0_nameOf, .ref x0_windows, .ref x0_koi, .int 0, .ref x0_ready, .ref x0_tape, .int 0, .ref x0_text, .int 0, .ref x0_out, .ref x0_src, .int 0, .int 0, .int 0, .int 0, .int 0, .int 0, .int 0, .int 0, .int 0, .int 0]))] := hD
  refine lv_aload_n hx hb d_MM_read_16 rfl (lv_at hl 0 rfl) ?_
  refine va_get (D := D) (ci := 9) (v := .int 0) (C := "MailCharactersModel") (T := F_MM) (N := 23) hx hb hts i_MM hown hK hP 0 rfl rfl 5 (by decide) (hts _ k_878) (fun _ h9 => h9) rfl d_MM_read_17 ?_
  refine lv_if_le (tgt := 25) hx hb d_MM_read_20 (by decide) (fun _ => ?_) (fun h9 => absurd h9 (by decide +kernel))
  refine lv_aload_n hx hb d_MM_read_25 rfl (lv_at hl 0 rfl) ?_
  refine lv_iconst (v := 0) hx hb d_MM_read_26 (by decide) ?_
  refine va_put (D := D) (ci := 9) (v := .int 0) (ty := .int) (C := "MailCharactersModel") (T := F_MM) (N := 23) hx hb hts i_MM t_MM t_MM_ok n_MM hown hK hP hD hS 0 rfl rfl 10 (by decide) (hts _ k_883) (fun _ h9 => h9) rfl (by decide +kernel) rfl rfl (Nat.le_of_ble_eq_true rfl) d_MM_read_27 (fun H locs hP hD hS => ?_)
  have hP : va_P D vwCl [(a0, .inr (9, [.ref x0_nameHead, .ref x0_nameTail, .ref x0_nameOf, .ref x0_windows, .ref x0_koi, .int 0, .ref x0_ready, .ref x0_tape, .int 0, .ref x0_text, .int 0, .ref x0_out, .ref x0_src, .int 0, .int 0, .int 0, .int 0, .int 0, .int 0, .int 0, .int 0, .int 0, .int 0]))] H := hP
  have hD : va_D A [(a0, .inr (9, [.ref x0_nameHead, .ref x0_nameTail, .ref x0_nameOf, .ref x0_windows, .ref x0_koi, .int 0, .ref x0_ready, .ref x0_tape, .int 0, .ref x0_text, .int 0, .ref x0_out, .ref x0_src, .int 0, .int 0, .int 0, .int 0, .int 0, .int 0, .int 0, .int 0, .int 0, .int 0]))] := hD
  refine lv_aload_n hx hb d_MM_read_30 rfl (lv_at hl 0 rfl) ?_
  refine lv_iconst (v := 0) hx hb d_MM_read_31 (by decide) ?_
  refine lv_aload_n hx hb d_MM_read_32 rfl (lv_at hl 0 rfl) ?_
  refine va_get (D := D) (ci := 9) (v := .int 0) (C := "MailCharactersModel") (T := F_MM) (N := 23) hx hb hts i_MM hown hK hP 0 rfl rfl 8 (by decide) (hts _ k_881) (fun _ h9 => h9) rfl d_MM_read_33 ?_
  refine g_Vv (As := [.int 0, .int 0]) (rest := []) (wr := []) ⟨hx, hb, hml, hown, hts⟩ (c_MM_tapeToSrc_0 l D Z kI a0 x0_nameHead x0_nameTail x0_nameOf x0_windows x0_koi x0_ready x0_tape x0_text x0_out x0_src H.size) (cw_MM_tapeToSrc_0 hts k_1034 ⟨Nat.le_of_ble_eq_true rfl, Nat.le_of_ble_eq_true rfl⟩) hK hZ hP hD hS hA [0] [] (g_recv hK hP (ci := 9) (q0 := 0) rfl rfl) rfl rfl (by decide) (by decide) (by decide) rfl hl.1 rfl (Nat.le_of_ble_eq_true rfl) d_MM_read_36 ⟨Nat.zero_le _, Nat.zero_le _⟩ (fun u_2 H locs hw hP hD hS => ?_)
  have hP : va_P D vwCl [(a0, .inr (9, [.ref x0_nameHead, .ref x0_nameTail, .ref x0_nameOf, .ref x0_windows, .ref x0_koi, .int 0, .ref x0_ready, .ref x0_tape, .int 0, .ref x0_text, .int 0, .ref x0_out, .ref x0_src, .int 0, .int 0, .int 0, .int 0, .int 0, .int 0, .int 0, .int 0, .int 0, .int 0]))] H := hP
  have hD : va_D A [(a0, .inr (9, [.ref x0_nameHead, .ref x0_nameTail, .ref x0_nameOf, .ref x0_windows, .ref x0_koi, .int 0, .ref x0_ready, .ref x0_tape, .int 0, .ref x0_text, .int 0, .ref x0_out, .ref x0_src, .int 0, .int 0, .int 0, .int 0, .int 0, .int 0, .int 0, .int 0, .int 0, .int 0]))] := hD
  refine lv_aload_n hx hb d_MM_read_39 rfl (lv_at hl 0 rfl) ?_
  refine lv_iload_n hx hb d_MM_read_40 rfl (lv_at hl 1 rfl) ?_
  refine g_Vv (As := [.int 1]) (rest := []) (wr := []) ⟨hx, hb, hml, hown, hts⟩ (c_MM_readAll_1 l D Z kI a0 x0_nameHead x0_nameTail x0_nameOf x0_windows x0_koi x0_ready x0_tape x0_text x0_out x0_src H.size) (cw_MM_readAll_1 hts k_1038 ⟨Nat.le_of_ble_eq_true rfl, Nat.le_of_ble_eq_true rfl⟩) hK hZ hP hD hS hA [0] [] (g_recv hK hP (ci := 9) (q0 := 0) rfl rfl) rfl rfl (by decide) (by decide) (by decide) rfl hl.1 rfl (Nat.le_of_ble_eq_true rfl) d_MM_read_41 ⟨Nat.zero_le _, Nat.zero_le _⟩ (fun u_3 H locs hw hP hD hS => ?_)
  have hP : va_P D vwCl [(a0, .inr (9, [.ref x0_nameHead, .ref x0_nameTail, .ref x0_nameOf, .ref x0_windows, .ref x0_koi, .int 0, .ref x0_ready, .ref x0_tape, .int 0, .ref x0_text, .int 0, .ref x0_out, .ref x0_src, .int 0, .int 0, .int 0, .int 0, .int 0, .int 0, .int 0, .int 0, .int 0, .int 0]))] H := hP
  have hD : va_D A [(a0, .inr (9, [.ref x0_nameHead, .ref x0_nameTail, .ref x0_nameOf, .ref x0_windows, .ref x0_koi, .int 0, .ref x0_ready, .ref x0_tape, .int 0, .ref x0_text, .int 0, .ref x0_out, .ref x0_src, .int 0, .int 0, .int 0, .int 0, .int 0, .int 0, .int 0, .int 0, .int 0, .int 0]))] := hD
  refine lv_aload_n hx hb d_MM_read_44 rfl (lv_at hl 0 rfl) ?_
  refine lv_iconst (v := 0) hx hb d_MM_read_45 (by decide) ?_
  refine va_put (D := D) (ci := 9) (v := .int 0) (ty := .int) (C := "MailCharactersModel") (T := F_MM) (N := 23) hx hb hts i_MM t_MM t_MM_ok n_MM hown hK hP hD hS 0 rfl rfl 8 (by decide) (hts _ k_881) (fun _ h9 => h9) rfl (by decide +kernel) rfl rfl (Nat.le_of_ble_eq_true rfl) d_MM_read_46 (fun H locs hP hD hS => ?_)
  have hP : va_P D vwCl [(a0, .inr (9, [.ref x0_nameHead, .ref x0_nameTail, .ref x0_nameOf, .ref x0_windows, .ref x0_koi, .int 0, .ref x0_ready, .ref x0_tape, .int 0, .ref x0_text, .int 0, .ref x0_out, .ref x0_src, .int 0, .int 0, .int 0, .int 0, .int 0, .int 0, .int 0, .int 0, .int 0, .int 0]))] H := hP
  have hD : va_D A [(a0, .inr (9, [.ref x0_nameHead, .ref x0_nameTail, .ref x0_nameOf, .ref x0_windows, .ref x0_koi, .int 0, .ref x0_ready, .ref x0_tape, .int 0, .ref x0_text, .int 0, .ref x0_out, .ref x0_src, .int 0, .int 0, .int 0, .int 0, .int 0, .int 0, .int 0, .int 0, .int 0, .int 0]))] := hD
  refine lv_aload_n hx hb d_MM_read_49 rfl (lv_at hl 0 rfl) ?_
  refine va_get (D := D) (ci := 9) (v := .int 0) (C := "MailCharactersModel") (T := F_MM) (N := 23) hx hb hts i_MM hown hK hP 0 rfl rfl 10 (by decide) (hts _ k_883) (fun _ h9 => h9) rfl d_MM_read_50 ?_
  exact hret 0 () _ _ _ _ d_MM_read_53 rfl rfl hP hD hS
theorem cw_MM_read_1 {R : Room} {s : State} {args : Array Value} {own : String} {idx : Nat} (hts : ∀ w ∈ gW, w.before args s = true) (hl : Cond.methodLink own idx y_MM_read ∈ gW) (hR : rm_MM_read_1.frames + 1 ≤ R.frames ∧ 8 + (2 + 11) + rm_MM_read_1.locals ≤ R.locals) : CallW R s args own "MailCharactersModel" idx y_MM_read b_MM_read 2 (some .int) w_MM_read rm_MM_read_1 0 0 1 := cwV 1 hts (gW_V hl k_1028 k_1029 k_77 k_1030) rfl rfl rfl (by decide +kernel) hR
def rm_MM_isCharset_2 : Room := { frames := 0, cells := 0, slots := 0, locals := 0 }
set_option maxHeartbeats 4000000 in
set_option maxRecDepth 100000 in
theorem c_MM_isCharset_2 (l : Launch) (D : va_G) (Z : gZT) (kI : ClassId) (sz : Nat) : gMi l y_MM_isCharset w_MM_isCharset rm_MM_isCharset_2 D Z kI [.int 2] sz ([] : va_W) (fun (r : Int32) (_u : Unit) => r = 1) (fun (_u : Unit) => ([] : va_W)) := by
  refine g_ofi (cc := b_MM_isCharset) (maxL := 1) (ty := .boolean) (by decide) rfl (Nat.le_of_ble_eq_true rfl) ?_
  intro p e s m below meth c A Q H ls hx hb hml hown hts hA hK hZ hP hD hS hl hret
  have hown : s.vm.findClass "MailCharactersModel" = some m.cls := hown
  have hl : lv_has ls 1 [(0, .int 2)] := hl
  refine lv_iload_n hx hb d_MM_isCharset_0 rfl (lv_at hl 0 rfl) ?_
  refine lv_if_lt (tgt := 14) hx hb d_MM_isCharset_1 (by decide) (fun h9 => absurd h9 (by decide +kernel)) (fun _ => ?_)
  refine lv_iload_n hx hb d_MM_isCharset_4 rfl (lv_at hl 0 rfl) ?_
  refine lv_bipush (v := 9) hx hb d_MM_isCharset_5 (by decide) ?_
  refine lv_icmp_gt (tgt := 14) hx hb d_MM_isCharset_7 (by decide) (fun h9 => absurd h9 (by decide +kernel)) (fun _ => ?_)
  refine lv_iconst (v := 1) hx hb d_MM_isCharset_10 (by decide) ?_
  refine lv_goto (tgt := 15) hx hb d_MM_isCharset_11 (by decide) ?_
  exact hret 1 () _ _ _ _ d_MM_isCharset_15 rfl rfl hP hD hS
theorem cw_MM_isCharset_2 {R : Room} {s : State} {args : Array Value} {own : String} {idx : Nat} (hts : ∀ w ∈ gW, w.before args s = true) (hl : Cond.methodLink own idx y_MM_isCharset ∈ gW) (hR : rm_MM_isCharset_2.frames + 1 ≤ R.frames ∧ 8 + (1 + 11) + rm_MM_isCharset_2.locals ≤ R.locals) : CallB R s args own idx y_MM_isCharset b_MM_isCharset 1 (some .boolean) w_MM_isCharset rm_MM_isCharset_2 0 0 1 ∧ (Cond.static y_MM_isCharset).before args s = true := va_cwS 1 hts (gW_S hl k_1032 k_77 k_1033) rfl rfl rfl (by decide +kernel) hR
def rm_MM_readAll_2 : Room := { frames := 0, cells := 0, slots := 0, locals := 0 }
set_option maxHeartbeats 4000000 in
set_option maxRecDepth 100000 in
theorem c_MM_readAll_2 (l : Launch) (D : va_G) (Z : gZT) (kI : ClassId) (a0 : Nat) (x0_nameHead : Nat) (x0_nameTail : Nat) (x0_nameOf : Nat) (x0_windows : Nat) (x0_koi : Nat) (x0_ready : Nat) (x0_tape : Nat) (x0_text : Nat) (x0_out : Nat) (x0_src : Nat) (sz : Nat) : gMv l y_MM_readAll w_MM_readAll rm_MM_readAll_2 D Z kI [.ref a0, .int 2] sz [(a0, .inr (9, [.ref x0_nameHead, .ref x0_nameTail, .ref x0_nameOf, .ref x0_windows, .ref x0_koi, .int 0, .ref x0_ready, .ref x0_tape, .int 0, .ref x0_text, .int 0, .ref x0_out, .ref x0_src, .int 0, .int 0, .int 0, .int 0, .int 0, .int 0, .int 0, .int 0, .int 0, .int 0]))] (fun (_u : Unit) => True) (fun (_u : Unit) => ([(a0, .inr (9, [.ref x0_nameHead, .ref x0_nameTail, .ref x0_nameOf, .ref x0_windows, .ref x0_koi, .int 0, .ref x0_ready, .ref x0_tape, .int 0, .ref x0_text, .int 0, .ref x0_out, .ref x0_src, .int 0, .int 0, .int 0, .int 0, .int 0, .int 0, .int 0, .int 0, .int 0, .int 0]))] : va_W)) := by
  refine g_ofv (cc := b_MM_readAll) (maxL := 2) (by decide) rfl (Nat.le_of_ble_eq_true rfl) ?_
  intro p e s m below meth c A Q H ls hx hb hml hown hts hA hK hZ hP hD hS hl hret
  have hown : s.vm.findClass "MailCharactersModel" = some m.cls := hown
  have hl : lv_has ls 2 [(0, .ref a0), (1, .int 2)] := hl
  refine lv_aload_n hx hb d_MM_readAll_0 rfl (lv_at hl 0 rfl) ?_
  refine lv_iconst (v := 0) hx hb d_MM_readAll_1 (by decide) ?_
  refine va_put (D := D) (ci := 9) (v := .int 0) (ty := .int) (C := "MailCharactersModel") (T := F_MM) (N := 23) hx hb hts i_MM t_MM t_MM_ok n_MM hown hK hP hD hS 0 rfl rfl 15 (by decide) (hts _ k_888) (fun _ h9 => h9) rfl (by decide +kernel) rfl rfl (Nat.le_of_ble_eq_true rfl) d_MM_readAll_2 (fun H locs hP hD hS => ?_)
  have hP : va_P D vwCl [(a0, .inr (9, [.ref x0_nameHead, .ref x0_nameTail, .ref x0_nameOf, .ref x0_windows, .ref x0_koi, .int 0, .ref x0_ready, .ref x0_tape, .int 0, .ref x0_text, .int 0, .ref x0_out, .ref x0_src, .int 0, .int 0, .int 0, .int 0, .int 0, .int 0, .int 0, .int 0, .int 0, .int 0]))] H := hP
  have hD : va_D A [(a0, .inr (9, [.ref x0_nameHead, .ref x0_nameTail, .ref x0_nameOf, .ref x0_windows, .ref x0_koi, .int 0, .ref x0_ready, .ref x0_tape, .int 0, .ref x0_text, .int 0, .ref x0_out, .ref x0_src, .int 0, .int 0, .int 0, .int 0, .int 0, .int 0, .int 0, .int 0, .int 0, .int 0]))] := hD
  refine lv_iload_n hx hb d_MM_readAll_5 rfl (lv_at hl 1 rfl) ?_
  refine lv_iconst (v := 5) hx hb d_MM_readAll_6 (by decide) ?_
  refine lv_icmp_ne (tgt := 17) hx hb d_MM_readAll_7 (by decide) (fun _ => ?_) (fun h9 => absurd h9 (by decide +kernel))
  refine lv_iload_n hx hb d_MM_readAll_17 rfl (lv_at hl 1 rfl) ?_
  refine lv_bipush (v := 6) hx hb d_MM_readAll_18 (by decide) ?_
  refine lv_icmp_eq (tgt := 29) hx hb d_MM_readAll_20 (by decide) (fun h9 => absurd h9 (by decide +kernel)) (fun _ => ?_)
  refine lv_iload_n hx hb d_MM_readAll_23 rfl (lv_at hl 1 rfl) ?_
  refine lv_bipush (v := 7) hx hb d_MM_readAll_24 (by decide) ?_
  refine lv_icmp_ne (tgt := 44) hx hb d_MM_readAll_26 (by decide) (fun _ => ?_) (fun h9 => absurd h9 (by decide +kernel))
  refine lv_aload_n hx hb d_MM_readAll_44 rfl (lv_at hl 0 rfl) ?_
  refine va_get (D := D) (ci := 9) (v := .int 0) (C := "MailCharactersModel") (T := F_MM) (N := 23) hx hb hts i_MM hown hK hP 0 rfl rfl 15 (by decide) (hts _ k_888) (fun _ h9 => h9) rfl d_MM_readAll_45 ?_
  refine lv_aload_n hx hb d_MM_readAll_48 rfl (lv_at hl 0 rfl) ?_
  refine va_get (D := D) (ci := 9) (v := .int 0) (C := "MailCharactersModel") (T := F_MM) (N := 23) hx hb hts i_MM hown hK hP 0 rfl rfl 14 (by decide) (hts _ k_887) (fun _ h9 => h9) rfl d_MM_readAll_49 ?_
  refine lv_icmp_ge (tgt := 110) hx hb d_MM_readAll_52 (by decide) (fun _ => ?_) (fun h9 => absurd h9 (by decide +kernel))
  exact hret () _ _ _ _ d_MM_readAll_110 trivial hP hD hS
theorem cw_MM_readAll_2 {R : Room} {s : State} {args : Array Value} {own : String} {idx : Nat} (hts : ∀ w ∈ gW, w.before args s = true) (hl : Cond.methodLink own idx y_MM_readAll ∈ gW) (hR : rm_MM_readAll_2.frames + 1 ≤ R.frames ∧ 8 + (2 + 11) + rm_MM_readAll_2.locals ≤ R.locals) : CallW R s args own "MailCharactersModel" idx y_MM_readAll b_MM_readAll 2 none w_MM_readAll rm_MM_readAll_2 0 0 1 := cwV 1 hts (gW_V hl k_1040 k_39 k_77 k_1041) rfl rfl rfl (by decide +kernel) hR
def rm_MM_read_2 : Room := { frames := 1, cells := 0, slots := 0, locals := 23 }
set_option maxHeartbeats 4000000 in
set_option maxRecDepth 100000 in
theorem c_MM_read_2 (l : Launch) (D : va_G) (Z : gZT) (kI : ClassId) (a0 : Nat) (x0_nameHead : Nat) (x0_nameTail : Nat) (x0_nameOf : Nat) (x0_windows : Nat) (x0_koi : Nat) (x0_ready : Nat) (x0_tape : Nat) (x0_text : Nat) (x0_out : Nat) (x0_src : Nat) (sz : Nat) : gMi l y_MM_read w_MM_read rm_MM_read_2 D Z kI [.ref a0, .int 2] sz [(a0, .inr (9, [.ref x0_nameHead, .ref x0_nameTail, .ref x0_nameOf, .ref x0_windows, .ref x0_koi, .int 0, .ref x0_ready, .ref x0_tape, .int 0, .ref x0_text, .int 0, .ref x0_out, .ref x0_src, .int 0, .int 0, .int 0, .int 0, .int 0, .int 0, .int 0, .int 0, .int 0, .int 0]))] (fun (r : Int32) (_u : Unit) => r = 0) (fun (_u : Unit) => ([(a0, .inr (9, [.ref x0_nameHead, .ref x0_nameTail, .ref x0_nameOf, .ref x0_windows, .ref x0_koi, .int 0, .ref x0_ready, .ref x0_tape, .int 0, .ref x0_text, .int 0, .ref x0_out, .ref x0_src, .int 0, .int 0, .int 0, .int 0, .int 0, .int 0, .int 0, .int 0, .int 0, .int 0]))] : va_W)) := by
  refine g_ofi (cc := b_MM_read) (maxL := 2) (ty := .int) (by decide) rfl (Nat.le_of_ble_eq_true rfl) ?_
  intro p e s m below meth c A Q H ls hx hb hml hown hts hA hK hZ hP hD hS hl hret
  have hown : s.vm.findClass "MailCharactersModel" = some m.cls := hown
  have hl : lv_has ls 2 [(0, .ref a0), (1, .int 2)] := hl
  refine lv_aload_n hx hb d_MM_read_0 rfl (lv_at hl 0 rfl) ?_
  refine lv_iload_n hx hb d_MM_read_1 rfl (lv_at hl 1 rfl) ?_
  refine g_Si (As := [.int 2]) (rest := [.ref a0]) (wr := [(a0, .inr (9, [.ref x0_nameHead, .ref x0_nameTail, .ref x0_nameOf, .ref x0_windows, .ref x0_koi, .int 0, .ref x0_ready, .ref x0_tape, .int 0, .ref x0_text, .int 0, .ref x0_out, .ref x0_src, .int 0, .int 0, .int 0, .int 0, .int 0, .int 0, .int 0, .int 0, .int 0, .int 0]))]) ⟨hx, hb, hml, hown, hts⟩ (c_MM_isCharset_2 l D Z kI H.size) (cw_MM_isCharset_2 hts k_1031 ⟨Nat.le_of_ble_eq_true rfl, Nat.le_of_ble_eq_true rfl⟩) hK hZ hP hD hS hA [] [0] rfl rfl (by decide) (by decide) (by decide) rfl hl.1 rfl (Nat.le_of_ble_eq_true rfl) d_MM_read_2 ⟨Nat.zero_le _, Nat.zero_le _⟩ (fun r_1 u_1 H locs hw hP hD hS => ?_)
  obtain rfl : r_1 = 1 := hw
  have hP : va_P D vwCl [(a0, .inr (9, [.ref x0_nameHead, .ref x0_nameTail, .ref x0_nameOf, .ref x0_windows, .ref x0_koi, .int 0, .ref x0_ready, .ref x0_tape, .int 0, .ref x0_text, .int 0, .ref x0_out, .ref x0_src, .int 0, .int 0, .int 0, .int 0, .int 0, .int 0, .int 0, .int 0, .int 0, .int 0]))] H := hP
  have hD : va_D A [(a0, .inr (9, [.ref x0_nameHead, .ref x0_nameTail, .ref x0_nameOf, .ref x0_windows, .ref x0_koi, .int 0, .ref x0_ready, .ref x0_tape, .int 0, .ref x0_text, .int 0, .ref x0_out, .ref x0_src, .int 0, .int 0, .int 0, .int 0, .int 0, .int 0, .int 0, .int 0, .int 0, .int 0]))] := hD
  refine lv_if_eq (tgt := 12) hx hb d_MM_read_5 (by decide) (fun h9 => absurd h9 (by decide +kernel)) (fun _ => ?_)
  refine lv_iconst (v := 0) hx hb d_MM_read_8 (by decide) ?_
  refine lv_goto (tgt := 13) hx hb d_MM_read_9 (by decide) ?_
  refine va_put (D := D) (ci := 9) (v := .int 0) (ty := .int) (C := "MailCharactersModel") (T := F_MM) (N := 23) hx hb hts i_MM t_MM t_MM_ok n_MM hown hK hP hD hS 0 rfl rfl 5 (by decide) (hts _ k_878) (fun _ h9 => h9) rfl (by decide +kernel) rfl rfl (Nat.le_of_ble_eq_true rfl) d_MM_read_13 (fun H locs hP hD hS => ?_)
  have hP : va_P D vwCl [(a0, .inr (9, [.ref x0_nameHead, .ref x0_nameTail, .ref x0_nameOf, .ref x0_windows, .ref x0_koi, .int 0, .ref x0_ready, .ref x0_tape, .int 0, .ref x0_text, .int 0, .ref x0_out, .ref x0_src, .int 0, .int 0, .int 0, .int 0, .int 0, .int 0, .int 0, .int 0, .int 0, .int 0]))] H := hP
  have hD : va_D A [(a0, .inr (9, [.ref x0_nameHead, .ref x0_nameTail, .ref x0_nameOf, .ref x0_windows, .ref x0_koi, .int 0, .ref x0_ready, .ref x0_tape, .int 0, .ref x0_text, .int 0, .ref x0_out, .ref x0_src, .int 0, .int 0, .int 0, .int 0, .int 0, .int 0, .int 0, .int 0, .int 0, .int 0]))] := hD
  refine lv_aload_n hx hb d_MM_read_16 rfl (lv_at hl 0 rfl) ?_
  refine va_get (D := D) (ci := 9) (v := .int 0) (C := "MailCharactersModel") (T := F_MM) (N := 23) hx hb hts i_MM hown hK hP 0 rfl rfl 5 (by decide) (hts _ k_878) (fun _ h9 => h9) rfl d_MM_read_17 ?_
  refine lv_if_le (tgt := 25) hx hb d_MM_read_20 (by decide) (fun _ => ?_) (fun h9 => absurd h9 (by decide +kernel))
  refine lv_aload_n hx hb d_MM_read_25 rfl (lv_at hl 0 rfl) ?_
  refine lv_iconst (v := 0) hx hb d_MM_read_26 (by decide) ?_
  refine va_put (D := D) (ci := 9) (v := .int 0) (ty := .int) (C := "MailCharactersModel") (T := F_MM) (N := 23) hx hb hts i_MM t_MM t_MM_ok n_MM hown hK hP hD hS 0 rfl rfl 10 (by decide) (hts _ k_883) (fun _ h9 => h9) rfl (by decide +kernel) rfl rfl (Nat.le_of_ble_eq_true rfl) d_MM_read_27 (fun H locs hP hD hS => ?_)
  have hP : va_P D vwCl [(a0, .inr (9, [.ref x0_nameHead, .ref x0_nameTail, .ref x0_nameOf, .ref x0_windows, .ref x0_koi, .int 0, .ref x0_ready, .ref x0_tape, .int 0, .ref x0_text, .int 0, .ref x0_out, .ref x0_src, .int 0, .int 0, .int 0, .int 0, .int 0, .int 0, .int 0, .int 0, .int 0, .int 0]))] H := hP
  have hD : va_D A [(a0, .inr (9, [.ref x0_nameHead, .ref x0_nameTail, .ref x0_nameOf, .ref x0_windows, .ref x0_koi, .int 0, .ref x0_ready, .ref x0_tape, .int 0, .ref x0_text, .int 0, .ref x0_out, .ref x0_src, .int 0, .int 0, .int 0, .int 0, .int 0, .int 0, .int 0, .int 0, .int 0, .int 0]))] := hD
  refine lv_aload_n hx hb d_MM_read_30 rfl (lv_at hl 0 rfl) ?_
  refine lv_iconst (v := 0) hx hb d_MM_read_31 (by decide) ?_
  refine lv_aload_n hx hb d_MM_read_32 rfl (lv_at hl 0 rfl) ?_
  refine va_get (D := D) (ci := 9) (v := .int 0) (C := "MailCharactersModel") (T := F_MM) (N := 23) hx hb hts i_MM hown hK hP 0 rfl rfl 8 (by decide) (hts _ k_881) (fun _ h9 => h9) rfl d_MM_read_33 ?_
  refine g_Vv (As := [.int 0, .int 0]) (rest := []) (wr := []) ⟨hx, hb, hml, hown, hts⟩ (c_MM_tapeToSrc_0 l D Z kI a0 x0_nameHead x0_nameTail x0_nameOf x0_windows x0_koi x0_ready x0_tape x0_text x0_out x0_src H.size) (cw_MM_tapeToSrc_0 hts k_1034 ⟨Nat.le_of_ble_eq_true rfl, Nat.le_of_ble_eq_true rfl⟩) hK hZ hP hD hS hA [0] [] (g_recv hK hP (ci := 9) (q0 := 0) rfl rfl) rfl rfl (by decide) (by decide) (by decide) rfl hl.1 rfl (Nat.le_of_ble_eq_true rfl) d_MM_read_36 ⟨Nat.zero_le _, Nat.zero_le _⟩ (fun u_2 H locs hw hP hD hS => ?_)
  have hP : va_P D vwCl [(a0, .inr (9, [.ref x0_nameHead, .ref x0_nameTail, .ref x0_nameOf, .ref x0_windows, .ref x0_koi, .int 0, .ref x0_ready, .ref x0_tape, .int 0, .ref x0_text, .int 0, .ref x0_out, .ref x0_src, .int 0, .int 0, .int 0, .int 0, .int 0, .int 0, .int 0, .int 0, .int 0, .int 0]))] H := hP
  have hD : va_D A [(a0, .inr (9, [.ref x0_nameHead, .ref x0_nameTail, .ref x0_nameOf, .ref x0_windows, .ref x0_koi, .int 0, .ref x0_ready, .ref x0_tape, .int 0, .ref x0_text, .int 0, .ref x0_out, .ref x0_src, .int 0, .int 0, .int 0, .int 0, .int 0, .int 0, .int 0, .int 0, .int 0, .int 0]))] := hD
  refine lv_aload_n hx hb d_MM_read_39 rfl (lv_at hl 0 rfl) ?_
  refine lv_iload_n hx hb d_MM_read_40 rfl (lv_at hl 1 rfl) ?_
  refine g_Vv (As := [.int 2]) (rest := []) (wr := []) ⟨hx, hb, hml, hown, hts⟩ (c_MM_readAll_2 l D Z kI a0 x0_nameHead x0_nameTail x0_nameOf x0_windows x0_koi x0_ready x0_tape x0_text x0_out x0_src H.size) (cw_MM_readAll_2 hts k_1038 ⟨Nat.le_of_ble_eq_true rfl, Nat.le_of_ble_eq_true rfl⟩) hK hZ hP hD hS hA [0] [] (g_recv hK hP (ci := 9) (q0 := 0) rfl rfl) rfl rfl (by decide) (by decide) (by decide) rfl hl.1 rfl (Nat.le_of_ble_eq_true rfl) d_MM_read_41 ⟨Nat.zero_le _, Nat.zero_le _⟩ (fun u_3 H locs hw hP hD hS => ?_)
  have hP : va_P D vwCl [(a0, .inr (9, [.ref x0_nameHead, .ref x0_nameTail, .ref x0_nameOf, .ref x0_windows, .ref x0_koi, .int 0, .ref x0_ready, .ref x0_tape, .int 0, .ref x0_text, .int 0, .ref x0_out, .ref x0_src, .int 0, .int 0, .int 0, .int 0, .int 0, .int 0, .int 0, .int 0, .int 0, .int 0]))] H := hP
  have hD : va_D A [(a0, .inr (9, [.ref x0_nameHead, .ref x0_nameTail, .ref x0_nameOf, .ref x0_windows, .ref x0_koi, .int 0, .ref x0_ready, .ref x0_tape, .int 0, .ref x0_text, .int 0, .ref x0_out, .ref x0_src, .int 0, .int 0, .int 0, .int 0, .int 0, .int 0, .int 0, .int 0, .int 0, .int 0]))] := hD
  refine lv_aload_n hx hb d_MM_read_44 rfl (lv_at hl 0 rfl) ?_
  refine lv_iconst (v := 0) hx hb d_MM_read_45 (by decide) ?_
  refine va_put (D := D) (ci := 9) (v := .int 0) (ty := .int) (C := "MailCharactersModel") (T := F_MM) (N := 23) hx hb hts i_MM t_MM t_MM_ok n_MM hown hK hP hD hS 0 rfl rfl 8 (by decide) (hts _ k_881) (fun _ h9 => h9) rfl (by decide +kernel) rfl rfl (Nat.le_of_ble_eq_true rfl) d_MM_read_46 (fun H locs hP hD hS => ?_)
  have hP : va_P D vwCl [(a0, .inr (9, [.ref x0_nameHead, .ref x0_nameTail, .ref x0_nameOf, .ref x0_windows, .ref x0_koi, .int 0, .ref x0_ready, .ref x0_tape, .int 0, .ref x0_text, .int 0, .ref x0_out, .ref x0_src, .int 0, .int 0, .int 0, .int 0, .int 0, .int 0, .int 0, .int 0, .int 0, .int 0]))] H := hP
  have hD : va_D A [(a0, .inr (9, [.ref x0_nameHead, .ref x0_nameTail, .ref x0_nameOf, .ref x0_windows, .ref x0_koi, .int 0, .ref x0_ready, .ref x0_tape, .int 0, .ref x0_text, .int 0, .ref x0_out, .ref x0_src, .int 0, .int 0, .int 0, .int 0, .int 0, .int 0, .int 0, .int 0, .int 0, .int 0]))] := hD
  refine lv_aload_n hx hb d_MM_read_49 rfl (lv_at hl 0 rfl) ?_
  refine va_get (D := D) (ci := 9) (v := .int 0) (C := "MailCharactersModel") (T := F_MM) (N := 23) hx hb hts i_MM hown hK hP 0 rfl rfl 10 (by decide) (hts _ k_883) (fun _ h9 => h9) rfl d_MM_read_50 ?_
  exact hret 0 () _ _ _ _ d_MM_read_53 rfl rfl hP hD hS
theorem cw_MM_read_2 {R : Room} {s : State} {args : Array Value} {own : String} {idx : Nat} (hts : ∀ w ∈ gW, w.before args s = true) (hl : Cond.methodLink own idx y_MM_read ∈ gW) (hR : rm_MM_read_2.frames + 1 ≤ R.frames ∧ 8 + (2 + 11) + rm_MM_read_2.locals ≤ R.locals) : CallW R s args own "MailCharactersModel" idx y_MM_read b_MM_read 2 (some .int) w_MM_read rm_MM_read_2 0 0 1 := cwV 1 hts (gW_V hl k_1028 k_1029 k_77 k_1030) rfl rfl rfl (by decide +kernel) hR
def rm_MM_isCharset_3 : Room := { frames := 0, cells := 0, slots := 0, locals := 0 }
set_option maxHeartbeats 4000000 in
set_option maxRecDepth 100000 in
theorem c_MM_isCharset_3 (l : Launch) (D : va_G) (Z : gZT) (kI : ClassId) (sz : Nat) : gMi l y_MM_isCharset w_MM_isCharset rm_MM_isCharset_3 D Z kI [.int 3] sz ([] : va_W) (fun (r : Int32) (_u : Unit) => r = 1) (fun (_u : Unit) => ([] : va_W)) := by
  refine g_ofi (cc := b_MM_isCharset) (maxL := 1) (ty := .boolean) (by decide) rfl (Nat.le_of_ble_eq_true rfl) ?_
  intro p e s m below meth c A Q H ls hx hb hml hown hts hA hK hZ hP hD hS hl hret
  have hown : s.vm.findClass "MailCharactersModel" = some m.cls := hown
  have hl : lv_has ls 1 [(0, .int 3)] := hl
  refine lv_iload_n hx hb d_MM_isCharset_0 rfl (lv_at hl 0 rfl) ?_
  refine lv_if_lt (tgt := 14) hx hb d_MM_isCharset_1 (by decide) (fun h9 => absurd h9 (by decide +kernel)) (fun _ => ?_)
  refine lv_iload_n hx hb d_MM_isCharset_4 rfl (lv_at hl 0 rfl) ?_
  refine lv_bipush (v := 9) hx hb d_MM_isCharset_5 (by decide) ?_
  refine lv_icmp_gt (tgt := 14) hx hb d_MM_isCharset_7 (by decide) (fun h9 => absurd h9 (by decide +kernel)) (fun _ => ?_)
  refine lv_iconst (v := 1) hx hb d_MM_isCharset_10 (by decide) ?_
  refine lv_goto (tgt := 15) hx hb d_MM_isCharset_11 (by decide) ?_
  exact hret 1 () _ _ _ _ d_MM_isCharset_15 rfl rfl hP hD hS
theorem cw_MM_isCharset_3 {R : Room} {s : State} {args : Array Value} {own : String} {idx : Nat} (hts : ∀ w ∈ gW, w.before args s = true) (hl : Cond.methodLink own idx y_MM_isCharset ∈ gW) (hR : rm_MM_isCharset_3.frames + 1 ≤ R.frames ∧ 8 + (1 + 11) + rm_MM_isCharset_3.locals ≤ R.locals) : CallB R s args own idx y_MM_isCharset b_MM_isCharset 1 (some .boolean) w_MM_isCharset rm_MM_isCharset_3 0 0 1 ∧ (Cond.static y_MM_isCharset).before args s = true := va_cwS 1 hts (gW_S hl k_1032 k_77 k_1033) rfl rfl rfl (by decide +kernel) hR
def rm_MM_readAll_3 : Room := { frames := 0, cells := 0, slots := 0, locals := 0 }
set_option maxHeartbeats 4000000 in
set_option maxRecDepth 100000 in
theorem c_MM_readAll_3 (l : Launch) (D : va_G) (Z : gZT) (kI : ClassId) (a0 : Nat) (x0_nameHead : Nat) (x0_nameTail : Nat) (x0_nameOf : Nat) (x0_windows : Nat) (x0_koi : Nat) (x0_ready : Nat) (x0_tape : Nat) (x0_text : Nat) (x0_out : Nat) (x0_src : Nat) (sz : Nat) : gMv l y_MM_readAll w_MM_readAll rm_MM_readAll_3 D Z kI [.ref a0, .int 3] sz [(a0, .inr (9, [.ref x0_nameHead, .ref x0_nameTail, .ref x0_nameOf, .ref x0_windows, .ref x0_koi, .int 0, .ref x0_ready, .ref x0_tape, .int 0, .ref x0_text, .int 0, .ref x0_out, .ref x0_src, .int 0, .int 0, .int 0, .int 0, .int 0, .int 0, .int 0, .int 0, .int 0, .int 0]))] (fun (_u : Unit) => True) (fun (_u : Unit) => ([(a0, .inr (9, [.ref x0_nameHead, .ref x0_nameTail, .ref x0_nameOf, .ref x0_windows, .ref x0_koi, .int 0, .ref x0_ready, .ref x0_tape, .int 0, .ref x0_text, .int 0, .ref x0_out, .ref x0_src, .int 0, .int 0, .int 0, .int 0, .int 0, .int 0, .int 0, .int 0, .int 0, .int 0]))] : va_W)) := by
  refine g_ofv (cc := b_MM_readAll) (maxL := 2) (by decide) rfl (Nat.le_of_ble_eq_true rfl) ?_
  intro p e s m below meth c A Q H ls hx hb hml hown hts hA hK hZ hP hD hS hl hret
  have hown : s.vm.findClass "MailCharactersModel" = some m.cls := hown
  have hl : lv_has ls 2 [(0, .ref a0), (1, .int 3)] := hl
  refine lv_aload_n hx hb d_MM_readAll_0 rfl (lv_at hl 0 rfl) ?_
  refine lv_iconst (v := 0) hx hb d_MM_readAll_1 (by decide) ?_
  refine va_put (D := D) (ci := 9) (v := .int 0) (ty := .int) (C := "MailCharactersModel") (T := F_MM) (N := 23) hx hb hts i_MM t_MM t_MM_ok n_MM hown hK hP hD hS 0 rfl rfl 15 (by decide) (hts _ k_888) (fun _ h9 => h9) rfl (by decide +kernel) rfl rfl (Nat.le_of_ble_eq_true rfl) d_MM_readAll_2 (fun H locs hP hD hS => ?_)
  have hP : va_P D vwCl [(a0, .inr (9, [.ref x0_nameHead, .ref x0_nameTail, .ref x0_nameOf, .ref x0_windows, .ref x0_koi, .int 0, .ref x0_ready, .ref x0_tape, .int 0, .ref x0_text, .int 0, .ref x0_out, .ref x0_src, .int 0, .int 0, .int 0, .int 0, .int 0, .int 0, .int 0, .int 0, .int 0, .int 0]))] H := hP
  have hD : va_D A [(a0, .inr (9, [.ref x0_nameHead, .ref x0_nameTail, .ref x0_nameOf, .ref x0_windows, .ref x0_koi, .int 0, .ref x0_ready, .ref x0_tape, .int 0, .ref x0_text, .int 0, .ref x0_out, .ref x0_src, .int 0, .int 0, .int 0, .int 0, .int 0, .int 0, .int 0, .int 0, .int 0, .int 0]))] := hD
  refine lv_iload_n hx hb d_MM_readAll_5 rfl (lv_at hl 1 rfl) ?_
  refine lv_iconst (v := 5) hx hb d_MM_readAll_6 (by decide) ?_
  refine lv_icmp_ne (tgt := 17) hx hb d_MM_readAll_7 (by decide) (fun _ => ?_) (fun h9 => absurd h9 (by decide +kernel))
  refine lv_iload_n hx hb d_MM_readAll_17 rfl (lv_at hl 1 rfl) ?_
  refine lv_bipush (v := 6) hx hb d_MM_readAll_18 (by decide) ?_
  refine lv_icmp_eq (tgt := 29) hx hb d_MM_readAll_20 (by decide) (fun h9 => absurd h9 (by decide +kernel)) (fun _ => ?_)
  refine lv_iload_n hx hb d_MM_readAll_23 rfl (lv_at hl 1 rfl) ?_
  refine lv_bipush (v := 7) hx hb d_MM_readAll_24 (by decide) ?_
  refine lv_icmp_ne (tgt := 44) hx hb d_MM_readAll_26 (by decide) (fun _ => ?_) (fun h9 => absurd h9 (by decide +kernel))
  refine lv_aload_n hx hb d_MM_readAll_44 rfl (lv_at hl 0 rfl) ?_
  refine va_get (D := D) (ci := 9) (v := .int 0) (C := "MailCharactersModel") (T := F_MM) (N := 23) hx hb hts i_MM hown hK hP 0 rfl rfl 15 (by decide) (hts _ k_888) (fun _ h9 => h9) rfl d_MM_readAll_45 ?_
  refine lv_aload_n hx hb d_MM_readAll_48 rfl (lv_at hl 0 rfl) ?_
  refine va_get (D := D) (ci := 9) (v := .int 0) (C := "MailCharactersModel") (T := F_MM) (N := 23) hx hb hts i_MM hown hK hP 0 rfl rfl 14 (by decide) (hts _ k_887) (fun _ h9 => h9) rfl d_MM_readAll_49 ?_
  refine lv_icmp_ge (tgt := 110) hx hb d_MM_readAll_52 (by decide) (fun _ => ?_) (fun h9 => absurd h9 (by decide +kernel))
  exact hret () _ _ _ _ d_MM_readAll_110 trivial hP hD hS
theorem cw_MM_readAll_3 {R : Room} {s : State} {args : Array Value} {own : String} {idx : Nat} (hts : ∀ w ∈ gW, w.before args s = true) (hl : Cond.methodLink own idx y_MM_readAll ∈ gW) (hR : rm_MM_readAll_3.frames + 1 ≤ R.frames ∧ 8 + (2 + 11) + rm_MM_readAll_3.locals ≤ R.locals) : CallW R s args own "MailCharactersModel" idx y_MM_readAll b_MM_readAll 2 none w_MM_readAll rm_MM_readAll_3 0 0 1 := cwV 1 hts (gW_V hl k_1040 k_39 k_77 k_1041) rfl rfl rfl (by decide +kernel) hR
def rm_MM_read_3 : Room := { frames := 1, cells := 0, slots := 0, locals := 23 }
set_option maxHeartbeats 4000000 in
set_option maxRecDepth 100000 in
theorem c_MM_read_3 (l : Launch) (D : va_G) (Z : gZT) (kI : ClassId) (a0 : Nat) (x0_nameHead : Nat) (x0_nameTail : Nat) (x0_nameOf : Nat) (x0_windows : Nat) (x0_koi : Nat) (x0_ready : Nat) (x0_tape : Nat) (x0_text : Nat) (x0_out : Nat) (x0_src : Nat) (sz : Nat) : gMi l y_MM_read w_MM_read rm_MM_read_3 D Z kI [.ref a0, .int 3] sz [(a0, .inr (9, [.ref x0_nameHead, .ref x0_nameTail, .ref x0_nameOf, .ref x0_windows, .ref x0_koi, .int 0, .ref x0_ready, .ref x0_tape, .int 0, .ref x0_text, .int 0, .ref x0_out, .ref x0_src, .int 0, .int 0, .int 0, .int 0, .int 0, .int 0, .int 0, .int 0, .int 0, .int 0]))] (fun (r : Int32) (_u : Unit) => r = 0) (fun (_u : Unit) => ([(a0, .inr (9, [.ref x0_nameHead, .ref x0_nameTail, .ref x0_nameOf, .ref x0_windows, .ref x0_koi, .int 0, .ref x0_ready, .ref x0_tape, .int 0, .ref x0_text, .int 0, .ref x0_out, .ref x0_src, .int 0, .int 0, .int 0, .int 0, .int 0, .int 0, .int 0, .int 0, .int 0, .int 0]))] : va_W)) := by
  refine g_ofi (cc := b_MM_read) (maxL := 2) (ty := .int) (by decide) rfl (Nat.le_of_ble_eq_true rfl) ?_
  intro p e s m below meth c A Q H ls hx hb hml hown hts hA hK hZ hP hD hS hl hret
  have hown : s.vm.findClass "MailCharactersModel" = some m.cls := hown
  have hl : lv_has ls 2 [(0, .ref a0), (1, .int 3)] := hl
  refine lv_aload_n hx hb d_MM_read_0 rfl (lv_at hl 0 rfl) ?_
  refine lv_iload_n hx hb d_MM_read_1 rfl (lv_at hl 1 rfl) ?_
  refine g_Si (As := [.int 3]) (rest := [.ref a0]) (wr := [(a0, .inr (9, [.ref x0_nameHead, .ref x0_nameTail, .ref x0_nameOf, .ref x0_windows, .ref x0_koi, .int 0, .ref x0_ready, .ref x0_tape, .int 0, .ref x0_text, .int 0, .ref x0_out, .ref x0_src, .int 0, .int 0, .int 0, .int 0, .int 0, .int 0, .int 0, .int 0, .int 0, .int 0]))]) ⟨hx, hb, hml, hown, hts⟩ (c_MM_isCharset_3 l D Z kI H.size) (cw_MM_isCharset_3 hts k_1031 ⟨Nat.le_of_ble_eq_true rfl, Nat.le_of_ble_eq_true rfl⟩) hK hZ hP hD hS hA [] [0] rfl rfl (by decide) (by decide) (by decide) rfl hl.1 rfl (Nat.le_of_ble_eq_true rfl) d_MM_read_2 ⟨Nat.zero_le _, Nat.zero_le _⟩ (fun r_1 u_1 H locs hw hP hD hS => ?_)
  obtain rfl : r_1 = 1 := hw
  have hP : va_P D vwCl [(a0, .inr (9, [.ref x0_nameHead, .ref x0_nameTail, .ref x0_nameOf, .ref x0_windows, .ref x0_koi, .int 0, .ref x0_ready, .ref x0_tape, .int 0, .ref x0_text, .int 0, .ref x0_out, .ref x0_src, .int 0, .int 0, .int 0, .int 0, .int 0, .int 0, .int 0, .int 0, .int 0, .int 0]))] H := hP
  have hD : va_D A [(a0, .inr (9, [.ref x0_nameHead, .ref x0_nameTail, .ref x0_nameOf, .ref x0_windows, .ref x0_koi, .int 0, .ref x0_ready, .ref x0_tape, .int 0, .ref x0_text, .int 0, .ref x0_out, .ref x0_src, .int 0, .int 0, .int 0, .int 0, .int 0, .int 0, .int 0, .int 0, .int 0, .int 0]))] := hD
  refine lv_if_eq (tgt := 12) hx hb d_MM_read_5 (by decide) (fun h9 => absurd h9 (by decide +kernel)) (fun _ => ?_)
  refine lv_iconst (v := 0) hx hb d_MM_read_8 (by decide) ?_
  refine lv_goto (tgt := 13) hx hb d_MM_read_9 (by decide) ?_
  refine va_put (D := D) (ci := 9) (v := .int 0) (ty := .int) (C := "MailCharactersModel") (T := F_MM) (N := 23) hx hb hts i_MM t_MM t_MM_ok n_MM hown hK hP hD hS 0 rfl rfl 5 (by decide) (hts _ k_878) (fun _ h9 => h9) rfl (by decide +kernel) rfl rfl (Nat.le_of_ble_eq_true rfl) d_MM_read_13 (fun H locs hP hD hS => ?_)
  have hP : va_P D vwCl [(a0, .inr (9, [.ref x0_nameHead, .ref x0_nameTail, .ref x0_nameOf, .ref x0_windows, .ref x0_koi, .int 0, .ref x0_ready, .ref x0_tape, .int 0, .ref x0_text, .int 0, .ref x0_out, .ref x0_src, .int 0, .int 0, .int 0, .int 0, .int 0, .int 0, .int 0, .int 0, .int 0, .int 0]))] H := hP
  have hD : va_D A [(a0, .inr (9, [.ref x0_nameHead, .ref x0_nameTail, .ref x0_nameOf, .ref x0_windows, .ref x0_koi, .int 0, .ref x0_ready, .ref x0_tape, .int 0, .ref x0_text, .int 0, .ref x0_out, .ref x0_src, .int 0, .int 0, .int 0, .int 0, .int 0, .int 0, .int 0, .int 0, .int 0, .int 0]))] := hD
  refine lv_aload_n hx hb d_MM_read_16 rfl (lv_at hl 0 rfl) ?_
  refine va_get (D := D) (ci := 9) (v := .int 0) (C := "MailCharactersModel") (T := F_MM) (N := 23) hx hb hts i_MM hown hK hP 0 rfl rfl 5 (by decide) (hts _ k_878) (fun _ h9 => h9) rfl d_MM_read_17 ?_
  refine lv_if_le (tgt := 25) hx hb d_MM_read_20 (by decide) (fun _ => ?_) (fun h9 => absurd h9 (by decide +kernel))
  refine lv_aload_n hx hb d_MM_read_25 rfl (lv_at hl 0 rfl) ?_
  refine lv_iconst (v := 0) hx hb d_MM_read_26 (by decide) ?_
  refine va_put (D := D) (ci := 9) (v := .int 0) (ty := .int) (C := "MailCharactersModel") (T := F_MM) (N := 23) hx hb hts i_MM t_MM t_MM_ok n_MM hown hK hP hD hS 0 rfl rfl 10 (by decide) (hts _ k_883) (fun _ h9 => h9) rfl (by decide +kernel) rfl rfl (Nat.le_of_ble_eq_true rfl) d_MM_read_27 (fun H locs hP hD hS => ?_)
  have hP : va_P D vwCl [(a0, .inr (9, [.ref x0_nameHead, .ref x0_nameTail, .ref x0_nameOf, .ref x0_windows, .ref x0_koi, .int 0, .ref x0_ready, .ref x0_tape, .int 0, .ref x0_text, .int 0, .ref x0_out, .ref x0_src, .int 0, .int 0, .int 0, .int 0, .int 0, .int 0, .int 0, .int 0, .int 0, .int 0]))] H := hP
  have hD : va_D A [(a0, .inr (9, [.ref x0_nameHead, .ref x0_nameTail, .ref x0_nameOf, .ref x0_windows, .ref x0_koi, .int 0, .ref x0_ready, .ref x0_tape, .int 0, .ref x0_text, .int 0, .ref x0_out, .ref x0_src, .int 0, .int 0, .int 0, .int 0, .int 0, .int 0, .int 0, .int 0, .int 0, .int 0]))] := hD
  refine lv_aload_n hx hb d_MM_read_30 rfl (lv_at hl 0 rfl) ?_
  refine lv_iconst (v := 0) hx hb d_MM_read_31 (by decide) ?_
  refine lv_aload_n hx hb d_MM_read_32 rfl (lv_at hl 0 rfl) ?_
  refine va_get (D := D) (ci := 9) (v := .int 0) (C := "MailCharactersModel") (T := F_MM) (N := 23) hx hb hts i_MM hown hK hP 0 rfl rfl 8 (by decide) (hts _ k_881) (fun _ h9 => h9) rfl d_MM_read_33 ?_
  refine g_Vv (As := [.int 0, .int 0]) (rest := []) (wr := []) ⟨hx, hb, hml, hown, hts⟩ (c_MM_tapeToSrc_0 l D Z kI a0 x0_nameHead x0_nameTail x0_nameOf x0_windows x0_koi x0_ready x0_tape x0_text x0_out x0_src H.size) (cw_MM_tapeToSrc_0 hts k_1034 ⟨Nat.le_of_ble_eq_true rfl, Nat.le_of_ble_eq_true rfl⟩) hK hZ hP hD hS hA [0] [] (g_recv hK hP (ci := 9) (q0 := 0) rfl rfl) rfl rfl (by decide) (by decide) (by decide) rfl hl.1 rfl (Nat.le_of_ble_eq_true rfl) d_MM_read_36 ⟨Nat.zero_le _, Nat.zero_le _⟩ (fun u_2 H locs hw hP hD hS => ?_)
  have hP : va_P D vwCl [(a0, .inr (9, [.ref x0_nameHead, .ref x0_nameTail, .ref x0_nameOf, .ref x0_windows, .ref x0_koi, .int 0, .ref x0_ready, .ref x0_tape, .int 0, .ref x0_text, .int 0, .ref x0_out, .ref x0_src, .int 0, .int 0, .int 0, .int 0, .int 0, .int 0, .int 0, .int 0, .int 0, .int 0]))] H := hP
  have hD : va_D A [(a0, .inr (9, [.ref x0_nameHead, .ref x0_nameTail, .ref x0_nameOf, .ref x0_windows, .ref x0_koi, .int 0, .ref x0_ready, .ref x0_tape, .int 0, .ref x0_text, .int 0, .ref x0_out, .ref x0_src, .int 0, .int 0, .int 0, .int 0, .int 0, .int 0, .int 0, .int 0, .int 0, .int 0]))] := hD
  refine lv_aload_n hx hb d_MM_read_39 rfl (lv_at hl 0 rfl) ?_
  refine lv_iload_n hx hb d_MM_read_40 rfl (lv_at hl 1 rfl) ?_
  refine g_Vv (As := [.int 3]) (rest := []) (wr := []) ⟨hx, hb, hml, hown, hts⟩ (c_MM_readAll_3 l D Z kI a0 x0_nameHead x0_nameTail x0_nameOf x0_windows x0_koi x0_ready x0_tape x0_text x0_out x0_src H.size) (cw_MM_readAll_3 hts k_1038 ⟨Nat.le_of_ble_eq_true rfl, Nat.le_of_ble_eq_true rfl⟩) hK hZ hP hD hS hA [0] [] (g_recv hK hP (ci := 9) (q0 := 0) rfl rfl) rfl rfl (by decide) (by decide) (by decide) rfl hl.1 rfl (Nat.le_of_ble_eq_true rfl) d_MM_read_41 ⟨Nat.zero_le _, Nat.zero_le _⟩ (fun u_3 H locs hw hP hD hS => ?_)
  have hP : va_P D vwCl [(a0, .inr (9, [.ref x0_nameHead, .ref x0_nameTail, .ref x0_nameOf, .ref x0_windows, .ref x0_koi, .int 0, .ref x0_ready, .ref x0_tape, .int 0, .ref x0_text, .int 0, .ref x0_out, .ref x0_src, .int 0, .int 0, .int 0, .int 0, .int 0, .int 0, .int 0, .int 0, .int 0, .int 0]))] H := hP
  have hD : va_D A [(a0, .inr (9, [.ref x0_nameHead, .ref x0_nameTail, .ref x0_nameOf, .ref x0_windows, .ref x0_koi, .int 0, .ref x0_ready, .ref x0_tape, .int 0, .ref x0_text, .int 0, .ref x0_out, .ref x0_src, .int 0, .int 0, .int 0, .int 0, .int 0, .int 0, .int 0, .int 0, .int 0, .int 0]))] := hD
  refine lv_aload_n hx hb d_MM_read_44 rfl (lv_at hl 0 rfl) ?_
  refine lv_iconst (v := 0) hx hb d_MM_read_45 (by decide) ?_
  refine va_put (D := D) (ci := 9) (v := .int 0) (ty := .int) (C := "MailCharactersModel") (T := F_MM) (N := 23) hx hb hts i_MM t_MM t_MM_ok n_MM hown hK hP hD hS 0 rfl rfl 8 (by decide) (hts _ k_881) (fun _ h9 => h9) rfl (by decide +kernel) rfl rfl (Nat.le_of_ble_eq_true rfl) d_MM_read_46 (fun H locs hP hD hS => ?_)
  have hP : va_P D vwCl [(a0, .inr (9, [.ref x0_nameHead, .ref x0_nameTail, .ref x0_nameOf, .ref x0_windows, .ref x0_koi, .int 0, .ref x0_ready, .ref x0_tape, .int 0, .ref x0_text, .int 0, .ref x0_out, .ref x0_src, .int 0, .int 0, .int 0, .int 0, .int 0, .int 0, .int 0, .int 0, .int 0, .int 0]))] H := hP
  have hD : va_D A [(a0, .inr (9, [.ref x0_nameHead, .ref x0_nameTail, .ref x0_nameOf, .ref x0_windows, .ref x0_koi, .int 0, .ref x0_ready, .ref x0_tape, .int 0, .ref x0_text, .int 0, .ref x0_out, .ref x0_src, .int 0, .int 0, .int 0, .int 0, .int 0, .int 0, .int 0, .int 0, .int 0, .int 0]))] := hD
  refine lv_aload_n hx hb d_MM_read_49 rfl (lv_at hl 0 rfl) ?_
  refine va_get (D := D) (ci := 9) (v := .int 0) (C := "MailCharactersModel") (T := F_MM) (N := 23) hx hb hts i_MM hown hK hP 0 rfl rfl 10 (by decide) (hts _ k_883) (fun _ h9 => h9) rfl d_MM_read_50 ?_
  exact hret 0 () _ _ _ _ d_MM_read_53 rfl rfl hP hD hS
theorem cw_MM_read_3 {R : Room} {s : State} {args : Array Value} {own : String} {idx : Nat} (hts : ∀ w ∈ gW, w.before args s = true) (hl : Cond.methodLink own idx y_MM_read ∈ gW) (hR : rm_MM_read_3.frames + 1 ≤ R.frames ∧ 8 + (2 + 11) + rm_MM_read_3.locals ≤ R.locals) : CallW R s args own "MailCharactersModel" idx y_MM_read b_MM_read 2 (some .int) w_MM_read rm_MM_read_3 0 0 1 := cwV 1 hts (gW_V hl k_1028 k_1029 k_77 k_1030) rfl rfl rfl (by decide +kernel) hR
def rm_MM_isCharset_4 : Room := { frames := 0, cells := 0, slots := 0, locals := 0 }
set_option maxHeartbeats 4000000 in
set_option maxRecDepth 100000 in
theorem c_MM_isCharset_4 (l : Launch) (D : va_G) (Z : gZT) (kI : ClassId) (sz : Nat) : gMi l y_MM_isCharset w_MM_isCharset rm_MM_isCharset_4 D Z kI [.int 4] sz ([] : va_W) (fun (r : Int32) (_u : Unit) => r = 1) (fun (_u : Unit) => ([] : va_W)) := by
  refine g_ofi (cc := b_MM_isCharset) (maxL := 1) (ty := .boolean) (by decide) rfl (Nat.le_of_ble_eq_true rfl) ?_
  intro p e s m below meth c A Q H ls hx hb hml hown hts hA hK hZ hP hD hS hl hret
  have hown : s.vm.findClass "MailCharactersModel" = some m.cls := hown
  have hl : lv_has ls 1 [(0, .int 4)] := hl
  refine lv_iload_n hx hb d_MM_isCharset_0 rfl (lv_at hl 0 rfl) ?_
  refine lv_if_lt (tgt := 14) hx hb d_MM_isCharset_1 (by decide) (fun h9 => absurd h9 (by decide +kernel)) (fun _ => ?_)
  refine lv_iload_n hx hb d_MM_isCharset_4 rfl (lv_at hl 0 rfl) ?_
  refine lv_bipush (v := 9) hx hb d_MM_isCharset_5 (by decide) ?_
  refine lv_icmp_gt (tgt := 14) hx hb d_MM_isCharset_7 (by decide) (fun h9 => absurd h9 (by decide +kernel)) (fun _ => ?_)
  refine lv_iconst (v := 1) hx hb d_MM_isCharset_10 (by decide) ?_
  refine lv_goto (tgt := 15) hx hb d_MM_isCharset_11 (by decide) ?_
  exact hret 1 () _ _ _ _ d_MM_isCharset_15 rfl rfl hP hD hS
theorem cw_MM_isCharset_4 {R : Room} {s : State} {args : Array Value} {own : String} {idx : Nat} (hts : ∀ w ∈ gW, w.before args s = true) (hl : Cond.methodLink own idx y_MM_isCharset ∈ gW) (hR : rm_MM_isCharset_4.frames + 1 ≤ R.frames ∧ 8 + (1 + 11) + rm_MM_isCharset_4.locals ≤ R.locals) : CallB R s args own idx y_MM_isCharset b_MM_isCharset 1 (some .boolean) w_MM_isCharset rm_MM_isCharset_4 0 0 1 ∧ (Cond.static y_MM_isCharset).before args s = true := va_cwS 1 hts (gW_S hl k_1032 k_77 k_1033) rfl rfl rfl (by decide +kernel) hR
def rm_MM_readAll_4 : Room := { frames := 0, cells := 0, slots := 0, locals := 0 }
set_option maxHeartbeats 4000000 in
set_option maxRecDepth 100000 in
theorem c_MM_readAll_4 (l : Launch) (D : va_G) (Z : gZT) (kI : ClassId) (a0 : Nat) (x0_nameHead : Nat) (x0_nameTail : Nat) (x0_nameOf : Nat) (x0_windows : Nat) (x0_koi : Nat) (x0_ready : Nat) (x0_tape : Nat) (x0_text : Nat) (x0_out : Nat) (x0_src : Nat) (sz : Nat) : gMv l y_MM_readAll w_MM_readAll rm_MM_readAll_4 D Z kI [.ref a0, .int 4] sz [(a0, .inr (9, [.ref x0_nameHead, .ref x0_nameTail, .ref x0_nameOf, .ref x0_windows, .ref x0_koi, .int 0, .ref x0_ready, .ref x0_tape, .int 0, .ref x0_text, .int 0, .ref x0_out, .ref x0_src, .int 0, .int 0, .int 0, .int 0, .int 0, .int 0, .int 0, .int 0, .int 0, .int 0]))] (fun (_u : Unit) => True) (fun (_u : Unit) => ([(a0, .inr (9, [.ref x0_nameHead, .ref x0_nameTail, .ref x0_nameOf, .ref x0_windows, .ref x0_koi, .int 0, .ref x0_ready, .ref x0_tape, .int 0, .ref x0_text, .int 0, .ref x0_out, .ref x0_src, .int 0, .int 0, .int 0, .int 0, .int 0, .int 0, .int 0, .int 0, .int 0, .int 0]))] : va_W)) := by
  refine g_ofv (cc := b_MM_readAll) (maxL := 2) (by decide) rfl (Nat.le_of_ble_eq_true rfl) ?_
  intro p e s m below meth c A Q H ls hx hb hml hown hts hA hK hZ hP hD hS hl hret
  have hown : s.vm.findClass "MailCharactersModel" = some m.cls := hown
  have hl : lv_has ls 2 [(0, .ref a0), (1, .int 4)] := hl
  refine lv_aload_n hx hb d_MM_readAll_0 rfl (lv_at hl 0 rfl) ?_
  refine lv_iconst (v := 0) hx hb d_MM_readAll_1 (by decide) ?_
  refine va_put (D := D) (ci := 9) (v := .int 0) (ty := .int) (C := "MailCharactersModel") (T := F_MM) (N := 23) hx hb hts i_MM t_MM t_MM_ok n_MM hown hK hP hD hS 0 rfl rfl 15 (by decide) (hts _ k_888) (fun _ h9 => h9) rfl (by decide +kernel) rfl rfl (Nat.le_of_ble_eq_true rfl) d_MM_readAll_2 (fun H locs hP hD hS => ?_)
  have hP : va_P D vwCl [(a0, .inr (9, [.ref x0_nameHead, .ref x0_nameTail, .ref x0_nameOf, .ref x0_windows, .ref x0_koi, .int 0, .ref x0_ready, .ref x0_tape, .int 0, .ref x0_text, .int 0, .ref x0_out, .ref x0_src, .int 0, .int 0, .int 0, .int 0, .int 0, .int 0, .int 0, .int 0, .int 0, .int 0]))] H := hP
  have hD : va_D A [(a0, .inr (9, [.ref x0_nameHead, .ref x0_nameTail, .ref x0_nameOf, .ref x0_windows, .ref x0_koi, .int 0, .ref x0_ready, .ref x0_tape, .int 0, .ref x0_text, .int 0, .ref x0_out, .ref x0_src, .int 0, .int 0, .int 0, .int 0, .int 0, .int 0, .int 0, .int 0, .int 0, .int 0]))] := hD
  refine lv_iload_n hx hb d_MM_readAll_5 rfl (lv_at hl 1 rfl) ?_
  refine lv_iconst (v := 5) hx hb d_MM_readAll_6 (by decide) ?_
  refine lv_icmp_ne (tgt := 17) hx hb d_MM_readAll_7 (by decide) (fun _ => ?_) (fun h9 => absurd h9 (by decide +kernel))
  refine lv_iload_n hx hb d_MM_readAll_17 rfl (lv_at hl 1 rfl) ?_
  refine lv_bipush (v := 6) hx hb d_MM_readAll_18 (by decide) ?_
  refine lv_icmp_eq (tgt := 29) hx hb d_MM_readAll_20 (by decide) (fun h9 => absurd h9 (by decide +kernel)) (fun _ => ?_)
  refine lv_iload_n hx hb d_MM_readAll_23 rfl (lv_at hl 1 rfl) ?_
  refine lv_bipush (v := 7) hx hb d_MM_readAll_24 (by decide) ?_
  refine lv_icmp_ne (tgt := 44) hx hb d_MM_readAll_26 (by decide) (fun _ => ?_) (fun h9 => absurd h9 (by decide +kernel))
  refine lv_aload_n hx hb d_MM_readAll_44 rfl (lv_at hl 0 rfl) ?_
  refine va_get (D := D) (ci := 9) (v := .int 0) (C := "MailCharactersModel") (T := F_MM) (N := 23) hx hb hts i_MM hown hK hP 0 rfl rfl 15 (by decide) (hts _ k_888) (fun _ h9 => h9) rfl d_MM_readAll_45 ?_
  refine lv_aload_n hx hb d_MM_readAll_48 rfl (lv_at hl 0 rfl) ?_
  refine va_get (D := D) (ci := 9) (v := .int 0) (C := "MailCharactersModel") (T := F_MM) (N := 23) hx hb hts i_MM hown hK hP 0 rfl rfl 14 (by decide) (hts _ k_887) (fun _ h9 => h9) rfl d_MM_readAll_49 ?_
  refine lv_icmp_ge (tgt := 110) hx hb d_MM_readAll_52 (by decide) (fun _ => ?_) (fun h9 => absurd h9 (by decide +kernel))
  exact hret () _ _ _ _ d_MM_readAll_110 trivial hP hD hS
theorem cw_MM_readAll_4 {R : Room} {s : State} {args : Array Value} {own : String} {idx : Nat} (hts : ∀ w ∈ gW, w.before args s = true) (hl : Cond.methodLink own idx y_MM_readAll ∈ gW) (hR : rm_MM_readAll_4.frames + 1 ≤ R.frames ∧ 8 + (2 + 11) + rm_MM_readAll_4.locals ≤ R.locals) : CallW R s args own "MailCharactersModel" idx y_MM_readAll b_MM_readAll 2 none w_MM_readAll rm_MM_readAll_4 0 0 1 := cwV 1 hts (gW_V hl k_1040 k_39 k_77 k_1041) rfl rfl rfl (by decide +kernel) hR
def rm_MM_read_4 : Room := { frames := 1, cells := 0, slots := 0, locals := 23 }
set_option maxHeartbeats 4000000 in
set_option maxRecDepth 100000 in
theorem c_MM_read_4 (l : Launch) (D : va_G) (Z : gZT) (kI : ClassId) (a0 : Nat) (x0_nameHead : Nat) (x0_nameTail : Nat) (x0_nameOf : Nat) (x0_windows : Nat) (x0_koi : Nat) (x0_ready : Nat) (x0_tape : Nat) (x0_text : Nat) (x0_out : Nat) (x0_src : Nat) (sz : Nat) : gMi l y_MM_read w_MM_read rm_MM_read_4 D Z kI [.ref a0, .int 4] sz [(a0, .inr (9, [.ref x0_nameHead, .ref x0_nameTail, .ref x0_nameOf, .ref x0_windows, .ref x0_koi, .int 0, .ref x0_ready, .ref x0_tape, .int 0, .ref x0_text, .int 0, .ref x0_out, .ref x0_src, .int 0, .int 0, .int 0, .int 0, .int 0, .int 0, .int 0, .int 0, .int 0, .int 0]))] (fun (r : Int32) (_u : Unit) => r = 0) (fun (_u : Unit) => ([(a0, .inr (9, [.ref x0_nameHead, .ref x0_nameTail, .ref x0_nameOf, .ref x0_windows, .ref x0_koi, .int 0, .ref x0_ready, .ref x0_tape, .int 0, .ref x0_text, .int 0, .ref x0_out, .ref x0_src, .int 0, .int 0, .int 0, .int 0, .int 0, .int 0, .int 0, .int 0, .int 0, .int 0]))] : va_W)) := by
  refine g_ofi (cc := b_MM_read) (maxL := 2) (ty := .int) (by decide) rfl (Nat.le_of_ble_eq_true rfl) ?_
  intro p e s m below meth c A Q H ls hx hb hml hown hts hA hK hZ hP hD hS hl hret
  have hown : s.vm.findClass "MailCharactersModel" = some m.cls := hown
  have hl : lv_has ls 2 [(0, .ref a0), (1, .int 4)] := hl
  refine lv_aload_n hx hb d_MM_read_0 rfl (lv_at hl 0 rfl) ?_
  refine lv_iload_n hx hb d_MM_read_1 rfl (lv_at hl 1 rfl) ?_
  refine g_Si (As := [.int 4]) (rest := [.ref a0]) (wr := [(a0, .inr (9, [.ref x0_nameHead, .ref x0_nameTail, .ref x0_nameOf, .ref x0_windows, .ref x0_koi, .int 0, .ref x0_ready, .ref x0_tape, .int 0, .ref x0_text, .int 0, .ref x0_out, .ref x0_src, .int 0, .int 0, .int 0, .int 0, .int 0, .int 0, .int 0, .int 0, .int 0, .int 0]))]) ⟨hx, hb, hml, hown, hts⟩ (c_MM_isCharset_4 l D Z kI H.size) (cw_MM_isCharset_4 hts k_1031 ⟨Nat.le_of_ble_eq_true rfl, Nat.le_of_ble_eq_true rfl⟩) hK hZ hP hD hS hA [] [0] rfl rfl (by decide) (by decide) (by decide) rfl hl.1 rfl (Nat.le_of_ble_eq_true rfl) d_MM_read_2 ⟨Nat.zero_le _, Nat.zero_le _⟩ (fun r_1 u_1 H locs hw hP hD hS => ?_)
  obtain rfl : r_1 = 1 := hw
  have hP : va_P D vwCl [(a0, .inr (9, [.ref x0_nameHead, .ref x0_nameTail, .ref x0_nameOf, .ref x0_windows, .ref x0_koi, .int 0, .ref x0_ready, .ref x0_tape, .int 0, .ref x0_text, .int 0, .ref x0_out, .ref x0_src, .int 0, .int 0, .int 0, .int 0, .int 0, .int 0, .int 0, .int 0, .int 0, .int 0]))] H := hP
  have hD : va_D A [(a0, .inr (9, [.ref x0_nameHead, .ref x0_nameTail, .ref x0_nameOf, .ref x0_windows, .ref x0_koi, .int 0, .ref x0_ready, .ref x0_tape, .int 0, .ref x0_text, .int 0, .ref x0_out, .ref x0_src, .int 0, .int 0, .int 0, .int 0, .int 0, .int 0, .int 0, .int 0, .int 0, .int 0]))] := hD
  refine lv_if_eq (tgt := 12) hx hb d_MM_read_5 (by decide) (fun h9 => absurd h9 (by decide +kernel)) (fun _ => ?_)
  refine lv_iconst (v := 0) hx hb d_MM_read_8 (by decide) ?_
  refine lv_goto (tgt := 13) hx hb d_MM_read_9 (by decide) ?_
  refine va_put (D := D) (ci := 9) (v := .int 0) (ty := .int) (C := "MailCharactersModel") (T := F_MM) (N := 23) hx hb hts i_MM t_MM t_MM_ok n_MM hown hK hP hD hS 0 rfl rfl 5 (by decide) (hts _ k_878) (fun _ h9 => h9) rfl (by decide +kernel) rfl rfl (Nat.le_of_ble_eq_true rfl) d_MM_read_13 (fun H locs hP hD hS => ?_)
  have hP : va_P D vwCl [(a0, .inr (9, [.ref x0_nameHead, .ref x0_nameTail, .ref x0_nameOf, .ref x0_windows, .ref x0_koi, .int 0, .ref x0_ready, .ref x0_tape, .int 0, .ref x0_text, .int 0, .ref x0_out, .ref x0_src, .int 0, .int 0, .int 0, .int 0, .int 0, .int 0, .int 0, .int 0, .int 0, .int 0]))] H := hP
  have hD : va_D A [(a0, .inr (9, [.ref x0_nameHead, .ref x0_nameTail, .ref x0_nameOf, .ref x0_windows, .ref x0_koi, .int 0, .ref x0_ready, .ref x0_tape, .int 0, .ref x0_text, .int 0, .ref x0_out, .ref x0_src, .int 0, .int 0, .int 0, .int 0, .int 0, .int 0, .int 0, .int 0, .int 0, .int 0]))] := hD
  refine lv_aload_n hx hb d_MM_read_16 rfl (lv_at hl 0 rfl) ?_
  refine va_get (D := D) (ci := 9) (v := .int 0) (C := "MailCharactersModel") (T := F_MM) (N := 23) hx hb hts i_MM hown hK hP 0 rfl rfl 5 (by decide) (hts _ k_878) (fun _ h9 => h9) rfl d_MM_read_17 ?_
  refine lv_if_le (tgt := 25) hx hb d_MM_read_20 (by decide) (fun _ => ?_) (fun h9 => absurd h9 (by decide +kernel))
  refine lv_aload_n hx hb d_MM_read_25 rfl (lv_at hl 0 rfl) ?_
  refine lv_iconst (v := 0) hx hb d_MM_read_26 (by decide) ?_
  refine va_put (D := D) (ci := 9) (v := .int 0) (ty := .int) (C := "MailCharactersModel") (T := F_MM) (N := 23) hx hb hts i_MM t_MM t_MM_ok n_MM hown hK hP hD hS 0 rfl rfl 10 (by decide) (hts _ k_883) (fun _ h9 => h9) rfl (by decide +kernel) rfl rfl (Nat.le_of_ble_eq_true rfl) d_MM_read_27 (fun H locs hP hD hS => ?_)
  have hP : va_P D vwCl [(a0, .inr (9, [.ref x0_nameHead, .ref x0_nameTail, .ref x0_nameOf, .ref x0_windows, .ref x0_koi, .int 0, .ref x0_ready, .ref x0_tape, .int 0, .ref x0_text, .int 0, .ref x0_out, .ref x0_src, .int 0, .int 0, .int 0, .int 0, .int 0, .int 0, .int 0, .int 0, .int 0, .int 0]))] H := hP
  have hD : va_D A [(a0, .inr (9, [.ref x0_nameHead, .ref x0_nameTail, .ref x0_nameOf, .ref x0_windows, .ref x0_koi, .int 0, .ref x0_ready, .ref x0_tape, .int 0, .ref x0_text, .int 0, .ref x0_out, .ref x0_src, .int 0, .int 0, .int 0, .int 0, .int 0, .int 0, .int 0, .int 0, .int 0, .int 0]))] := hD
  refine lv_aload_n hx hb d_MM_read_30 rfl (lv_at hl 0 rfl) ?_
  refine lv_iconst (v := 0) hx hb d_MM_read_31 (by decide) ?_
  refine lv_aload_n hx hb d_MM_read_32 rfl (lv_at hl 0 rfl) ?_
  refine va_get (D := D) (ci := 9) (v := .int 0) (C := "MailCharactersModel") (T := F_MM) (N := 23) hx hb hts i_MM hown hK hP 0 rfl rfl 8 (by decide) (hts _ k_881) (fun _ h9 => h9) rfl d_MM_read_33 ?_
  refine g_Vv (As := [.int 0, .int 0]) (rest := []) (wr := []) ⟨hx, hb, hml, hown, hts⟩ (c_MM_tapeToSrc_0 l D Z kI a0 x0_nameHead x0_nameTail x0_nameOf x0_windows x0_koi x0_ready x0_tape x0_text x0_out x0_src H.size) (cw_MM_tapeToSrc_0 hts k_1034 ⟨Nat.le_of_ble_eq_true rfl, Nat.le_of_ble_eq_true rfl⟩) hK hZ hP hD hS hA [0] [] (g_recv hK hP (ci := 9) (q0 := 0) rfl rfl) rfl rfl (by decide) (by decide) (by decide) rfl hl.1 rfl (Nat.le_of_ble_eq_true rfl) d_MM_read_36 ⟨Nat.zero_le _, Nat.zero_le _⟩ (fun u_2 H locs hw hP hD hS => ?_)
  have hP : va_P D vwCl [(a0, .inr (9, [.ref x0_nameHead, .ref x0_nameTail, .ref x0_nameOf, .ref x0_windows, .ref x0_koi, .int 0, .ref x0_ready, .ref x0_tape, .int 0, .ref x0_text, .int 0, .ref x0_out, .ref x0_src, .int 0, .int 0, .int 0, .int 0, .int 0, .int 0, .int 0, .int 0, .int 0, .int 0]))] H := hP
  have hD : va_D A [(a0, .inr (9, [.ref x0_nameHead, .ref x0_nameTail, .ref x0_nameOf, .ref x0_windows, .ref x0_koi, .int 0, .ref x0_ready, .ref x0_tape, .int 0, .ref x0_text, .int 0, .ref x0_out, .ref x0_src, .int 0, .int 0, .int 0, .int 0, .int 0, .int 0, .int 0, .int 0, .int 0, .int 0]))] := hD
  refine lv_aload_n hx hb d_MM_read_39 rfl (lv_at hl 0 rfl) ?_
  refine lv_iload_n hx hb d_MM_read_40 rfl (lv_at hl 1 rfl) ?_
  refine g_Vv (As := [.int 4]) (rest := []) (wr := []) ⟨hx, hb, hml, hown, hts⟩ (c_MM_readAll_4 l D Z kI a0 x0_nameHead x0_nameTail x0_nameOf x0_windows x0_koi x0_ready x0_tape x0_text x0_out x0_src H.size) (cw_MM_readAll_4 hts k_1038 ⟨Nat.le_of_ble_eq_true rfl, Nat.le_of_ble_eq_true rfl⟩) hK hZ hP hD hS hA [0] [] (g_recv hK hP (ci := 9) (q0 := 0) rfl rfl) rfl rfl (by decide) (by decide) (by decide) rfl hl.1 rfl (Nat.le_of_ble_eq_true rfl) d_MM_read_41 ⟨Nat.zero_le _, Nat.zero_le _⟩ (fun u_3 H locs hw hP hD hS => ?_)
  have hP : va_P D vwCl [(a0, .inr (9, [.ref x0_nameHead, .ref x0_nameTail, .ref x0_nameOf, .ref x0_windows, .ref x0_koi, .int 0, .ref x0_ready, .ref x0_tape, .int 0, .ref x0_text, .int 0, .ref x0_out, .ref x0_src, .int 0, .int 0, .int 0, .int 0, .int 0, .int 0, .int 0, .int 0, .int 0, .int 0]))] H := hP
  have hD : va_D A [(a0, .inr (9, [.ref x0_nameHead, .ref x0_nameTail, .ref x0_nameOf, .ref x0_windows, .ref x0_koi, .int 0, .ref x0_ready, .ref x0_tape, .int 0, .ref x0_text, .int 0, .ref x0_out, .ref x0_src, .int 0, .int 0, .int 0, .int 0, .int 0, .int 0, .int 0, .int 0, .int 0, .int 0]))] := hD
  refine lv_aload_n hx hb d_MM_read_44 rfl (lv_at hl 0 rfl) ?_
  refine lv_iconst (v := 0) hx hb d_MM_read_45 (by decide) ?_
  refine va_put (D := D) (ci := 9) (v := .int 0) (ty := .int) (C := "MailCharactersModel") (T := F_MM) (N := 23) hx hb hts i_MM t_MM t_MM_ok n_MM hown hK hP hD hS 0 rfl rfl 8 (by decide) (hts _ k_881) (fun _ h9 => h9) rfl (by decide +kernel) rfl rfl (Nat.le_of_ble_eq_true rfl) d_MM_read_46 (fun H locs hP hD hS => ?_)
  have hP : va_P D vwCl [(a0, .inr (9, [.ref x0_nameHead, .ref x0_nameTail, .ref x0_nameOf, .ref x0_windows, .ref x0_koi, .int 0, .ref x0_ready, .ref x0_tape, .int 0, .ref x0_text, .int 0, .ref x0_out, .ref x0_src, .int 0, .int 0, .int 0, .int 0, .int 0, .int 0, .int 0, .int 0, .int 0, .int 0]))] H := hP
  have hD : va_D A [(a0, .inr (9, [.ref x0_nameHead, .ref x0_nameTail, .ref x0_nameOf, .ref x0_windows, .ref x0_koi, .int 0, .ref x0_ready, .ref x0_tape, .int 0, .ref x0_text, .int 0, .ref x0_out, .ref x0_src, .int 0, .int 0, .int 0, .int 0, .int 0, .int 0, .int 0, .int 0, .int 0, .int 0]))] := hD
  refine lv_aload_n hx hb d_MM_read_49 rfl (lv_at hl 0 rfl) ?_
  refine va_get (D := D) (ci := 9) (v := .int 0) (C := "MailCharactersModel") (T := F_MM) (N := 23) hx hb hts i_MM hown hK hP 0 rfl rfl 10 (by decide) (hts _ k_883) (fun _ h9 => h9) rfl d_MM_read_50 ?_
  exact hret 0 () _ _ _ _ d_MM_read_53 rfl rfl hP hD hS
theorem cw_MM_read_4 {R : Room} {s : State} {args : Array Value} {own : String} {idx : Nat} (hts : ∀ w ∈ gW, w.before args s = true) (hl : Cond.methodLink own idx y_MM_read ∈ gW) (hR : rm_MM_read_4.frames + 1 ≤ R.frames ∧ 8 + (2 + 11) + rm_MM_read_4.locals ≤ R.locals) : CallW R s args own "MailCharactersModel" idx y_MM_read b_MM_read 2 (some .int) w_MM_read rm_MM_read_4 0 0 1 := cwV 1 hts (gW_V hl k_1028 k_1029 k_77 k_1030) rfl rfl rfl (by decide +kernel) hR
