def rm_MM_write_9 : Room := { frames := 1, cells := 0, slots := 0, locals := 21 }
set_option maxHeartbeats 4000000 in
set_option maxRecDepth 100000 in
theorem c_MM_write_9 (l : Launch) (D : va_G) (Z : gZT) (kI : ClassId) (a0 : Nat) (x0_nameHead : Nat) (x0_nameTail : Nat) (x0_nameOf : Nat) (x0_windows : Nat) (x0_koi : Nat) (x0_ready : Nat) (x0_tape : Nat) (x0_text : Nat) (x0_out : Nat) (x0_src : Nat) (sz : Nat) : gMi l y_MM_write w_MM_write rm_MM_write_9 D Z kI [.ref a0, .int 9] sz [(a0, .inr (9, [.ref x0_nameHead, .ref x0_nameTail, .ref x0_nameOf, .ref x0_windows, .ref x0_koi, .int 0, .ref x0_ready, .ref x0_tape, .int 0, .ref x0_text, .int 0, .ref x0_out, .ref x0_src, .int 0, .int 0, .int 0, .int 0, .int 0, .int 0, .int 0, .int 0, .int 0, .int 0]))] (fun (r : Int32) (_u : Unit) => r = 0) (fun (_u : Unit) => ([(a0, .inr (9, [.ref x0_nameHead, .ref x0_nameTail, .ref x0_nameOf, .ref x0_windows, .ref x0_koi, .int 0, .ref x0_ready, .ref x0_tape, .int 0, .ref x0_text, .int 0, .ref x0_out, .ref x0_src, .int 0, .int 0, .int 0, .int 0, .int 0, .int 0, .int 0, .int 0, .int 0, .int 0]))] : va_W)) := by
  refine g_ofi (cc := b_MM_write) (maxL := 4) (ty := .int) (by decide) rfl (Nat.le_of_ble_eq_true rfl) ?_
  intro p e s m below meth c A Q H ls hx hb hml hown hts hA hK hZ hP hD hS hl hret
  have hown : s.vm.findClass "MailCharactersModel" = some m.cls := hown
  have hl : lv_has ls 4 [(0, .ref a0), (1, .int 9)] := hl
  refine lv_aload_n hx hb d_MM_write_0 rfl (lv_at hl 0 rfl) ?_
  refine lv_iload_n hx hb d_MM_write_1 rfl (lv_at hl 1 rfl) ?_
  refine g_Si (As := [.int 9]) (rest := [.ref a0]) (wr := [(a0, .inr (9, [.ref x0_nameHead, .ref x0_nameTail, .ref x0_nameOf, .ref x0_windows, .ref x0_koi, .int 0, .ref x0_ready, .ref x0_tape, .int 0, .ref x0_text, .int 0, .ref x0_out, .ref x0_src, .int 0, .int 0, .int 0, .int 0, .int 0, .int 0, .int 0, .int 0, .int 0, .int 0]))]) ⟨hx, hb, hml, hown, hts⟩ (c_MM_isCharset_9 l D Z kI H.size) (cw_MM_isCharset_9 hts k_1031 ⟨Nat.le_of_ble_eq_true rfl, Nat.le_of_ble_eq_true rfl⟩) hK hZ hP hD hS hA [] [0] rfl rfl (by decide) (by decide) (by decide) rfl hl.1 rfl (Nat.le_of_ble_eq_true rfl) d_MM_write_2 ⟨Nat.zero_le _, Nat.zero_le _⟩ (fun r_1 u_1 H locs hw hP hD hS => ?_)
  obtain rfl : r_1 = 1 := hw
  have hP : va_P D vwCl [(a0, .inr (9, [.ref x0_nameHead, .ref x0_nameTail, .ref x0_nameOf, .ref x0_windows, .ref x0_koi, .int 0, .ref x0_ready, .ref x0_tape, .int 0, .ref x0_text, .int 0, .ref x0_out, .ref x0_src, .int 0, .int 0, .int 0, .int 0, .int 0, .int 0, .int 0, .int 0, .int 0, .int 0]))] H := hP
  have hD : va_D A [(a0, .inr (9, [.ref x0_nameHead, .ref x0_nameTail, .ref x0_nameOf, .ref x0_windows, .ref x0_koi, .int 0, .ref x0_ready, .ref x0_tape, .int 0, .ref x0_text, .int 0, .ref x0_out, .ref x0_src, .int 0, .int 0, .int 0, .int 0, .int 0, .int 0, .int 0, .int 0, .int 0, .int 0]))] := hD
  refine lv_if_eq (tgt := 12) hx hb d_MM_write_5 (by decide) (fun h9 => absurd h9 (by decide +kernel)) (fun _ => ?_)
  refine lv_iconst (v := 0) hx hb d_MM_write_8 (by decide) ?_
  refine lv_goto (tgt := 13) hx hb d_MM_write_9 (by decide) ?_
  refine va_put (D := D) (ci := 9) (v := .int 0) (ty := .int) (C := "MailCharactersModel") (T := F_MM) (N := 23) hx hb hts i_MM t_MM t_MM_ok n_MM hown hK hP hD hS 0 rfl rfl 5 (by decide) (hts _ k_878) (fun _ h9 => h9) rfl (by decide +kernel) rfl rfl (Nat.le_of_ble_eq_true rfl) d_MM_write_13 (fun H locs hP hD hS => ?_)
  have hP : va_P D vwCl [(a0, .inr (9, [.ref x0_nameHead, .ref x0_nameTail, .ref x0_nameOf, .ref x0_windows, .ref x0_koi, .int 0, .ref x0_ready, .ref x0_tape, .int 0, .ref x0_text, .int 0, .ref x0_out, .ref x0_src, .int 0, .int 0, .int 0, .int 0, .int 0, .int 0, .int 0, .int 0, .int 0, .int 0]))] H := hP
  have hD : va_D A [(a0, .inr (9, [.ref x0_nameHead, .ref x0_nameTail, .ref x0_nameOf, .ref x0_windows, .ref x0_koi, .int 0, .ref x0_ready, .ref x0_tape, .int 0, .ref x0_text, .int 0, .ref x0_out, .ref x0_src, .int 0, .int 0, .int 0, .int 0, .int 0, .int 0, .int 0, .int 0, .int 0, .int 0]))] := hD
  refine lv_aload_n hx hb d_MM_write_16 rfl (lv_at hl 0 rfl) ?_
  refine va_get (D := D) (ci := 9) (v := .int 0) (C := "MailCharactersModel") (T := F_MM) (N := 23) hx hb hts i_MM hown hK hP 0 rfl rfl 5 (by decide) (hts _ k_878) (fun _ h9 => h9) rfl d_MM_write_17 ?_
  refine lv_if_le (tgt := 25) hx hb d_MM_write_20 (by decide) (fun _ => ?_) (fun h9 => absurd h9 (by decide +kernel))
  refine lv_aload_n hx hb d_MM_write_25 rfl (lv_at hl 0 rfl) ?_
  refine lv_iconst (v := 0) hx hb d_MM_write_26 (by decide) ?_
  refine va_put (D := D) (ci := 9) (v := .int 0) (ty := .int) (C := "MailCharactersModel") (T := F_MM) (N := 23) hx hb hts i_MM t_MM t_MM_ok n_MM hown hK hP hD hS 0 rfl rfl 13 (by decide) (hts _ k_886) (fun _ h9 => h9) rfl (by decide +kernel) rfl rfl (Nat.le_of_ble_eq_true rfl) d_MM_write_27 (fun H locs hP hD hS => ?_)
  have hP : va_P D vwCl [(a0, .inr (9, [.ref x0_nameHead, .ref x0_nameTail, .ref x0_nameOf, .ref x0_windows, .ref x0_koi, .int 0, .ref x0_ready, .ref x0_tape, .int 0, .ref x0_text, .int 0, .ref x0_out, .ref x0_src, .int 0, .int 0, .int 0, .int 0, .int 0, .int 0, .int 0, .int 0, .int 0, .int 0]))] H := hP
  have hD : va_D A [(a0, .inr (9, [.ref x0_nameHead, .ref x0_nameTail, .ref x0_nameOf, .ref x0_windows, .ref x0_koi, .int 0, .ref x0_ready, .ref x0_tape, .int 0, .ref x0_text, .int 0, .ref x0_out, .ref x0_src, .int 0, .int 0, .int 0, .int 0, .int 0, .int 0, .int 0, .int 0, .int 0, .int 0]))] := hD
  refine lv_iload_n hx hb d_MM_write_30 rfl (lv_at hl 1 rfl) ?_
  refine lv_iconst (v := 5) hx hb d_MM_write_31 (by decide) ?_
  refine lv_icmp_ne (tgt := 49) hx hb d_MM_write_32 (by decide) (fun _ => ?_) (fun h9 => absurd h9 (by decide +kernel))
  refine lv_iconst (v := 0) hx hb d_MM_write_49 (by decide) ?_
  refine lv_istore_n (lv' := [(2, .int 0), (0, .ref a0), (1, .int 9)]) hx hb d_MM_write_50 rfl hl (by decide) rfl (fun ls hl => ?_)
  refine lv_iload_n hx hb d_MM_write_51 rfl (lv_at hl 0 rfl) ?_
  refine lv_aload_n hx hb d_MM_write_52 rfl (lv_at hl 1 rfl) ?_
  refine va_get (D := D) (ci := 9) (v := .int 0) (C := "MailCharactersModel") (T := F_MM) (N := 23) hx hb hts i_MM hown hK hP 0 rfl rfl 10 (by decide) (hts _ k_883) (fun _ h9 => h9) rfl d_MM_write_53 ?_
  refine lv_icmp_ge (tgt := 94) hx hb d_MM_write_56 (by decide) (fun _ => ?_) (fun h9 => absurd h9 (by decide +kernel))
  refine lv_aload_n hx hb d_MM_write_94 rfl (lv_at hl 1 rfl) ?_
  refine g_Vv (As := []) (rest := []) (wr := []) ⟨hx, hb, hml, hown, hts⟩ (c_MM_outToTape_0 l D Z kI a0 x0_nameHead x0_nameTail x0_nameOf x0_windows x0_koi x0_ready x0_tape x0_text x0_out x0_src H.size) (cw_MM_outToTape_0 hts k_1023 ⟨Nat.le_of_ble_eq_true rfl, Nat.le_of_ble_eq_true rfl⟩) hK hZ hP hD hS hA [0] [] (g_recv hK hP (ci := 9) (q0 := 0) rfl rfl) rfl rfl (by decide) (by decide) (by decide) rfl hl.1 rfl (Nat.le_of_ble_eq_true rfl) d_MM_write_95 ⟨Nat.zero_le _, Nat.zero_le _⟩ (fun u_2 H locs hw hP hD hS => ?_)
  have hP : va_P D vwCl [(a0, .inr (9, [.ref x0_nameHead, .ref x0_nameTail, .ref x0_nameOf, .ref x0_windows, .ref x0_koi, .int 0, .ref x0_ready, .ref x0_tape, .int 0, .ref x0_text, .int 0, .ref x0_out, .ref x0_src, .int 0, .int 0, .int 0, .int 0, .int 0, .int 0, .int 0, .int 0, .int 0, .int 0]))] H := hP
  have hD : va_D A [(a0, .inr (9, [.ref x0_nameHead, .ref x0_nameTail, .ref x0_nameOf, .ref x0_windows, .ref x0_koi, .int 0, .ref x0_ready, .ref x0_tape, .int 0, .ref x0_text, .int 0, .ref x0_out, .ref x0_src, .int 0, .int 0, .int 0, .int 0, .int 0, .int 0, .int 0, .int 0, .int 0, .int 0]))] := hD
  refine lv_aload_n hx hb d_MM_write_98 rfl (lv_at hl 1 rfl) ?_
  refine va_get (D := D) (ci := 9) (v := .int 0) (C := "MailCharactersModel") (T := F_MM) (N := 23) hx hb hts i_MM hown hK hP 0 rfl rfl 8 (by decide) (hts _ k_881) (fun _ h9 => h9) rfl d_MM_write_99 ?_
  exact hret 0 () _ _ _ _ d_MM_write_102 rfl rfl hP hD hS
theorem cw_MM_write_9 {R : Room} {s : State} {args : Array Value} {own : String} {idx : Nat} (hts : ∀ w ∈ gW, w.before args s = true) (hl : Cond.methodLink own idx y_MM_write ∈ gW) (hR : rm_MM_write_9.frames + 1 ≤ R.frames ∧ 8 + (4 + 11) + rm_MM_write_9.locals ≤ R.locals) : CallW R s args own "MailCharactersModel" idx y_MM_write b_MM_write 4 (some .int) w_MM_write rm_MM_write_9 0 0 1 := cwV 1 hts (gW_V hl k_1121 k_1122 k_77 k_1123) rfl rfl rfl (by decide +kernel) hR
def rm_MM_write_10 : Room := { frames := 1, cells := 0, slots := 0, locals := 20 }
set_option maxHeartbeats 4000000 in
set_option maxRecDepth 100000 in
theorem c_MM_write_10 (l : Launch) (D : va_G) (Z : gZT) (kI : ClassId) (a0 : Nat) (x0_nameHead : Nat) (x0_nameTail : Nat) (x0_nameOf : Nat) (x0_windows : Nat) (x0_koi : Nat) (x0_ready : Nat) (x0_tape : Nat) (x0_text : Nat) (x0_out : Nat) (x0_src : Nat) (sz : Nat) (p1 : Int32) (hpre0 : p1 < 0) : gMi l y_MM_write w_MM_write rm_MM_write_10 D Z kI [.ref a0, .int p1] sz [(a0, .inr (9, [.ref x0_nameHead, .ref x0_nameTail, .ref x0_nameOf, .ref x0_windows, .ref x0_koi, .int 0, .ref x0_ready, .ref x0_tape, .int 0, .ref x0_text, .int 0, .ref x0_out, .ref x0_src, .int 0, .int 0, .int 0, .int 0, .int 0, .int 0, .int 0, .int 0, .int 0, .int 0]))] (fun (r : Int32) (_u : Unit) => r = 0) (fun (_u : Unit) => ([(a0, .inr (9, [.ref x0_nameHead, .ref x0_nameTail, .ref x0_nameOf, .ref x0_windows, .ref x0_koi, .int 1, .ref x0_ready, .ref x0_tape, .int 0, .ref x0_text, .int 0, .ref x0_out, .ref x0_src, .int 0, .int 0, .int 0, .int 0, .int 0, .int 0, .int 0, .int 0, .int 0, .int 0]))] : va_W)) := by
  refine g_ofi (cc := b_MM_write) (maxL := 4) (ty := .int) (by decide) rfl (Nat.le_of_ble_eq_true rfl) ?_
  intro p e s m below meth c A Q H ls hx hb hml hown hts hA hK hZ hP hD hS hl hret
  have hown : s.vm.findClass "MailCharactersModel" = some m.cls := hown
  have hl : lv_has ls 4 [(0, .ref a0), (1, .int p1)] := hl
  refine lv_aload_n hx hb d_MM_write_0 rfl (lv_at hl 0 rfl) ?_
  refine lv_iload_n hx hb d_MM_write_1 rfl (lv_at hl 1 rfl) ?_
  refine g_Si (As := [.int p1]) (rest := [.ref a0]) (wr := [(a0, .inr (9, [.ref x0_nameHead, .ref x0_nameTail, .ref x0_nameOf, .ref x0_windows, .ref x0_koi, .int 0, .ref x0_ready, .ref x0_tape, .int 0, .ref x0_text, .int 0, .ref x0_out, .ref x0_src, .int 0, .int 0, .int 0, .int 0, .int 0, .int 0, .int 0, .int 0, .int 0, .int 0]))]) ⟨hx, hb, hml, hown, hts⟩ (c_MM_isCharset_10 l D Z kI H.size p1 hpre0) (cw_MM_isCharset_10 hts k_1031 ⟨Nat.le_of_ble_eq_true rfl, Nat.le_of_ble_eq_true rfl⟩) hK hZ hP hD hS hA [] [0] rfl rfl (by decide) (by decide) (by decide) rfl hl.1 rfl (Nat.le_of_ble_eq_true rfl) d_MM_write_2 ⟨Nat.zero_le _, Nat.zero_le _⟩ (fun r_1 u_1 H locs hw hP hD hS => ?_)
  obtain rfl : r_1 = 0 := hw
  have hP : va_P D vwCl [(a0, .inr (9, [.ref x0_nameHead, .ref x0_nameTail, .ref x0_nameOf, .ref x0_windows, .ref x0_koi, .int 0, .ref x0_ready, .ref x0_tape, .int 0, .ref x0_text, .int 0, .ref x0_out, .ref x0_src, .int 0, .int 0, .int 0, .int 0, .int 0, .int 0, .int 0, .int 0, .int 0, .int 0]))] H := hP
  have hD : va_D A [(a0, .inr (9, [.ref x0_nameHead, .ref x0_nameTail, .ref x0_nameOf, .ref x0_windows, .ref x0_koi, .int 0, .ref x0_ready, .ref x0_tape, .int 0, .ref x0_text, .int 0, .ref x0_out, .ref x0_src, .int 0, .int 0, .int 0, .int 0, .int 0, .int 0, .int 0, .int 0, .int 0, .int 0]))] := hD
  refine lv_if_eq (tgt := 12) hx hb d_MM_write_5 (by decide) (fun _ => ?_) (fun h9 => absurd h9 (by decide +kernel))
  refine lv_iconst (v := 1) hx hb d_MM_write_12 (by decide) ?_
  refine va_put (D := D) (ci := 9) (v := .int 1) (ty := .int) (C := "MailCharactersModel") (T := F_MM) (N := 23) hx hb hts i_MM t_MM t_MM_ok n_MM hown hK hP hD hS 0 rfl rfl 5 (by decide) (hts _ k_878) (fun _ h9 => h9) rfl (by decide +kernel) rfl rfl (Nat.le_of_ble_eq_true rfl) d_MM_write_13 (fun H locs hP hD hS => ?_)
  have hP : va_P D vwCl [(a0, .inr (9, [.ref x0_nameHead, .ref x0_nameTail, .ref x0_nameOf, .ref x0_windows, .ref x0_koi, .int 1, .ref x0_ready, .ref x0_tape, .int 0, .ref x0_text, .int 0, .ref x0_out, .ref x0_src, .int 0, .int 0, .int 0, .int 0, .int 0, .int 0, .int 0, .int 0, .int 0, .int 0]))] H := hP
  have hD : va_D A [(a0, .inr (9, [.ref x0_nameHead, .ref x0_nameTail, .ref x0_nameOf, .ref x0_windows, .ref x0_koi, .int 1, .ref x0_ready, .ref x0_tape, .int 0, .ref x0_text, .int 0, .ref x0_out, .ref x0_src, .int 0, .int 0, .int 0, .int 0, .int 0, .int 0, .int 0, .int 0, .int 0, .int 0]))] := hD
  refine lv_aload_n hx hb d_MM_write_16 rfl (lv_at hl 0 rfl) ?_
  refine va_get (D := D) (ci := 9) (v := .int 1) (C := "MailCharactersModel") (T := F_MM) (N := 23) hx hb hts i_MM hown hK hP 0 rfl rfl 5 (by decide) (hts _ k_878) (fun _ h9 => h9) rfl d_MM_write_17 ?_
  refine lv_if_le (tgt := 25) hx hb d_MM_write_20 (by decide) (fun h9 => absurd h9 (by decide +kernel)) (fun _ => ?_)
  refine lv_iconst (v := 0) hx hb d_MM_write_23 (by decide) ?_
  exact hret 0 () _ _ _ _ d_MM_write_24 rfl rfl hP hD hS
theorem cw_MM_write_10 {R : Room} {s : State} {args : Array Value} {own : String} {idx : Nat} (hts : ∀ w ∈ gW, w.before args s = true) (hl : Cond.methodLink own idx y_MM_write ∈ gW) (hR : rm_MM_write_10.frames + 1 ≤ R.frames ∧ 8 + (4 + 11) + rm_MM_write_10.locals ≤ R.locals) : CallW R s args own "MailCharactersModel" idx y_MM_write b_MM_write 4 (some .int) w_MM_write rm_MM_write_10 0 0 1 := cwV 1 hts (gW_V hl k_1121 k_1122 k_77 k_1123) rfl rfl rfl (by decide +kernel) hR
def rm_MM_write_11 : Room := { frames := 1, cells := 0, slots := 0, locals := 20 }
set_option maxHeartbeats 4000000 in
set_option maxRecDepth 100000 in
theorem c_MM_write_11 (l : Launch) (D : va_G) (Z : gZT) (kI : ClassId) (a0 : Nat) (x0_nameHead : Nat) (x0_nameTail : Nat) (x0_nameOf : Nat) (x0_windows : Nat) (x0_koi : Nat) (x0_ready : Nat) (x0_tape : Nat) (x0_text : Nat) (x0_out : Nat) (x0_src : Nat) (sz : Nat) (p1 : Int32) (hpre0 : ¬ p1 < 0) (hpre1 : 9 < p1) : gMi l y_MM_write w_MM_write rm_MM_write_11 D Z kI [.ref a0, .int p1] sz [(a0, .inr (9, [.ref x0_nameHead, .ref x0_nameTail, .ref x0_nameOf, .ref x0_windows, .ref x0_koi, .int 0, .ref x0_ready, .ref x0_tape, .int 0, .ref x0_text, .int 0, .ref x0_out, .ref x0_src, .int 0, .int 0, .int 0, .int 0, .int 0, .int 0, .int 0, .int 0, .int 0, .int 0]))] (fun (r : Int32) (_u : Unit) => r = 0) (fun (_u : Unit) => ([(a0, .inr (9, [.ref x0_nameHead, .ref x0_nameTail, .ref x0_nameOf, .ref x0_windows, .ref x0_koi, .int 1, .ref x0_ready, .ref x0_tape, .int 0, .ref x0_text, .int 0, .ref x0_out, .ref x0_src, .int 0, .int 0, .int 0, .int 0, .int 0, .int 0, .int 0, .int 0, .int 0, .int 0]))] : va_W)) := by
  refine g_ofi (cc := b_MM_write) (maxL := 4) (ty := .int) (by decide) rfl (Nat.le_of_ble_eq_true rfl) ?_
  intro p e s m below meth c A Q H ls hx hb hml hown hts hA hK hZ hP hD hS hl hret
  have hown : s.vm.findClass "MailCharactersModel" = some m.cls := hown
  have hl : lv_has ls 4 [(0, .ref a0), (1, .int p1)] := hl
  refine lv_aload_n hx hb d_MM_write_0 rfl (lv_at hl 0 rfl) ?_
  refine lv_iload_n hx hb d_MM_write_1 rfl (lv_at hl 1 rfl) ?_
  refine g_Si (As := [.int p1]) (rest := [.ref a0]) (wr := [(a0, .inr (9, [.ref x0_nameHead, .ref x0_nameTail, .ref x0_nameOf, .ref x0_windows, .ref x0_koi, .int 0, .ref x0_ready, .ref x0_tape, .int 0, .ref x0_text, .int 0, .ref x0_out, .ref x0_src, .int 0, .int 0, .int 0, .int 0, .int 0, .int 0, .int 0, .int 0, .int 0, .int 0]))]) ⟨hx, hb, hml, hown, hts⟩ (c_MM_isCharset_11 l D Z kI H.size p1 hpre0 hpre1) (cw_MM_isCharset_11 hts k_1031 ⟨Nat.le_of_ble_eq_true rfl, Nat.le_of_ble_eq_true rfl⟩) hK hZ hP hD hS hA [] [0] rfl rfl (by decide) (by decide) (by decide) rfl hl.1 rfl (Nat.le_of_ble_eq_true rfl) d_MM_write_2 ⟨Nat.zero_le _, Nat.zero_le _⟩ (fun r_1 u_1 H locs hw hP hD hS => ?_)
  obtain rfl : r_1 = 0 := hw
  have hP : va_P D vwCl [(a0, .inr (9, [.ref x0_nameHead, .ref x0_nameTail, .ref x0_nameOf, .ref x0_windows, .ref x0_koi, .int 0, .ref x0_ready, .ref x0_tape, .int 0, .ref x0_text, .int 0, .ref x0_out, .ref x0_src, .int 0, .int 0, .int 0, .int 0, .int 0, .int 0, .int 0, .int 0, .int 0, .int 0]))] H := hP
  have hD : va_D A [(a0, .inr (9, [.ref x0_nameHead, .ref x0_nameTail, .ref x0_nameOf, .ref x0_windows, .ref x0_koi, .int 0, .ref x0_ready, .ref x0_tape, .int 0, .ref x0_text, .int 0, .ref x0_out, .ref x0_src, .int 0, .int 0, .int 0, .int 0, .int 0, .int 0, .int 0, .int 0, .int 0, .int 0]))] := hD
  refine lv_if_eq (tgt := 12) hx hb d_MM_write_5 (by decide) (fun _ => ?_) (fun h9 => absurd h9 (by decide +kernel))
  refine lv_iconst (v := 1) hx hb d_MM_write_12 (by decide) ?_
  refine va_put (D := D) (ci := 9) (v := .int 1) (ty := .int) (C := "MailCharactersModel") (T := F_MM) (N := 23) hx hb hts i_MM t_MM t_MM_ok n_MM hown hK hP hD hS 0 rfl rfl 5 (by decide) (hts _ k_878) (fun _ h9 => h9) rfl (by decide +kernel) rfl rfl (Nat.le_of_ble_eq_true rfl) d_MM_write_13 (fun H locs hP hD hS => ?_)
  have hP : va_P D vwCl [(a0, .inr (9, [.ref x0_nameHead, .ref x0_nameTail, .ref x0_nameOf, .ref x0_windows, .ref x0_koi, .int 1, .ref x0_ready, .ref x0_tape, .int 0, .ref x0_text, .int 0, .ref x0_out, .ref x0_src, .int 0, .int 0, .int 0, .int 0, .int 0, .int 0, .int 0, .int 0, .int 0, .int 0]))] H := hP
  have hD : va_D A [(a0, .inr (9, [.ref x0_nameHead, .ref x0_nameTail, .ref x0_nameOf, .ref x0_windows, .ref x0_koi, .int 1, .ref x0_ready, .ref x0_tape, .int 0, .ref x0_text, .int 0, .ref x0_out, .ref x0_src, .int 0, .int 0, .int 0, .int 0, .int 0, .int 0, .int 0, .int 0, .int 0, .int 0]))] := hD
  refine lv_aload_n hx hb d_MM_write_16 rfl (lv_at hl 0 rfl) ?_
  refine va_get (D := D) (ci := 9) (v := .int 1) (C := "MailCharactersModel") (T := F_MM) (N := 23) hx hb hts i_MM hown hK hP 0 rfl rfl 5 (by decide) (hts _ k_878) (fun _ h9 => h9) rfl d_MM_write_17 ?_
  refine lv_if_le (tgt := 25) hx hb d_MM_write_20 (by decide) (fun h9 => absurd h9 (by decide +kernel)) (fun _ => ?_)
  refine lv_iconst (v := 0) hx hb d_MM_write_23 (by decide) ?_
  exact hret 0 () _ _ _ _ d_MM_write_24 rfl rfl hP hD hS
theorem cw_MM_write_11 {R : Room} {s : State} {args : Array Value} {own : String} {idx : Nat} (hts : ∀ w ∈ gW, w.before args s = true) (hl : Cond.methodLink own idx y_MM_write ∈ gW) (hR : rm_MM_write_11.frames + 1 ≤ R.frames ∧ 8 + (4 + 11) + rm_MM_write_11.locals ≤ R.locals) : CallW R s args own "MailCharactersModel" idx y_MM_write b_MM_write 4 (some .int) w_MM_write rm_MM_write_11 0 0 1 := cwV 1 hts (gW_V hl k_1121 k_1122 k_77 k_1123) rfl rfl rfl (by decide +kernel) hR
def rm_MM_readPlain_0 : Room := { frames := 1, cells := 0, slots := 0, locals := 23 }
set_option maxHeartbeats 4000000 in
set_option maxRecDepth 100000 in
theorem c_MM_readPlain_0 (l : Launch) (D : va_G) (Z : gZT) (kI : ClassId) (a0 : Nat) (x0_nameHead : Nat) (x0_nameTail : Nat) (x0_nameOf : Nat) (x0_windows : Nat) (x0_koi : Nat) (x0_ready : Nat) (x0_tape : Nat) (x0_text : Nat) (x0_out : Nat) (x0_src : Nat) (sz : Nat) : gMv l y_MM_readPlain w_MM_readPlain rm_MM_readPlain_0 D Z kI [.ref a0, .int 0, .int 0] sz [(a0, .inr (9, [.ref x0_nameHead, .ref x0_nameTail, .ref x0_nameOf, .ref x0_windows, .ref x0_koi, .int 0, .ref x0_ready, .ref x0_tape, .int 0, .ref x0_text, .int 0, .ref x0_out, .ref x0_src, .int 0, .int 0, .int 0, .int 0, .int 0, .int 0, .int 0, .int 0, .int 0, .int 0]))] (fun (_u : Unit) => True) (fun (_u : Unit) => ([(a0, .inr (9, [.ref x0_nameHead, .ref x0_nameTail, .ref x0_nameOf, .ref x0_windows, .ref x0_koi, .int 0, .ref x0_ready, .ref x0_tape, .int 0, .ref x0_text, .int 0, .ref x0_out, .ref x0_src, .int 0, .int 0, .int 0, .int 0, .int 0, .int 0, .int 0, .int 0, .int 0, .int 0]))] : va_W)) := by
  refine g_ofv (cc := b_MM_readPlain) (maxL := 3) (by decide) rfl (Nat.le_of_ble_eq_true rfl) ?_
  intro p e s m below meth c A Q H ls hx hb hml hown hts hA hK hZ hP hD hS hl hret
  have hown : s.vm.findClass "MailCharactersModel" = some m.cls := hown
  have hl : lv_has ls 3 [(0, .ref a0), (1, .int 0), (2, .int 0)] := hl
  refine lv_aload_n hx hb d_MM_readPlain_0 rfl (lv_at hl 0 rfl) ?_
  refine lv_iload_n hx hb d_MM_readPlain_1 rfl (lv_at hl 1 rfl) ?_
  refine lv_iload_n hx hb d_MM_readPlain_2 rfl (lv_at hl 2 rfl) ?_
  refine g_Vv (As := [.int 0, .int 0]) (rest := []) (wr := []) ⟨hx, hb, hml, hown, hts⟩ (c_MM_tapeToSrc_0 l D Z kI a0 x0_nameHead x0_nameTail x0_nameOf x0_windows x0_koi x0_ready x0_tape x0_text x0_out x0_src H.size) (cw_MM_tapeToSrc_0 hts k_1034 ⟨Nat.le_of_ble_eq_true rfl, Nat.le_of_ble_eq_true rfl⟩) hK hZ hP hD hS hA [0] [] (g_recv hK hP (ci := 9) (q0 := 0) rfl rfl) rfl rfl (by decide) (by decide) (by decide) rfl hl.1 rfl (Nat.le_of_ble_eq_true rfl) d_MM_readPlain_3 ⟨Nat.zero_le _, Nat.zero_le _⟩ (fun u_1 H locs hw hP hD hS => ?_)
  have hP : va_P D vwCl [(a0, .inr (9, [.ref x0_nameHead, .ref x0_nameTail, .ref x0_nameOf, .ref x0_windows, .ref x0_koi, .int 0, .ref x0_ready, .ref x0_tape, .int 0, .ref x0_text, .int 0, .ref x0_out, .ref x0_src, .int 0, .int 0, .int 0, .int 0, .int 0, .int 0, .int 0, .int 0, .int 0, .int 0]))] H := hP
  have hD : va_D A [(a0, .inr (9, [.ref x0_nameHead, .ref x0_nameTail, .ref x0_nameOf, .ref x0_windows, .ref x0_koi, .int 0, .ref x0_ready, .ref x0_tape, .int 0, .ref x0_text, .int 0, .ref x0_out, .ref x0_src, .int 0, .int 0, .int 0, .int 0, .int 0, .int 0, .int 0, .int 0, .int 0, .int 0]))] := hD
  refine lv_aload_n hx hb d_MM_readPlain_6 rfl (lv_at hl 0 rfl) ?_
  refine lv_iconst (v := 4) hx hb d_MM_readPlain_7 (by decide) ?_
  refine g_Vv (As := [.int 4]) (rest := []) (wr := []) ⟨hx, hb, hml, hown, hts⟩ (c_MM_readAll_4 l D Z kI a0 x0_nameHead x0_nameTail x0_nameOf x0_windows x0_koi x0_ready x0_tape x0_text x0_out x0_src H.size) (cw_MM_readAll_4 hts k_1038 ⟨Nat.le_of_ble_eq_true rfl, Nat.le_of_ble_eq_true rfl⟩) hK hZ hP hD hS hA [0] [] (g_recv hK hP (ci := 9) (q0 := 0) rfl rfl) rfl rfl (by decide) (by decide) (by decide) rfl hl.1 rfl (Nat.le_of_ble_eq_true rfl) d_MM_readPlain_8 ⟨Nat.zero_le _, Nat.zero_le _⟩ (fun u_2 H locs hw hP hD hS => ?_)
  have hP : va_P D vwCl [(a0, .inr (9, [.ref x0_nameHead, .ref x0_nameTail, .ref x0_nameOf, .ref x0_windows, .ref x0_koi, .int 0, .ref x0_ready, .ref x0_tape, .int 0, .ref x0_text, .int 0, .ref x0_out, .ref x0_src, .int 0, .int 0, .int 0, .int 0, .int 0, .int 0, .int 0, .int 0, .int 0, .int 0]))] H := hP
  have hD : va_D A [(a0, .inr (9, [.ref x0_nameHead, .ref x0_nameTail, .ref x0_nameOf, .ref x0_windows, .ref x0_koi, .int 0, .ref x0_ready, .ref x0_tape, .int 0, .ref x0_text, .int 0, .ref x0_out, .ref x0_src, .int 0, .int 0, .int 0, .int 0, .int 0, .int 0, .int 0, .int 0, .int 0, .int 0]))] := hD
  exact hret () _ _ _ _ d_MM_readPlain_11 trivial hP hD hS
theorem cw_MM_readPlain_0 {R : Room} {s : State} {args : Array Value} {own : String} {idx : Nat} (hts : ∀ w ∈ gW, w.before args s = true) (hl : Cond.methodLink own idx y_MM_readPlain ∈ gW) (hR : rm_MM_readPlain_0.frames + 1 ≤ R.frames ∧ 8 + (3 + 11) + rm_MM_readPlain_0.locals ≤ R.locals) : CallW R s args own "MailCharactersModel" idx y_MM_readPlain b_MM_readPlain 3 none w_MM_readPlain rm_MM_readPlain_0 0 0 2 := cwV 2 hts (gW_V hl k_1114 k_52 k_77 k_1115) rfl rfl rfl (by decide +kernel) hR
def rm_MM_words_0 : Room := { frames := 2, cells := 0, slots := 0, locals := 45 }
set_option maxHeartbeats 4000000 in
set_option maxRecDepth 100000 in
theorem c_MM_words_0 (l : Launch) (D : va_G) (Z : gZT) (kI : ClassId) (a0 : Nat) (x0_nameHead : Nat) (x0_nameTail : Nat) (x0_nameOf : Nat) (x0_windows : Nat) (x0_koi : Nat) (x0_ready : Nat) (x0_tape : Nat) (x0_text : Nat) (x0_out : Nat) (x0_src : Nat) (sz : Nat) : gMi l y_MM_words w_MM_words rm_MM_words_0 D Z kI [.ref a0] sz [(a0, .inr (9, [.ref x0_nameHead, .ref x0_nameTail, .ref x0_nameOf, .ref x0_windows, .ref x0_koi, .int 0, .ref x0_ready, .ref x0_tape, .int 0, .ref x0_text, .int 0, .ref x0_out, .ref x0_src, .int 0, .int 0, .int 0, .int 0, .int 0, .int 0, .int 0, .int 0, .int 0, .int 0]))] (fun (r : Int32) (_u : Unit) => r = 0) (fun (_u : Unit) => ([(a0, .inr (9, [.ref x0_nameHead, .ref x0_nameTail, .ref x0_nameOf, .ref x0_windows, .ref x0_koi, .int 0, .ref x0_ready, .ref x0_tape, .int 0, .ref x0_text, .int 0, .ref x0_out, .ref x0_src, .int 0, .int 0, .int 0, .int 0, .int 0, .int 0, .int 0, .int 0, .int 0, .int 0]))] : va_W)) := by
  refine g_ofi (cc := b_MM_words) (maxL := 4) (ty := .int) (by decide) rfl (Nat.le_of_ble_eq_true rfl) ?_
  intro p e s m below meth c A Q H ls hx hb hml hown hts hA hK hZ hP hD hS hl hret
  have hown : s.vm.findClass "MailCharactersModel" = some m.cls := hown
  have hl : lv_has ls 4 [(0, .ref a0)] := hl
  refine lv_aload_n hx hb d_MM_words_0 rfl (lv_at hl 0 rfl) ?_
  refine lv_iconst (v := 0) hx hb d_MM_words_1 (by decide) ?_
  refine va_put (D := D) (ci := 9) (v := .int 0) (ty := .int) (C := "MailCharactersModel") (T := F_MM) (N := 23) hx hb hts i_MM t_MM t_MM_ok n_MM hown hK hP hD hS 0 rfl rfl 5 (by decide) (hts _ k_878) (fun _ h9 => h9) rfl (by decide +kernel) rfl rfl (Nat.le_of_ble_eq_true rfl) d_MM_words_2 (fun H locs hP hD hS => ?_)
  have hP : va_P D vwCl [(a0, .inr (9, [.ref x0_nameHead, .ref x0_nameTail, .ref x0_nameOf, .ref x0_windows, .ref x0_koi, .int 0, .ref x0_ready, .ref x0_tape, .int 0, .ref x0_text, .int 0, .ref x0_out, .ref x0_src, .int 0, .int 0, .int 0, .int 0, .int 0, .int 0, .int 0, .int 0, .int 0, .int 0]))] H := hP
  have hD : va_D A [(a0, .inr (9, [.ref x0_nameHead, .ref x0_nameTail, .ref x0_nameOf, .ref x0_windows, .ref x0_koi, .int 0, .ref x0_ready, .ref x0_tape, .int 0, .ref x0_text, .int 0, .ref x0_out, .ref x0_src, .int 0, .int 0, .int 0, .int 0, .int 0, .int 0, .int 0, .int 0, .int 0, .int 0]))] := hD
  refine lv_aload_n hx hb d_MM_words_5 rfl (lv_at hl 0 rfl) ?_
  refine lv_iconst (v := 0) hx hb d_MM_words_6 (by decide) ?_
  refine va_put (D := D) (ci := 9) (v := .int 0) (ty := .int) (C := "MailCharactersModel") (T := F_MM) (N := 23) hx hb hts i_MM t_MM t_MM_ok n_MM hown hK hP hD hS 0 rfl rfl 10 (by decide) (hts _ k_883) (fun _ h9 => h9) rfl (by decide +kernel) rfl rfl (Nat.le_of_ble_eq_true rfl) d_MM_words_7 (fun H locs hP hD hS => ?_)
  have hP : va_P D vwCl [(a0, .inr (9, [.ref x0_nameHead, .ref x0_nameTail, .ref x0_nameOf, .ref x0_windows, .ref x0_koi, .int 0, .ref x0_ready, .ref x0_tape, .int 0, .ref x0_text, .int 0, .ref x0_out, .ref x0_src, .int 0, .int 0, .int 0, .int 0, .int 0, .int 0, .int 0, .int 0, .int 0, .int 0]))] H := hP
  have hD : va_D A [(a0, .inr (9, [.ref x0_nameHead, .ref x0_nameTail, .ref x0_nameOf, .ref x0_windows, .ref x0_koi, .int 0, .ref x0_ready, .ref x0_tape, .int 0, .ref x0_text, .int 0, .ref x0_out, .ref x0_src, .int 0, .int 0, .int 0, .int 0, .int 0, .int 0, .int 0, .int 0, .int 0, .int 0]))] := hD
  refine lv_iconst (v := 0) hx hb d_MM_words_10 (by decide) ?_
  refine lv_istore_n (lv' := [(1, .int 0), (0, .ref a0)]) hx hb d_MM_words_11 rfl hl (by decide) rfl (fun ls hl => ?_)
  refine lv_iconst (v := 0) hx hb d_MM_words_12 (by decide) ?_
  refine lv_istore_n (lv' := [(2, .int 0), (1, .int 0), (0, .ref a0)]) hx hb d_MM_words_13 rfl hl (by decide) rfl (fun ls hl => ?_)
  refine lv_iconst (v := 0) hx hb d_MM_words_14 (by decide) ?_
  refine lv_istore_n (lv' := [(3, .int 0), (2, .int 0), (1, .int 0), (0, .ref a0)]) hx hb d_MM_words_15 rfl hl (by decide) rfl (fun ls hl => ?_)
  refine lv_iload_n hx hb d_MM_words_16 rfl (lv_at hl 1 rfl) ?_
  refine lv_aload_n hx hb d_MM_words_17 rfl (lv_at hl 3 rfl) ?_
  refine va_get (D := D) (ci := 9) (v := .int 0) (C := "MailCharactersModel") (T := F_MM) (N := 23) hx hb hts i_MM hown hK hP 0 rfl rfl 8 (by decide) (hts _ k_881) (fun _ h9 => h9) rfl d_MM_words_18 ?_
  refine lv_icmp_ge (tgt := 75) hx hb d_MM_words_21 (by decide) (fun _ => ?_) (fun h9 => absurd h9 (by decide +kernel))
  refine lv_aload_n hx hb d_MM_words_75 rfl (lv_at hl 3 rfl) ?_
  refine lv_iload_n hx hb d_MM_words_76 rfl (lv_at hl 2 rfl) ?_
  refine lv_aload_n hx hb d_MM_words_77 rfl (lv_at hl 3 rfl) ?_
  refine va_get (D := D) (ci := 9) (v := .int 0) (C := "MailCharactersModel") (T := F_MM) (N := 23) hx hb hts i_MM hown hK hP 0 rfl rfl 8 (by decide) (hts _ k_881) (fun _ h9 => h9) rfl d_MM_words_78 ?_
  refine g_Vv (As := [.int 0, .int 0]) (rest := []) (wr := []) ⟨hx, hb, hml, hown, hts⟩ (c_MM_readPlain_0 l D Z kI a0 x0_nameHead x0_nameTail x0_nameOf x0_windows x0_koi x0_ready x0_tape x0_text x0_out x0_src H.size) (cw_MM_readPlain_0 hts k_1112 ⟨Nat.le_of_ble_eq_true rfl, Nat.le_of_ble_eq_true rfl⟩) hK hZ hP hD hS hA [0] [] (g_recv hK hP (ci := 9) (q0 := 0) rfl rfl) rfl rfl (by decide) (by decide) (by decide) rfl hl.1 rfl (Nat.le_of_ble_eq_true rfl) d_MM_words_81 ⟨Nat.zero_le _, Nat.zero_le _⟩ (fun u_1 H locs hw hP hD hS => ?_)
  have hP : va_P D vwCl [(a0, .inr (9, [.ref x0_nameHead, .ref x0_nameTail, .ref x0_nameOf, .ref x0_windows, .ref x0_koi, .int 0, .ref x0_ready, .ref x0_tape, .int 0, .ref x0_text, .int 0, .ref x0_out, .ref x0_src, .int 0, .int 0, .int 0, .int 0, .int 0, .int 0, .int 0, .int 0, .int 0, .int 0]))] H := hP
  have hD : va_D A [(a0, .inr (9, [.ref x0_nameHead, .ref x0_nameTail, .ref x0_nameOf, .ref x0_windows, .ref x0_koi, .int 0, .ref x0_ready, .ref x0_tape, .int 0, .ref x0_text, .int 0, .ref x0_out, .ref x0_src, .int 0, .int 0, .int 0, .int 0, .int 0, .int 0, .int 0, .int 0, .int 0, .int 0]))] := hD
  refine lv_aload_n hx hb d_MM_words_84 rfl (lv_at hl 3 rfl) ?_
  refine lv_iconst (v := 0) hx hb d_MM_words_85 (by decide) ?_
  refine va_put (D := D) (ci := 9) (v := .int 0) (ty := .int) (C := "MailCharactersModel") (T := F_MM) (N := 23) hx hb hts i_MM t_MM t_MM_ok n_MM hown hK hP hD hS 0 rfl rfl 8 (by decide) (hts _ k_881) (fun _ h9 => h9) rfl (by decide +kernel) rfl rfl (Nat.le_of_ble_eq_true rfl) d_MM_words_86 (fun H locs hP hD hS => ?_)
  have hP : va_P D vwCl [(a0, .inr (9, [.ref x0_nameHead, .ref x0_nameTail, .ref x0_nameOf, .ref x0_windows, .ref x0_koi, .int 0, .ref x0_ready, .ref x0_tape, .int 0, .ref x0_text, .int 0, .ref x0_out, .ref x0_src, .int 0, .int 0, .int 0, .int 0, .int 0, .int 0, .int 0, .int 0, .int 0, .int 0]))] H := hP
  have hD : va_D A [(a0, .inr (9, [.ref x0_nameHead, .ref x0_nameTail, .ref x0_nameOf, .ref x0_windows, .ref x0_koi, .int 0, .ref x0_ready, .ref x0_tape, .int 0, .ref x0_text, .int 0, .ref x0_out, .ref x0_src, .int 0, .int 0, .int 0, .int 0, .int 0, .int 0, .int 0, .int 0, .int 0, .int 0]))] := hD
  refine lv_aload_n hx hb d_MM_words_89 rfl (lv_at hl 3 rfl) ?_
  refine va_get (D := D) (ci := 9) (v := .int 0) (C := "MailCharactersModel") (T := F_MM) (N := 23) hx hb hts i_MM hown hK hP 0 rfl rfl 10 (by decide) (hts _ k_883) (fun _ h9 => h9) rfl d_MM_words_90 ?_
  exact hret 0 () _ _ _ _ d_MM_words_93 rfl rfl hP hD hS
theorem cw_MM_words_0 {R : Room} {s : State} {args : Array Value} {own : String} {idx : Nat} (hts : ∀ w ∈ gW, w.before args s = true) (hl : Cond.methodLink own idx y_MM_words ∈ gW) (hR : rm_MM_words_0.frames + 1 ≤ R.frames ∧ 8 + (4 + 11) + rm_MM_words_0.locals ≤ R.locals) : CallW R s args own "MailCharactersModel" idx y_MM_words b_MM_words 4 (some .int) w_MM_words rm_MM_words_0 0 0 0 := cwV 0 hts (gW_V hl k_1097 k_1098 k_77 k_1099) rfl rfl rfl (by decide +kernel) hR
def rm_MM_base_0 : Room := { frames := 0, cells := 0, slots := 0, locals := 0 }
set_option maxHeartbeats 4000000 in
set_option maxRecDepth 100000 in
theorem c_MM_base_0 (l : Launch) (D : va_G) (Z : gZT) (kI : ClassId) (a0 : Nat) (x0_nameHead : Nat) (x0_nameTail : Nat) (x0_nameOf : Nat) (x0_windows : Nat) (x0_koi : Nat) (x0_ready : Nat) (x0_tape : Nat) (x0_text : Nat) (x0_out : Nat) (x0_src : Nat) (sz : Nat) : gMv l y_MM_base w_MM_base rm_MM_base_0 D Z kI [.ref a0] sz [(a0, .inr (9, [.ref x0_nameHead, .ref x0_nameTail, .ref x0_nameOf, .ref x0_windows, .ref x0_koi, .int 0, .ref x0_ready, .ref x0_tape, .int 0, .ref x0_text, .int 0, .ref x0_out, .ref x0_src, .int 0, .int 0, .int 0, .int 0, .int 0, .int 0, .int 0, .int 0, .int 0, .int 0]))] (fun (_u : Unit) => True) (fun (_u : Unit) => ([(a0, .inr (9, [.ref x0_nameHead, .ref x0_nameTail, .ref x0_nameOf, .ref x0_windows, .ref x0_koi, .int 0, .ref x0_ready, .ref x0_tape, .int 0, .ref x0_text, .int 0, .ref x0_out, .ref x0_src, .int 0, .int 0, .int 0, .int 0, .int 0, .int 0, .int 0, .int 0, .int 0, .int 0]))] : va_W)) := by
  refine g_ofv (cc := b_MM_base) (maxL := 4) (by decide) rfl (Nat.le_of_ble_eq_true rfl) ?_
  intro p e s m below meth c A Q H ls hx hb hml hown hts hA hK hZ hP hD hS hl hret
  have hown : s.vm.findClass "MailCharactersModel" = some m.cls := hown
  have hl : lv_has ls 4 [(0, .ref a0)] := hl
  refine lv_iconst (v := 0) hx hb d_MM_base_0 (by decide) ?_
  refine lv_istore_n (lv' := [(1, .int 0), (0, .ref a0)]) hx hb d_MM_base_1 rfl hl (by decide) rfl (fun ls hl => ?_)
  refine lv_iconst (v := 0) hx hb d_MM_base_2 (by decide) ?_
  refine lv_istore_n (lv' := [(2, .int 0), (1, .int 0), (0, .ref a0)]) hx hb d_MM_base_3 rfl hl (by decide) rfl (fun ls hl => ?_)
  refine lv_iload_n hx hb d_MM_base_4 rfl (lv_at hl 0 rfl) ?_
  refine lv_aload_n hx hb d_MM_base_5 rfl (lv_at hl 2 rfl) ?_
  refine va_get (D := D) (ci := 9) (v := .int 0) (C := "MailCharactersModel") (T := F_MM) (N := 23) hx hb hts i_MM hown hK hP 0 rfl rfl 8 (by decide) (hts _ k_881) (fun _ h9 => h9) rfl d_MM_base_6 ?_
  refine lv_icmp_ge (tgt := 149) hx hb d_MM_base_9 (by decide) (fun _ => ?_) (fun h9 => absurd h9 (by decide +kernel))
  exact hret () _ _ _ _ d_MM_base_149 trivial hP hD hS
theorem cw_MM_base_0 {R : Room} {s : State} {args : Array Value} {own : String} {idx : Nat} (hts : ∀ w ∈ gW, w.before args s = true) (hl : Cond.methodLink own idx y_MM_base ∈ gW) (hR : rm_MM_base_0.frames + 1 ≤ R.frames ∧ 8 + (4 + 11) + rm_MM_base_0.locals ≤ R.locals) : CallW R s args own "MailCharactersModel" idx y_MM_base b_MM_base 4 none w_MM_base rm_MM_base_0 0 0 0 := cwV 0 hts (gW_V hl k_1164 k_61 k_77 k_1165) rfl rfl rfl (by decide +kernel) hR
def rm_MM_code_0 : Room := { frames := 1, cells := 0, slots := 0, locals := 23 }
set_option maxHeartbeats 4000000 in
set_option maxRecDepth 100000 in
theorem c_MM_code_0 (l : Launch) (D : va_G) (Z : gZT) (kI : ClassId) (a0 : Nat) (x0_nameHead : Nat) (x0_nameTail : Nat) (x0_nameOf : Nat) (x0_windows : Nat) (x0_koi : Nat) (x0_ready : Nat) (x0_tape : Nat) (x0_text : Nat) (x0_out : Nat) (x0_src : Nat) (sz : Nat) : gMi l y_MM_code w_MM_code rm_MM_code_0 D Z kI [.ref a0, .int 1] sz [(a0, .inr (9, [.ref x0_nameHead, .ref x0_nameTail, .ref x0_nameOf, .ref x0_windows, .ref x0_koi, .int 0, .ref x0_ready, .ref x0_tape, .int 0, .ref x0_text, .int 0, .ref x0_out, .ref x0_src, .int 0, .int 0, .int 0, .int 0, .int 0, .int 0, .int 0, .int 0, .int 0, .int 0]))] (fun (r : Int32) (_u : Unit) => r = 0) (fun (_u : Unit) => ([(a0, .inr (9, [.ref x0_nameHead, .ref x0_nameTail, .ref x0_nameOf, .ref x0_windows, .ref x0_koi, .int 0, .ref x0_ready, .ref x0_tape, .int 0, .ref x0_text, .int 0, .ref x0_out, .ref x0_src, .int 0, .int 0, .int 0, .int 0, .int 0, .int 0, .int 0, .int 0, .int 0, .int 0]))] : va_W)) := by
  refine g_ofi (cc := b_MM_code) (maxL := 2) (ty := .int) (by decide) rfl (Nat.le_of_ble_eq_true rfl) ?_
  intro p e s m below meth c A Q H ls hx hb hml hown hts hA hK hZ hP hD hS hl hret
  have hown : s.vm.findClass "MailCharactersModel" = some m.cls := hown
  have hl : lv_has ls 2 [(0, .ref a0), (1, .int 1)] := hl
  refine lv_aload_n hx hb d_MM_code_0 rfl (lv_at hl 0 rfl) ?_
  refine lv_iload_n hx hb d_MM_code_1 rfl (lv_at hl 1 rfl) ?_
  refine lv_iconst (v := 1) hx hb d_MM_code_2 (by decide) ?_
  refine lv_icmp_eq (tgt := 15) hx hb d_MM_code_3 (by decide) (fun _ => ?_) (fun h9 => absurd h9 (by decide +kernel))
  refine lv_iconst (v := 0) hx hb d_MM_code_15 (by decide) ?_
  refine va_put (D := D) (ci := 9) (v := .int 0) (ty := .int) (C := "MailCharactersModel") (T := F_MM) (N := 23) hx hb hts i_MM t_MM t_MM_ok n_MM hown hK hP hD hS 0 rfl rfl 5 (by decide) (hts _ k_878) (fun _ h9 => h9) rfl (by decide +kernel) rfl rfl (Nat.le_of_ble_eq_true rfl) d_MM_code_16 (fun H locs hP hD hS => ?_)
  have hP : va_P D vwCl [(a0, .inr (9, [.ref x0_nameHead, .ref x0_nameTail, .ref x0_nameOf, .ref x0_windows, .ref x0_koi, .int 0, .ref x0_ready, .ref x0_tape, .int 0, .ref x0_text, .int 0, .ref x0_out, .ref x0_src, .int 0, .int 0, .int 0, .int 0, .int 0, .int 0, .int 0, .int 0, .int 0, .int 0]))] H := hP
  have hD : va_D A [(a0, .inr (9, [.ref x0_nameHead, .ref x0_nameTail, .ref x0_nameOf, .ref x0_windows, .ref x0_koi, .int 0, .ref x0_ready, .ref x0_tape, .int 0, .ref x0_text, .int 0, .ref x0_out, .ref x0_src, .int 0, .int 0, .int 0, .int 0, .int 0, .int 0, .int 0, .int 0, .int 0, .int 0]))] := hD
  refine lv_aload_n hx hb d_MM_code_19 rfl (lv_at hl 0 rfl) ?_
  refine va_get (D := D) (ci := 9) (v := .int 0) (C := "MailCharactersModel") (T := F_MM) (N := 23) hx hb hts i_MM hown hK hP 0 rfl rfl 5 (by decide) (hts _ k_878) (fun _ h9 => h9) rfl d_MM_code_20 ?_
  refine lv_if_le (tgt := 28) hx hb d_MM_code_23 (by decide) (fun _ => ?_) (fun h9 => absurd h9 (by decide +kernel))
  refine lv_aload_n hx hb d_MM_code_28 rfl (lv_at hl 0 rfl) ?_
  refine lv_iconst (v := 0) hx hb d_MM_code_29 (by decide) ?_
  refine va_put (D := D) (ci := 9) (v := .int 0) (ty := .int) (C := "MailCharactersModel") (T := F_MM) (N := 23) hx hb hts i_MM t_MM t_MM_ok n_MM hown hK hP hD hS 0 rfl rfl 13 (by decide) (hts _ k_886) (fun _ h9 => h9) rfl (by decide +kernel) rfl rfl (Nat.le_of_ble_eq_true rfl) d_MM_code_30 (fun H locs hP hD hS => ?_)
  have hP : va_P D vwCl [(a0, .inr (9, [.ref x0_nameHead, .ref x0_nameTail, .ref x0_nameOf, .ref x0_windows, .ref x0_koi, .int 0, .ref x0_ready, .ref x0_tape, .int 0, .ref x0_text, .int 0, .ref x0_out, .ref x0_src, .int 0, .int 0, .int 0, .int 0, .int 0, .int 0, .int 0, .int 0, .int 0, .int 0]))] H := hP
  have hD : va_D A [(a0, .inr (9, [.ref x0_nameHead, .ref x0_nameTail, .ref x0_nameOf, .ref x0_windows, .ref x0_koi, .int 0, .ref x0_ready, .ref x0_tape, .int 0, .ref x0_text, .int 0, .ref x0_out, .ref x0_src, .int 0, .int 0, .int 0, .int 0, .int 0, .int 0, .int 0, .int 0, .int 0, .int 0]))] := hD
  refine lv_iload_n hx hb d_MM_code_33 rfl (lv_at hl 1 rfl) ?_
  refine lv_iconst (v := 1) hx hb d_MM_code_34 (by decide) ?_
  refine lv_icmp_ne (tgt := 45) hx hb d_MM_code_35 (by decide) (fun h9 => absurd h9 (by decide +kernel)) (fun _ => ?_)
  refine lv_aload_n hx hb d_MM_code_38 rfl (lv_at hl 0 rfl) ?_
  refine g_Vv (As := []) (rest := []) (wr := []) ⟨hx, hb, hml, hown, hts⟩ (c_MM_base_0 l D Z kI a0 x0_nameHead x0_nameTail x0_nameOf x0_windows x0_koi x0_ready x0_tape x0_text x0_out x0_src H.size) (cw_MM_base_0 hts k_1162 ⟨Nat.le_of_ble_eq_true rfl, Nat.le_of_ble_eq_true rfl⟩) hK hZ hP hD hS hA [0] [] (g_recv hK hP (ci := 9) (q0 := 0) rfl rfl) rfl rfl (by decide) (by decide) (by decide) rfl hl.1 rfl (Nat.le_of_ble_eq_true rfl) d_MM_code_39 ⟨Nat.zero_le _, Nat.zero_le _⟩ (fun u_1 H locs hw hP hD hS => ?_)
  have hP : va_P D vwCl [(a0, .inr (9, [.ref x0_nameHead, .ref x0_nameTail, .ref x0_nameOf, .ref x0_windows, .ref x0_koi, .int 0, .ref x0_ready, .ref x0_tape, .int 0, .ref x0_text, .int 0, .ref x0_out, .ref x0_src, .int 0, .int 0, .int 0, .int 0, .int 0, .int 0, .int 0, .int 0, .int 0, .int 0]))] H := hP
  have hD : va_D A [(a0, .inr (9, [.ref x0_nameHead, .ref x0_nameTail, .ref x0_nameOf, .ref x0_windows, .ref x0_koi, .int 0, .ref x0_ready, .ref x0_tape, .int 0, .ref x0_text, .int 0, .ref x0_out, .ref x0_src, .int 0, .int 0, .int 0, .int 0, .int 0, .int 0, .int 0, .int 0, .int 0, .int 0]))] := hD
  refine lv_goto (tgt := 49) hx hb d_MM_code_42 (by decide) ?_
  refine lv_aload_n hx hb d_MM_code_49 rfl (lv_at hl 0 rfl) ?_
  refine va_get (D := D) (ci := 9) (v := .int 0) (C := "MailCharactersModel") (T := F_MM) (N := 23) hx hb hts i_MM hown hK hP 0 rfl rfl 13 (by decide) (hts _ k_886) (fun _ h9 => h9) rfl d_MM_code_50 ?_
  refine lv_sipush (v := 1500) hx hb d_MM_code_53 (by decide) ?_
  refine lv_icmp_le (tgt := 66) hx hb d_MM_code_56 (by decide) (fun _ => ?_) (fun h9 => absurd h9 (by decide +kernel))
  refine lv_aload_n hx hb d_MM_code_66 rfl (lv_at hl 0 rfl) ?_
  refine g_Vv (As := []) (rest := []) (wr := []) ⟨hx, hb, hml, hown, hts⟩ (c_MM_outToTape_0 l D Z kI a0 x0_nameHead x0_nameTail x0_nameOf x0_windows x0_koi x0_ready x0_tape x0_text x0_out x0_src H.size) (cw_MM_outToTape_0 hts k_1023 ⟨Nat.le_of_ble_eq_true rfl, Nat.le_of_ble_eq_true rfl⟩) hK hZ hP hD hS hA [0] [] (g_recv hK hP (ci := 9) (q0 := 0) rfl rfl) rfl rfl (by decide) (by decide) (by decide) rfl hl.1 rfl (Nat.le_of_ble_eq_true rfl) d_MM_code_67 ⟨Nat.zero_le _, Nat.zero_le _⟩ (fun u_2 H locs hw hP hD hS => ?_)
  have hP : va_P D vwCl [(a0, .inr (9, [.ref x0_nameHead, .ref x0_nameTail, .ref x0_nameOf, .ref x0_windows, .ref x0_koi, .int 0, .ref x0_ready, .ref x0_tape, .int 0, .ref x0_text, .int 0, .ref x0_out, .ref x0_src, .int 0, .int 0, .int 0, .int 0, .int 0, .int 0, .int 0, .int 0, .int 0, .int 0]))] H := hP
  have hD : va_D A [(a0, .inr (9, [.ref x0_nameHead, .ref x0_nameTail, .ref x0_nameOf, .ref x0_windows, .ref x0_koi, .int 0, .ref x0_ready, .ref x0_tape, .int 0, .ref x0_text, .int 0, .ref x0_out, .ref x0_src, .int 0, .int 0, .int 0, .int 0, .int 0, .int 0, .int 0, .int 0, .int 0, .int 0]))] := hD
  refine lv_aload_n hx hb d_MM_code_70 rfl (lv_at hl 0 rfl) ?_
  refine va_get (D := D) (ci := 9) (v := .int 0) (C := "MailCharactersModel") (T := F_MM) (N := 23) hx hb hts i_MM hown hK hP 0 rfl rfl 8 (by decide) (hts _ k_881) (fun _ h9 => h9) rfl d_MM_code_71 ?_
  exact hret 0 () _ _ _ _ d_MM_code_74 rfl rfl hP hD hS
theorem cw_MM_code_0 {R : Room} {s : State} {args : Array Value} {own : String} {idx : Nat} (hts : ∀ w ∈ gW, w.before args s = true) (hl : Cond.methodLink own idx y_MM_code ∈ gW) (hR : rm_MM_code_0.frames + 1 ≤ R.frames ∧ 8 + (2 + 11) + rm_MM_code_0.locals ≤ R.locals) : CallW R s args own "MailCharactersModel" idx y_MM_code b_MM_code 2 (some .int) w_MM_code rm_MM_code_0 0 0 1 := cwV 1 hts (gW_V hl k_1159 k_1160 k_77 k_1161) rfl rfl rfl (by decide +kernel) hR
def rm_MM_quote_0 : Room := { frames := 0, cells := 0, slots := 0, locals := 0 }
set_option maxHeartbeats 4000000 in
set_option maxRecDepth 100000 in
theorem c_MM_quote_0 (l : Launch) (D : va_G) (Z : gZT) (kI : ClassId) (a0 : Nat) (x0_nameHead : Nat) (x0_nameTail : Nat) (x0_nameOf : Nat) (x0_windows : Nat) (x0_koi : Nat) (x0_ready : Nat) (x0_tape : Nat) (x0_text : Nat) (x0_out : Nat) (x0_src : Nat) (sz : Nat) : gMv l y_MM_quote w_MM_quote rm_MM_quote_0 D Z kI [.ref a0] sz [(a0, .inr (9, [.ref x0_nameHead, .ref x0_nameTail, .ref x0_nameOf, .ref x0_windows, .ref x0_koi, .int 0, .ref x0_ready, .ref x0_tape, .int 0, .ref x0_text, .int 0, .ref x0_out, .ref x0_src, .int 0, .int 0, .int 0, .int 0, .int 0, .int 0, .int 0, .int 0, .int 0, .int 0]))] (fun (_u : Unit) => True) (fun (_u : Unit) => ([(a0, .inr (9, [.ref x0_nameHead, .ref x0_nameTail, .ref x0_nameOf, .ref x0_windows, .ref x0_koi, .int 0, .ref x0_ready, .ref x0_tape, .int 0, .ref x0_text, .int 0, .ref x0_out, .ref x0_src, .int 0, .int 0, .int 0, .int 0, .int 0, .int 0, .int 0, .int 0, .int 0, .int 0]))] : va_W)) := by
  refine g_ofv (cc := b_MM_quote) (maxL := 7) (by decide) rfl (Nat.le_of_ble_eq_true rfl) ?_
  intro p e s m below meth c A Q H ls hx hb hml hown hts hA hK hZ hP hD hS hl hret
  have hown : s.vm.findClass "MailCharactersModel" = some m.cls := hown
  have hl : lv_has ls 7 [(0, .ref a0)] := hl
  refine lv_iconst (v := 0) hx hb d_MM_quote_0 (by decide) ?_
  refine lv_istore_n (lv' := [(1, .int 0), (0, .ref a0)]) hx hb d_MM_quote_1 rfl hl (by decide) rfl (fun ls hl => ?_)
  refine lv_iconst (v := 0) hx hb d_MM_quote_2 (by decide) ?_
  refine lv_istore_n (lv' := [(2, .int 0), (1, .int 0), (0, .ref a0)]) hx hb d_MM_quote_3 rfl hl (by decide) rfl (fun ls hl => ?_)
  refine lv_iload_n hx hb d_MM_quote_4 rfl (lv_at hl 0 rfl) ?_
  refine lv_aload_n hx hb d_MM_quote_5 rfl (lv_at hl 2 rfl) ?_
  refine va_get (D := D) (ci := 9) (v := .int 0) (C := "MailCharactersModel") (T := F_MM) (N := 23) hx hb hts i_MM hown hK hP 0 rfl rfl 8 (by decide) (hts _ k_881) (fun _ h9 => h9) rfl d_MM_quote_6 ?_
  refine lv_icmp_ge (tgt := 212) hx hb d_MM_quote_9 (by decide) (fun _ => ?_) (fun h9 => absurd h9 (by decide +kernel))
  exact hret () _ _ _ _ d_MM_quote_212 trivial hP hD hS
theorem cw_MM_quote_0 {R : Room} {s : State} {args : Array Value} {own : String} {idx : Nat} (hts : ∀ w ∈ gW, w.before args s = true) (hl : Cond.methodLink own idx y_MM_quote ∈ gW) (hR : rm_MM_quote_0.frames + 1 ≤ R.frames ∧ 8 + (7 + 11) + rm_MM_quote_0.locals ≤ R.locals) : CallW R s args own "MailCharactersModel" idx y_MM_quote b_MM_quote 7 none w_MM_quote rm_MM_quote_0 0 0 0 := cwV 0 hts (gW_V hl k_1172 k_63 k_77 k_1173) rfl rfl rfl (by decide +kernel) hR
def rm_MM_code_1 : Room := { frames := 1, cells := 0, slots := 0, locals := 26 }
set_option maxHeartbeats 4000000 in
set_option maxRecDepth 100000 in
theorem c_MM_code_1 (l : Launch) (D : va_G) (Z : gZT) (kI : ClassId) (a0 : Nat) (x0_nameHead : Nat) (x0_nameTail : Nat) (x0_nameOf : Nat) (x0_windows : Nat) (x0_koi : Nat) (x0_ready : Nat) (x0_tape : Nat) (x0_text : Nat) (x0_out : Nat) (x0_src : Nat) (sz : Nat) : gMi l y_MM_code w_MM_code rm_MM_code_1 D Z kI [.ref a0, .int 2] sz [(a0, .inr (9, [.ref x0_nameHead, .ref x0_nameTail, .ref x0_nameOf, .ref x0_windows, .ref x0_koi, .int 0, .ref x0_ready, .ref x0_tape, .int 0, .ref x0_text, .int 0, .ref x0_out, .ref x0_src, .int 0, .int 0, .int 0, .int 0, .int 0, .int 0, .int 0, .int 0, .int 0, .int 0]))] (fun (r : Int32) (_u : Unit) => r = 0) (fun (_u : Unit) => ([(a0, .inr (9, [.ref x0_nameHead, .ref x0_nameTail, .ref x0_nameOf, .ref x0_windows, .ref x0_koi, .int 0, .ref x0_ready, .ref x0_tape, .int 0, .ref x0_text, .int 0, .ref x0_out, .ref x0_src, .int 0, .int 0, .int 0, .int 0, .int 0, .int 0, .int 0, .int 0, .int 0, .int 0]))] : va_W)) := by
  refine g_ofi (cc := b_MM_code) (maxL := 2) (ty := .int) (by decide) rfl (Nat.le_of_ble_eq_true rfl) ?_
  intro p e s m below meth c A Q H ls hx hb hml hown hts hA hK hZ hP hD hS hl hret
  have hown : s.vm.findClass "MailCharactersModel" = some m.cls := hown
  have hl : lv_has ls 2 [(0, .ref a0), (1, .int 2)] := hl
  refine lv_aload_n hx hb d_MM_code_0 rfl (lv_at hl 0 rfl) ?_
  refine lv_iload_n hx hb d_MM_code_1 rfl (lv_at hl 1 rfl) ?_
  refine lv_iconst (v := 1) hx hb d_MM_code_2 (by decide) ?_
  refine lv_icmp_eq (tgt := 15) hx hb d_MM_code_3 (by decide) (fun h9 => absurd h9 (by decide +kernel)) (fun _ => ?_)
  refine lv_iload_n hx hb d_MM_code_6 rfl (lv_at hl 1 rfl) ?_
  refine lv_iconst (v := 2) hx hb d_MM_code_7 (by decide) ?_
  refine lv_icmp_eq (tgt := 15) hx hb d_MM_code_8 (by decide) (fun _ => ?_) (fun h9 => absurd h9 (by decide +kernel))
  refine lv_iconst (v := 0) hx hb d_MM_code_15 (by decide) ?_
  refine va_put (D := D) (ci := 9) (v := .int 0) (ty := .int) (C := "MailCharactersModel") (T := F_MM) (N := 23) hx hb hts i_MM t_MM t_MM_ok n_MM hown hK hP hD hS 0 rfl rfl 5 (by decide) (hts _ k_878) (fun _ h9 => h9) rfl (by decide +kernel) rfl rfl (Nat.le_of_ble_eq_true rfl) d_MM_code_16 (fun H locs hP hD hS => ?_)
  have hP : va_P D vwCl [(a0, .inr (9, [.ref x0_nameHead, .ref x0_nameTail, .ref x0_nameOf, .ref x0_windows, .ref x0_koi, .int 0, .ref x0_ready, .ref x0_tape, .int 0, .ref x0_text, .int 0, .ref x0_out, .ref x0_src, .int 0, .int 0, .int 0, .int 0, .int 0, .int 0, .int 0, .int 0, .int 0, .int 0]))] H := hP
  have hD : va_D A [(a0, .inr (9, [.ref x0_nameHead, .ref x0_nameTail, .ref x0_nameOf, .ref x0_windows, .ref x0_koi, .int 0, .ref x0_ready, .ref x0_tape, .int 0, .ref x0_text, .int 0, .ref x0_out, .ref x0_src, .int 0, .int 0, .int 0, .int 0, .int 0, .int 0, .int 0, .int 0, .int 0, .int 0]))] := hD
  refine lv_aload_n hx hb d_MM_code_19 rfl (lv_at hl 0 rfl) ?_
  refine va_get (D := D) (ci := 9) (v := .int 0) (C := "MailCharactersModel") (T := F_MM) (N := 23) hx hb hts i_MM hown hK hP 0 rfl rfl 5 (by decide) (hts _ k_878) (fun _ h9 => h9) rfl d_MM_code_20 ?_
  refine lv_if_le (tgt := 28) hx hb d_MM_code_23 (by decide) (fun _ => ?_) (fun h9 => absurd h9 (by decide +kernel))
  refine lv_aload_n hx hb d_MM_code_28 rfl (lv_at hl 0 rfl) ?_
  refine lv_iconst (v := 0) hx hb d_MM_code_29 (by decide) ?_
  refine va_put (D := D) (ci := 9) (v := .int 0) (ty := .int) (C := "MailCharactersModel") (T := F_MM) (N := 23) hx hb hts i_MM t_MM t_MM_ok n_MM hown hK hP hD hS 0 rfl rfl 13 (by decide) (hts _ k_886) (fun _ h9 => h9) rfl (by decide +kernel) rfl rfl (Nat.le_of_ble_eq_true rfl) d_MM_code_30 (fun H locs hP hD hS => ?_)
  have hP : va_P D vwCl [(a0, .inr (9, [.ref x0_nameHead, .ref x0_nameTail, .ref x0_nameOf, .ref x0_windows, .ref x0_koi, .int 0, .ref x0_ready, .ref x0_tape, .int 0, .ref x0_text, .int 0, .ref x0_out, .ref x0_src, .int 0, .int 0, .int 0, .int 0, .int 0, .int 0, .int 0, .int 0, .int 0, .int 0]))] H := hP
  have hD : va_D A [(a0, .inr (9, [.ref x0_nameHead, .ref x0_nameTail, .ref x0_nameOf, .ref x0_windows, .ref x0_koi, .int 0, .ref x0_ready, .ref x0_tape, .int 0, .ref x0_text, .int 0, .ref x0_out, .ref x0_src, .int 0, .int 0, .int 0, .int 0, .int 0, .int 0, .int 0, .int 0, .int 0, .int 0]))] := hD
  refine lv_iload_n hx hb d_MM_code_33 rfl (lv_at hl 1 rfl) ?_
  refine lv_iconst (v := 1) hx hb d_MM_code_34 (by decide) ?_
  refine lv_icmp_ne (tgt := 45) hx hb d_MM_code_35 (by decide) (fun _ => ?_) (fun h9 => absurd h9 (by decide +kernel))
  refine lv_aload_n hx hb d_MM_code_45 rfl (lv_at hl 0 rfl) ?_
  refine g_Vv (As := []) (rest := []) (wr := []) ⟨hx, hb, hml, hown, hts⟩ (c_MM_quote_0 l D Z kI a0 x0_nameHead x0_nameTail x0_nameOf x0_windows x0_koi x0_ready x0_tape x0_text x0_out x0_src H.size) (cw_MM_quote_0 hts k_1170 ⟨Nat.le_of_ble_eq_true rfl, Nat.le_of_ble_eq_true rfl⟩) hK hZ hP hD hS hA [0] [] (g_recv hK hP (ci := 9) (q0 := 0) rfl rfl) rfl rfl (by decide) (by decide) (by decide) rfl hl.1 rfl (Nat.le_of_ble_eq_true rfl) d_MM_code_46 ⟨Nat.zero_le _, Nat.zero_le _⟩ (fun u_1 H locs hw hP hD hS => ?_)
  have hP : va_P D vwCl [(a0, .inr (9, [.ref x0_nameHead, .ref x0_nameTail, .ref x0_nameOf, .ref x0_windows, .ref x0_koi, .int 0, .ref x0_ready, .ref x0_tape, .int 0, .ref x0_text, .int 0, .ref x0_out, .ref x0_src, .int 0, .int 0, .int 0, .int 0, .int 0, .int 0, .int 0, .int 0, .int 0, .int 0]))] H := hP
  have hD : va_D A [(a0, .inr (9, [.ref x0_nameHead, .ref x0_nameTail, .ref x0_nameOf, .ref x0_windows, .ref x0_koi, .int 0, .ref x0_ready, .ref x0_tape, .int 0, .ref x0_text, .int 0, .ref x0_out, .ref x0_src, .int 0, .int 0, .int 0, .int 0, .int 0, .int 0, .int 0, .int 0, .int 0, .int 0]))] := hD
  refine lv_aload_n hx hb d_MM_code_49 rfl (lv_at hl 0 rfl) ?_
  refine va_get (D := D) (ci := 9) (v := .int 0) (C := "MailCharactersModel") (T := F_MM) (N := 23) hx hb hts i_MM hown hK hP 0 rfl rfl 13 (by decide) (hts _ k_886) (fun _ h9 => h9) rfl d_MM_code_50 ?_
  refine lv_sipush (v := 1500) hx hb d_MM_code_53 (by decide) ?_
  refine lv_icmp_le (tgt := 66) hx hb d_MM_code_56 (by decide) (fun _ => ?_) (fun h9 => absurd h9 (by decide +kernel))
  refine lv_aload_n hx hb d_MM_code_66 rfl (lv_at hl 0 rfl) ?_
  refine g_Vv (As := []) (rest := []) (wr := []) ⟨hx, hb, hml, hown, hts⟩ (c_MM_outToTape_0 l D Z kI a0 x0_nameHead x0_nameTail x0_nameOf x0_windows x0_koi x0_ready x0_tape x0_text x0_out x0_src H.size) (cw_MM_outToTape_0 hts k_1023 ⟨Nat.le_of_ble_eq_true rfl, Nat.le_of_ble_eq_true rfl⟩) hK hZ hP hD hS hA [0] [] (g_recv hK hP (ci := 9) (q0 := 0) rfl rfl) rfl rfl (by decide) (by decide) (by decide) rfl hl.1 rfl (Nat.le_of_ble_eq_true rfl) d_MM_code_67 ⟨Nat.zero_le _, Nat.zero_le _⟩ (fun u_2 H locs hw hP hD hS => ?_)
  have hP : va_P D vwCl [(a0, .inr (9, [.ref x0_nameHead, .ref x0_nameTail, .ref x0_nameOf, .ref x0_windows, .ref x0_koi, .int 0, .ref x0_ready, .ref x0_tape, .int 0, .ref x0_text, .int 0, .ref x0_out, .ref x0_src, .int 0, .int 0, .int 0, .int 0, .int 0, .int 0, .int 0, .int 0, .int 0, .int 0]))] H := hP
  have hD : va_D A [(a0, .inr (9, [.ref x0_nameHead, .ref x0_nameTail, .ref x0_nameOf, .ref x0_windows, .ref x0_koi, .int 0, .ref x0_ready, .ref x0_tape, .int 0, .ref x0_text, .int 0, .ref x0_out, .ref x0_src, .int 0, .int 0, .int 0, .int 0, .int 0, .int 0, .int 0, .int 0, .int 0, .int 0]))] := hD
  refine lv_aload_n hx hb d_MM_code_70 rfl (lv_at hl 0 rfl) ?_
  refine va_get (D := D) (ci := 9) (v := .int 0) (C := "MailCharactersModel") (T := F_MM) (N := 23) hx hb hts i_MM hown hK hP 0 rfl rfl 8 (by decide) (hts _ k_881) (fun _ h9 => h9) rfl d_MM_code_71 ?_
  exact hret 0 () _ _ _ _ d_MM_code_74 rfl rfl hP hD hS
theorem cw_MM_code_1 {R : Room} {s : State} {args : Array Value} {own : String} {idx : Nat} (hts : ∀ w ∈ gW, w.before args s = true) (hl : Cond.methodLink own idx y_MM_code ∈ gW) (hR : rm_MM_code_1.frames + 1 ≤ R.frames ∧ 8 + (2 + 11) + rm_MM_code_1.locals ≤ R.locals) : CallW R s args own "MailCharactersModel" idx y_MM_code b_MM_code 2 (some .int) w_MM_code rm_MM_code_1 0 0 1 := cwV 1 hts (gW_V hl k_1159 k_1160 k_77 k_1161) rfl rfl rfl (by decide +kernel) hR
def rm_MM_code_2 : Room := { frames := 0, cells := 0, slots := 0, locals := 0 }
set_option maxHeartbeats 4000000 in
set_option maxRecDepth 100000 in
theorem c_MM_code_2 (l : Launch) (D : va_G) (Z : gZT) (kI : ClassId) (a0 : Nat) (x0_nameHead : Nat) (x0_nameTail : Nat) (x0_nameOf : Nat) (x0_windows : Nat) (x0_koi : Nat) (x0_ready : Nat) (x0_tape : Nat) (x0_text : Nat) (x0_out : Nat) (x0_src : Nat) (sz : Nat) (p1 : Int32) (hpre0 : ¬ p1 = 1) (hpre1 : ¬ p1 = 2) : gMi l y_MM_code w_MM_code rm_MM_code_2 D Z kI [.ref a0, .int p1] sz [(a0, .inr (9, [.ref x0_nameHead, .ref x0_nameTail, .ref x0_nameOf, .ref x0_windows, .ref x0_koi, .int 0, .ref x0_ready, .ref x0_tape, .int 0, .ref x0_text, .int 0, .ref x0_out, .ref x0_src, .int 0, .int 0, .int 0, .int 0, .int 0, .int 0, .int 0, .int 0, .int 0, .int 0]))] (fun (r : Int32) (_u : Unit) => r = 0) (fun (_u : Unit) => ([(a0, .inr (9, [.ref x0_nameHead, .ref x0_nameTail, .ref x0_nameOf, .ref x0_windows, .ref x0_koi, .int 1, .ref x0_ready, .ref x0_tape, .int 0, .ref x0_text, .int 0, .ref x0_out, .ref x0_src, .int 0, .int 0, .int 0, .int 0, .int 0, .int 0, .int 0, .int 0, .int 0, .int 0]))] : va_W)) := by
  refine g_ofi (cc := b_MM_code) (maxL := 2) (ty := .int) (by decide) rfl (Nat.le_of_ble_eq_true rfl) ?_
  intro p e s m below meth c A Q H ls hx hb hml hown hts hA hK hZ hP hD hS hl hret
  have hown : s.vm.findClass "MailCharactersModel" = some m.cls := hown
  have hl : lv_has ls 2 [(0, .ref a0), (1, .int p1)] := hl
  refine lv_aload_n hx hb d_MM_code_0 rfl (lv_at hl 0 rfl) ?_
  refine lv_iload_n hx hb d_MM_code_1 rfl (lv_at hl 1 rfl) ?_
  refine lv_iconst (v := 1) hx hb d_MM_code_2 (by decide) ?_
  refine lv_icmp_eq (tgt := 15) hx hb d_MM_code_3 (by decide) (fun h9 => absurd h9 hpre0) (fun _ => ?_)
  refine lv_iload_n hx hb d_MM_code_6 rfl (lv_at hl 1 rfl) ?_
  refine lv_iconst (v := 2) hx hb d_MM_code_7 (by decide) ?_
  refine lv_icmp_eq (tgt := 15) hx hb d_MM_code_8 (by decide) (fun h9 => absurd h9 hpre1) (fun _ => ?_)
  refine lv_iconst (v := 1) hx hb d_MM_code_11 (by decide) ?_
  refine lv_goto (tgt := 16) hx hb d_MM_code_12 (by decide) ?_
  refine va_put (D := D) (ci := 9) (v := .int 1) (ty := .int) (C := "MailCharactersModel") (T := F_MM) (N := 23) hx hb hts i_MM t_MM t_MM_ok n_MM hown hK hP hD hS 0 rfl rfl 5 (by decide) (hts _ k_878) (fun _ h9 => h9) rfl (by decide +kernel) rfl rfl (Nat.le_of_ble_eq_true rfl) d_MM_code_16 (fun H locs hP hD hS => ?_)
  have hP : va_P D vwCl [(a0, .inr (9, [.ref x0_nameHead, .ref x0_nameTail, .ref x0_nameOf, .ref x0_windows, .ref x0_koi, .int 1, .ref x0_ready, .ref x0_tape, .int 0, .ref x0_text, .int 0, .ref x0_out, .ref x0_src, .int 0, .int 0, .int 0, .int 0, .int 0, .int 0, .int 0, .int 0, .int 0, .int 0]))] H := hP
  have hD : va_D A [(a0, .inr (9, [.ref x0_nameHead, .ref x0_nameTail, .ref x0_nameOf, .ref x0_windows, .ref x0_koi, .int 1, .ref x0_ready, .ref x0_tape, .int 0, .ref x0_text, .int 0, .ref x0_out, .ref x0_src, .int 0, .int 0, .int 0, .int 0, .int 0, .int 0, .int 0, .int 0, .int 0, .int 0]))] := hD
  refine lv_aload_n hx hb d_MM_code_19 rfl (lv_at hl 0 rfl) ?_
  refine va_get (D := D) (ci := 9) (v := .int 1) (C := "MailCharactersModel") (T := F_MM) (N := 23) hx hb hts i_MM hown hK hP 0 rfl rfl 5 (by decide) (hts _ k_878) (fun _ h9 => h9) rfl d_MM_code_20 ?_
  refine lv_if_le (tgt := 28) hx hb d_MM_code_23 (by decide) (fun h9 => absurd h9 (by decide +kernel)) (fun _ => ?_)
  refine lv_iconst (v := 0) hx hb d_MM_code_26 (by decide) ?_
  exact hret 0 () _ _ _ _ d_MM_code_27 rfl rfl hP hD hS
theorem cw_MM_code_2 {R : Room} {s : State} {args : Array Value} {own : String} {idx : Nat} (hts : ∀ w ∈ gW, w.before args s = true) (hl : Cond.methodLink own idx y_MM_code ∈ gW) (hR : rm_MM_code_2.frames + 1 ≤ R.frames ∧ 8 + (2 + 11) + rm_MM_code_2.locals ≤ R.locals) : CallW R s args own "MailCharactersModel" idx y_MM_code b_MM_code 2 (some .int) w_MM_code rm_MM_code_2 0 0 1 := cwV 1 hts (gW_V hl k_1159 k_1160 k_77 k_1161) rfl rfl rfl (by decide +kernel) hR
def rm_MM_byteAt_0 : Room := { frames := 0, cells := 0, slots := 0, locals := 0 }
set_option maxHeartbeats 4000000 in
set_option maxRecDepth 100000 in
theorem c_MM_byteAt_0 (l : Launch) (D : va_G) (Z : gZT) (kI : ClassId) (a0 : Nat) (x0_nameHead : Nat) (x0_nameTail : Nat) (x0_nameOf : Nat) (x0_windows : Nat) (x0_koi : Nat) (x0_ready : Nat) (x0_tape : Nat) (x0_text : Nat) (x0_out : Nat) (x0_src : Nat) (sz : Nat) (p1 : Int32) (hpre0 : p1 < 0) : gMi l y_MM_byteAt w_MM_byteAt rm_MM_byteAt_0 D Z kI [.ref a0, .int p1] sz [(a0, .inr (9, [.ref x0_nameHead, .ref x0_nameTail, .ref x0_nameOf, .ref x0_windows, .ref x0_koi, .int 0, .ref x0_ready, .ref x0_tape, .int 0, .ref x0_text, .int 0, .ref x0_out, .ref x0_src, .int 0, .int 0, .int 0, .int 0, .int 0, .int 0, .int 0, .int 0, .int 0, .int 0]))] (fun (r : Int32) (_u : Unit) => r = (-1)) (fun (_u : Unit) => ([(a0, .inr (9, [.ref x0_nameHead, .ref x0_nameTail, .ref x0_nameOf, .ref x0_windows, .ref x0_koi, .int 0, .ref x0_ready, .ref x0_tape, .int 0, .ref x0_text, .int 0, .ref x0_out, .ref x0_src, .int 0, .int 0, .int 0, .int 0, .int 0, .int 0, .int 0, .int 0, .int 0, .int 0]))] : va_W)) := by
  refine g_ofi (cc := b_MM_byteAt) (maxL := 2) (ty := .int) (by decide) rfl (Nat.le_of_ble_eq_true rfl) ?_
  intro p e s m below meth c A Q H ls hx hb hml hown hts hA hK hZ hP hD hS hl hret
  have hown : s.vm.findClass "MailCharactersModel" = some m.cls := hown
  have hl : lv_has ls 2 [(0, .ref a0), (1, .int p1)] := hl
  refine lv_aload_n hx hb d_MM_byteAt_0 rfl (lv_at hl 0 rfl) ?_
  refine lv_iconst (v := 0) hx hb d_MM_byteAt_1 (by decide) ?_
  refine va_put (D := D) (ci := 9) (v := .int 0) (ty := .int) (C := "MailCharactersModel") (T := F_MM) (N := 23) hx hb hts i_MM t_MM t_MM_ok n_MM hown hK hP hD hS 0 rfl rfl 5 (by decide) (hts _ k_878) (fun _ h9 => h9) rfl (by decide +kernel) rfl rfl (Nat.le_of_ble_eq_true rfl) d_MM_byteAt_2 (fun H locs hP hD hS => ?_)
  have hP : va_P D vwCl [(a0, .inr (9, [.ref x0_nameHead, .ref x0_nameTail, .ref x0_nameOf, .ref x0_windows, .ref x0_koi, .int 0, .ref x0_ready, .ref x0_tape, .int 0, .ref x0_text, .int 0, .ref x0_out, .ref x0_src, .int 0, .int 0, .int 0, .int 0, .int 0, .int 0, .int 0, .int 0, .int 0, .int 0]))] H := hP
  have hD : va_D A [(a0, .inr (9, [.ref x0_nameHead, .ref x0_nameTail, .ref x0_nameOf, .ref x0_windows, .ref x0_koi, .int 0, .ref x0_ready, .ref x0_tape, .int 0, .ref x0_text, .int 0, .ref x0_out, .ref x0_src, .int 0, .int 0, .int 0, .int 0, .int 0, .int 0, .int 0, .int 0, .int 0, .int 0]))] := hD
  refine lv_iload_n hx hb d_MM_byteAt_5 rfl (lv_at hl 1 rfl) ?_
  refine lv_if_lt (tgt := 30) hx hb d_MM_byteAt_6 (by decide) (fun _ => ?_) (fun h9 => absurd hpre0 h9)
  refine lv_iconst (v := (-1)) hx hb d_MM_byteAt_30 (by decide) ?_
  exact hret (-1) () _ _ _ _ d_MM_byteAt_31 rfl rfl hP hD hS
theorem cw_MM_byteAt_0 {R : Room} {s : State} {args : Array Value} {own : String} {idx : Nat} (hts : ∀ w ∈ gW, w.before args s = true) (hl : Cond.methodLink own idx y_MM_byteAt ∈ gW) (hR : rm_MM_byteAt_0.frames + 1 ≤ R.frames ∧ 8 + (2 + 11) + rm_MM_byteAt_0.locals ≤ R.locals) : CallW R s args own "MailCharactersModel" idx y_MM_byteAt b_MM_byteAt 2 (some .int) w_MM_byteAt rm_MM_byteAt_0 0 0 1 := cwV 1 hts (gW_V hl k_1183 k_1184 k_77 k_1185) rfl rfl rfl (by decide +kernel) hR
def rm_MM_byteAt_1 : Room := { frames := 0, cells := 0, slots := 0, locals := 0 }
set_option maxHeartbeats 4000000 in
set_option maxRecDepth 100000 in
theorem c_MM_byteAt_1 (l : Launch) (D : va_G) (Z : gZT) (kI : ClassId) (a0 : Nat) (x0_nameHead : Nat) (x0_nameTail : Nat) (x0_nameOf : Nat) (x0_windows : Nat) (x0_koi : Nat) (x0_ready : Nat) (x0_tape : Nat) (x0_text : Nat) (x0_out : Nat) (x0_src : Nat) (sz : Nat) (p1 : Int32) (hpre0 : ¬ p1 < 0) (hpre1 : 0 ≤ p1) : gMi l y_MM_byteAt w_MM_byteAt rm_MM_byteAt_1 D Z kI [.ref a0, .int p1] sz [(a0, .inr (9, [.ref x0_nameHead, .ref x0_nameTail, .ref x0_nameOf, .ref x0_windows, .ref x0_koi, .int 0, .ref x0_ready, .ref x0_tape, .int 0, .ref x0_text, .int 0, .ref x0_out, .ref x0_src, .int 0, .int 0, .int 0, .int 0, .int 0, .int 0, .int 0, .int 0, .int 0, .int 0]))] (fun (r : Int32) (_u : Unit) => r = (-1)) (fun (_u : Unit) => ([(a0, .inr (9, [.ref x0_nameHead, .ref x0_nameTail, .ref x0_nameOf, .ref x0_windows, .ref x0_koi, .int 0, .ref x0_ready, .ref x0_tape, .int 0, .ref x0_text, .int 0, .ref x0_out, .ref x0_src, .int 0, .int 0, .int 0, .int 0, .int 0, .int 0, .int 0, .int 0, .int 0, .int 0]))] : va_W)) := by
  refine g_ofi (cc := b_MM_byteAt) (maxL := 2) (ty := .int) (by decide) rfl (Nat.le_of_ble_eq_true rfl) ?_
  intro p e s m below meth c A Q H ls hx hb hml hown hts hA hK hZ hP hD hS hl hret
  have hown : s.vm.findClass "MailCharactersModel" = some m.cls := hown
  have hl : lv_has ls 2 [(0, .ref a0), (1, .int p1)] := hl
  refine lv_aload_n hx hb d_MM_byteAt_0 rfl (lv_at hl 0 rfl) ?_
  refine lv_iconst (v := 0) hx hb d_MM_byteAt_1 (by decide) ?_
  refine va_put (D := D) (ci := 9) (v := .int 0) (ty := .int) (C := "MailCharactersModel") (T := F_MM) (N := 23) hx hb hts i_MM t_MM t_MM_ok n_MM hown hK hP hD hS 0 rfl rfl 5 (by decide) (hts _ k_878) (fun _ h9 => h9) rfl (by decide +kernel) rfl rfl (Nat.le_of_ble_eq_true rfl) d_MM_byteAt_2 (fun H locs hP hD hS => ?_)
  have hP : va_P D vwCl [(a0, .inr (9, [.ref x0_nameHead, .ref x0_nameTail, .ref x0_nameOf, .ref x0_windows, .ref x0_koi, .int 0, .ref x0_ready, .ref x0_tape, .int 0, .ref x0_text, .int 0, .ref x0_out, .ref x0_src, .int 0, .int 0, .int 0, .int 0, .int 0, .int 0, .int 0, .int 0, .int 0, .int 0]))] H := hP
  have hD : va_D A [(a0, .inr (9, [.ref x0_nameHead, .ref x0_nameTail, .ref x0_nameOf, .ref x0_windows, .ref x0_koi, .int 0, .ref x0_ready, .ref x0_tape, .int 0, .ref x0_text, .int 0, .ref x0_out, .ref x0_src, .int 0, .int 0, .int 0, .int 0, .int 0, .int 0, .int 0, .int 0, .int 0, .int 0]))] := hD
  refine lv_iload_n hx hb d_MM_byteAt_5 rfl (lv_at hl 1 rfl) ?_
  refine lv_if_lt (tgt := 30) hx hb d_MM_byteAt_6 (by decide) (fun h9 => absurd h9 hpre0) (fun _ => ?_)
  refine lv_iload_n hx hb d_MM_byteAt_9 rfl (lv_at hl 1 rfl) ?_
  refine lv_aload_n hx hb d_MM_byteAt_10 rfl (lv_at hl 0 rfl) ?_
  refine va_get (D := D) (ci := 9) (v := .int 0) (C := "MailCharactersModel") (T := F_MM) (N := 23) hx hb hts i_MM hown hK hP 0 rfl rfl 8 (by decide) (hts _ k_881) (fun _ h9 => h9) rfl d_MM_byteAt_11 ?_
  refine lv_icmp_ge (tgt := 30) hx hb d_MM_byteAt_14 (by decide) (fun _ => ?_) (fun h9 => absurd hpre1 h9)
  refine lv_iconst (v := (-1)) hx hb d_MM_byteAt_30 (by decide) ?_
  exact hret (-1) () _ _ _ _ d_MM_byteAt_31 rfl rfl hP hD hS
theorem cw_MM_byteAt_1 {R : Room} {s : State} {args : Array Value} {own : String} {idx : Nat} (hts : ∀ w ∈ gW, w.before args s = true) (hl : Cond.methodLink own idx y_MM_byteAt ∈ gW) (hR : rm_MM_byteAt_1.frames + 1 ≤ R.frames ∧ 8 + (2 + 11) + rm_MM_byteAt_1.locals ≤ R.locals) : CallW R s args own "MailCharactersModel" idx y_MM_byteAt b_MM_byteAt 2 (some .int) w_MM_byteAt rm_MM_byteAt_1 0 0 1 := cwV 1 hts (gW_V hl k_1183 k_1184 k_77 k_1185) rfl rfl rfl (by decide +kernel) hR
def rm_MM_at_0 : Room := { frames := 0, cells := 0, slots := 0, locals := 0 }
set_option maxHeartbeats 4000000 in
set_option maxRecDepth 100000 in
theorem c_MM_at_0 (l : Launch) (D : va_G) (Z : gZT) (kI : ClassId) (a0 : Nat) (x0_nameHead : Nat) (x0_nameTail : Nat) (x0_nameOf : Nat) (x0_windows : Nat) (x0_koi : Nat) (x0_ready : Nat) (x0_tape : Nat) (x0_text : Nat) (x0_out : Nat) (x0_src : Nat) (sz : Nat) (p1 : Int32) (hpre0 : p1 < 0) : gMi l y_MM_at w_MM_at rm_MM_at_0 D Z kI [.ref a0, .int p1] sz [(a0, .inr (9, [.ref x0_nameHead, .ref x0_nameTail, .ref x0_nameOf, .ref x0_windows, .ref x0_koi, .int 0, .ref x0_ready, .ref x0_tape, .int 0, .ref x0_text, .int 0, .ref x0_out, .ref x0_src, .int 0, .int 0, .int 0, .int 0, .int 0, .int 0, .int 0, .int 0, .int 0, .int 0]))] (fun (r : Int32) (_u : Unit) => r = (-1)) (fun (_u : Unit) => ([(a0, .inr (9, [.ref x0_nameHead, .ref x0_nameTail, .ref x0_nameOf, .ref x0_windows, .ref x0_koi, .int 0, .ref x0_ready, .ref x0_tape, .int 0, .ref x0_text, .int 0, .ref x0_out, .ref x0_src, .int 0, .int 0, .int 0, .int 0, .int 0, .int 0, .int 0, .int 0, .int 0, .int 0]))] : va_W)) := by
  refine g_ofi (cc := b_MM_at) (maxL := 2) (ty := .int) (by decide) rfl (Nat.le_of_ble_eq_true rfl) ?_
  intro p e s m below meth c A Q H ls hx hb hml hown hts hA hK hZ hP hD hS hl hret
  have hown : s.vm.findClass "MailCharactersModel" = some m.cls := hown
  have hl : lv_has ls 2 [(0, .ref a0), (1, .int p1)] := hl
  refine lv_aload_n hx hb d_MM_at_0 rfl (lv_at hl 0 rfl) ?_
  refine lv_iconst (v := 0) hx hb d_MM_at_1 (by decide) ?_
  refine va_put (D := D) (ci := 9) (v := .int 0) (ty := .int) (C := "MailCharactersModel") (T := F_MM) (N := 23) hx hb hts i_MM t_MM t_MM_ok n_MM hown hK hP hD hS 0 rfl rfl 5 (by decide) (hts _ k_878) (fun _ h9 => h9) rfl (by decide +kernel) rfl rfl (Nat.le_of_ble_eq_true rfl) d_MM_at_2 (fun H locs hP hD hS => ?_)
  have hP : va_P D vwCl [(a0, .inr (9, [.ref x0_nameHead, .ref x0_nameTail, .ref x0_nameOf, .ref x0_windows, .ref x0_koi, .int 0, .ref x0_ready, .ref x0_tape, .int 0, .ref x0_text, .int 0, .ref x0_out, .ref x0_src, .int 0, .int 0, .int 0, .int 0, .int 0, .int 0, .int 0, .int 0, .int 0, .int 0]))] H := hP
  have hD : va_D A [(a0, .inr (9, [.ref x0_nameHead, .ref x0_nameTail, .ref x0_nameOf, .ref x0_windows, .ref x0_koi, .int 0, .ref x0_ready, .ref x0_tape, .int 0, .ref x0_text, .int 0, .ref x0_out, .ref x0_src, .int 0, .int 0, .int 0, .int 0, .int 0, .int 0, .int 0, .int 0, .int 0, .int 0]))] := hD
  refine lv_iload_n hx hb d_MM_at_5 rfl (lv_at hl 1 rfl) ?_
  refine lv_if_lt (tgt := 26) hx hb d_MM_at_6 (by decide) (fun _ => ?_) (fun h9 => absurd hpre0 h9)
  refine lv_iconst (v := (-1)) hx hb d_MM_at_26 (by decide) ?_
  exact hret (-1) () _ _ _ _ d_MM_at_27 rfl rfl hP hD hS
theorem cw_MM_at_0 {R : Room} {s : State} {args : Array Value} {own : String} {idx : Nat} (hts : ∀ w ∈ gW, w.before args s = true) (hl : Cond.methodLink own idx y_MM_at ∈ gW) (hR : rm_MM_at_0.frames + 1 ≤ R.frames ∧ 8 + (2 + 11) + rm_MM_at_0.locals ≤ R.locals) : CallW R s args own "MailCharactersModel" idx y_MM_at b_MM_at 2 (some .int) w_MM_at rm_MM_at_0 0 0 1 := cwV 1 hts (gW_V hl k_1187 k_1188 k_77 k_1189) rfl rfl rfl (by decide +kernel) hR
def rm_MM_at_1 : Room := { frames := 0, cells := 0, slots := 0, locals := 0 }
set_option maxHeartbeats 4000000 in
set_option maxRecDepth 100000 in
theorem c_MM_at_1 (l : Launch) (D : va_G) (Z : gZT) (kI : ClassId) (a0 : Nat) (x0_nameHead : Nat) (x0_nameTail : Nat) (x0_nameOf : Nat) (x0_windows : Nat) (x0_koi : Nat) (x0_ready : Nat) (x0_tape : Nat) (x0_text : Nat) (x0_out : Nat) (x0_src : Nat) (sz : Nat) (p1 : Int32) (hpre0 : ¬ p1 < 0) (hpre1 : 0 ≤ p1) : gMi l y_MM_at w_MM_at rm_MM_at_1 D Z kI [.ref a0, .int p1] sz [(a0, .inr (9, [.ref x0_nameHead, .ref x0_nameTail, .ref x0_nameOf, .ref x0_windows, .ref x0_koi, .int 0, .ref x0_ready, .ref x0_tape, .int 0, .ref x0_text, .int 0, .ref x0_out, .ref x0_src, .int 0, .int 0, .int 0, .int 0, .int 0, .int 0, .int 0, .int 0, .int 0, .int 0]))] (fun (r : Int32) (_u : Unit) => r = (-1)) (fun (_u : Unit) => ([(a0, .inr (9, [.ref x0_nameHead, .ref x0_nameTail, .ref x0_nameOf, .ref x0_windows, .ref x0_koi, .int 0, .ref x0_ready, .ref x0_tape, .int 0, .ref x0_text, .int 0, .ref x0_out, .ref x0_src, .int 0, .int 0, .int 0, .int 0, .int 0, .int 0, .int 0, .int 0, .int 0, .int 0]))] : va_W)) := by
  refine g_ofi (cc := b_MM_at) (maxL := 2) (ty := .int) (by decide) rfl (Nat.le_of_ble_eq_true rfl) ?_
  intro p e s m below meth c A Q H ls hx hb hml hown hts hA hK hZ hP hD hS hl hret
  have hown : s.vm.findClass "MailCharactersModel" = some m.cls := hown
  have hl : lv_has ls 2 [(0, .ref a0), (1, .int p1)] := hl
  refine lv_aload_n hx hb d_MM_at_0 rfl (lv_at hl 0 rfl) ?_
  refine lv_iconst (v := 0) hx hb d_MM_at_1 (by decide) ?_
  refine va_put (D := D) (ci := 9) (v := .int 0) (ty := .int) (C := "MailCharactersModel") (T := F_MM) (N := 23) hx hb hts i_MM t_MM t_MM_ok n_MM hown hK hP hD hS 0 rfl rfl 5 (by decide) (hts _ k_878) (fun _ h9 => h9) rfl (by decide +kernel) rfl rfl (Nat.le_of_ble_eq_true rfl) d_MM_at_2 (fun H locs hP hD hS => ?_)
  have hP : va_P D vwCl [(a0, .inr (9, [.ref x0_nameHead, .ref x0_nameTail, .ref x0_nameOf, .ref x0_windows, .ref x0_koi, .int 0, .ref x0_ready, .ref x0_tape, .int 0, .ref x0_text, .int 0, .ref x0_out, .ref x0_src, .int 0, .int 0, .int 0, .int 0, .int 0, .int 0, .int 0, .int 0, .int 0, .int 0]))] H := hP
  have hD : va_D A [(a0, .inr (9, [.ref x0_nameHead, .ref x0_nameTail, .ref x0_nameOf, .ref x0_windows, .ref x0_koi, .int 0, .ref x0_ready, .ref x0_tape, .int 0, .ref x0_text, .int 0, .ref x0_out, .ref x0_src, .int 0, .int 0, .int 0, .int 0, .int 0, .int 0, .int 0, .int 0, .int 0, .int 0]))] := hD
  refine lv_iload_n hx hb d_MM_at_5 rfl (lv_at hl 1 rfl) ?_
  refine lv_if_lt (tgt := 26) hx hb d_MM_at_6 (by decide) (fun h9 => absurd h9 hpre0) (fun _ => ?_)
  refine lv_iload_n hx hb d_MM_at_9 rfl (lv_at hl 1 rfl) ?_
  refine lv_aload_n hx hb d_MM_at_10 rfl (lv_at hl 0 rfl) ?_
  refine va_get (D := D) (ci := 9) (v := .int 0) (C := "MailCharactersModel") (T := F_MM) (N := 23) hx hb hts i_MM hown hK hP 0 rfl rfl 10 (by decide) (hts _ k_883) (fun _ h9 => h9) rfl d_MM_at_11 ?_
  refine lv_icmp_ge (tgt := 26) hx hb d_MM_at_14 (by decide) (fun _ => ?_) (fun h9 => absurd hpre1 h9)
  refine lv_iconst (v := (-1)) hx hb d_MM_at_26 (by decide) ?_
  exact hret (-1) () _ _ _ _ d_MM_at_27 rfl rfl hP hD hS
theorem cw_MM_at_1 {R : Room} {s : State} {args : Array Value} {own : String} {idx : Nat} (hts : ∀ w ∈ gW, w.before args s = true) (hl : Cond.methodLink own idx y_MM_at ∈ gW) (hR : rm_MM_at_1.frames + 1 ≤ R.frames ∧ 8 + (2 + 11) + rm_MM_at_1.locals ≤ R.locals) : CallW R s args own "MailCharactersModel" idx y_MM_at b_MM_at 2 (some .int) w_MM_at rm_MM_at_1 0 0 1 := cwV 1 hts (gW_V hl k_1187 k_1188 k_77 k_1189) rfl rfl rfl (by decide +kernel) hR
def rm_MM_count_0 : Room := { frames := 0, cells := 0, slots := 0, locals := 0 }
set_option maxHeartbeats 4000000 in
set_option maxRecDepth 100000 in
theorem c_MM_count_0 (l : Launch) (D : va_G) (Z : gZT) (kI : ClassId) (a0 : Nat) (x0_nameHead : Nat) (x0_nameTail : Nat) (x0_nameOf : Nat) (x0_windows : Nat) (x0_koi : Nat) (x0_ready : Nat) (x0_tape : Nat) (x0_text : Nat) (x0_out : Nat) (x0_src : Nat) (sz : Nat) : gMi l y_MM_count w_MM_count rm_MM_count_0 D Z kI [.ref a0, .int 0] sz [(a0, .inr (9, [.ref x0_nameHead, .ref x0_nameTail, .ref x0_nameOf, .ref x0_windows, .ref x0_koi, .int 0, .ref x0_ready, .ref x0_tape, .int 0, .ref x0_text, .int 0, .ref x0_out, .ref x0_src, .int 0, .int 0, .int 0, .int 0, .int 0, .int 0, .int 0, .int 0, .int 0, .int 0]))] (fun (r : Int32) (_u : Unit) => r = 0) (fun (_u : Unit) => ([(a0, .inr (9, [.ref x0_nameHead, .ref x0_nameTail, .ref x0_nameOf, .ref x0_windows, .ref x0_koi, .int 0, .ref x0_ready, .ref x0_tape, .int 0, .ref x0_text, .int 0, .ref x0_out, .ref x0_src, .int 0, .int 0, .int 0, .int 0, .int 0, .int 0, .int 0, .int 0, .int 0, .int 0]))] : va_W)) := by
  refine g_ofi (cc := b_MM_count) (maxL := 4) (ty := .int) (by decide) rfl (Nat.le_of_ble_eq_true rfl) ?_
  intro p e s m below meth c A Q H ls hx hb hml hown hts hA hK hZ hP hD hS hl hret
  have hown : s.vm.findClass "MailCharactersModel" = some m.cls := hown
  have hl : lv_has ls 4 [(0, .ref a0), (1, .int 0)] := hl
  refine lv_aload_n hx hb d_MM_count_0 rfl (lv_at hl 0 rfl) ?_
  refine lv_iconst (v := 0) hx hb d_MM_count_1 (by decide) ?_
  refine va_put (D := D) (ci := 9) (v := .int 0) (ty := .int) (C := "MailCharactersModel") (T := F_MM) (N := 23) hx hb hts i_MM t_MM t_MM_ok n_MM hown hK hP hD hS 0 rfl rfl 5 (by decide) (hts _ k_878) (fun _ h9 => h9) rfl (by decide +kernel) rfl rfl (Nat.le_of_ble_eq_true rfl) d_MM_count_2 (fun H locs hP hD hS => ?_)
  have hP : va_P D vwCl [(a0, .inr (9, [.ref x0_nameHead, .ref x0_nameTail, .ref x0_nameOf, .ref x0_windows, .ref x0_koi, .int 0, .ref x0_ready, .ref x0_tape, .int 0, .ref x0_text, .int 0, .ref x0_out, .ref x0_src, .int 0, .int 0, .int 0, .int 0, .int 0, .int 0, .int 0, .int 0, .int 0, .int 0]))] H := hP
  have hD : va_D A [(a0, .inr (9, [.ref x0_nameHead, .ref x0_nameTail, .ref x0_nameOf, .ref x0_windows, .ref x0_koi, .int 0, .ref x0_ready, .ref x0_tape, .int 0, .ref x0_text, .int 0, .ref x0_out, .ref x0_src, .int 0, .int 0, .int 0, .int 0, .int 0, .int 0, .int 0, .int 0, .int 0, .int 0]))] := hD
  refine lv_iload_n hx hb d_MM_count_5 rfl (lv_at hl 1 rfl) ?_
  refine lv_iconst (v := 2) hx hb d_MM_count_6 (by decide) ?_
  refine lv_icmp_eq (tgt := 35) hx hb d_MM_count_7 (by decide) (fun h9 => absurd h9 (by decide +kernel)) (fun _ => ?_)
  refine lv_iload_n hx hb d_MM_count_10 rfl (lv_at hl 1 rfl) ?_
  refine lv_if_ne (tgt := 21) hx hb d_MM_count_11 (by decide) (fun h9 => absurd h9 (by decide +kernel)) (fun _ => ?_)
  refine lv_aload_n hx hb d_MM_count_14 rfl (lv_at hl 0 rfl) ?_
  refine va_get (D := D) (ci := 9) (v := .int 0) (C := "MailCharactersModel") (T := F_MM) (N := 23) hx hb hts i_MM hown hK hP 0 rfl rfl 8 (by decide) (hts _ k_881) (fun _ h9 => h9) rfl d_MM_count_15 ?_
  refine lv_goto (tgt := 34) hx hb d_MM_count_18 (by decide) ?_
  exact hret 0 () _ _ _ _ d_MM_count_34 rfl rfl hP hD hS
theorem cw_MM_count_0 {R : Room} {s : State} {args : Array Value} {own : String} {idx : Nat} (hts : ∀ w ∈ gW, w.before args s = true) (hl : Cond.methodLink own idx y_MM_count ∈ gW) (hR : rm_MM_count_0.frames + 1 ≤ R.frames ∧ 8 + (4 + 11) + rm_MM_count_0.locals ≤ R.locals) : CallW R s args own "MailCharactersModel" idx y_MM_count b_MM_count 4 (some .int) w_MM_count rm_MM_count_0 0 0 1 := cwV 1 hts (gW_V hl k_1191 k_1192 k_77 k_1193) rfl rfl rfl (by decide +kernel) hR
def rm_MM_count_1 : Room := { frames := 0, cells := 0, slots := 0, locals := 0 }
set_option maxHeartbeats 4000000 in
set_option maxRecDepth 100000 in
theorem c_MM_count_1 (l : Launch) (D : va_G) (Z : gZT) (kI : ClassId) (a0 : Nat) (x0_nameHead : Nat) (x0_nameTail : Nat) (x0_nameOf : Nat) (x0_windows : Nat) (x0_koi : Nat) (x0_ready : Nat) (x0_tape : Nat) (x0_text : Nat) (x0_out : Nat) (x0_src : Nat) (sz : Nat) : gMi l y_MM_count w_MM_count rm_MM_count_1 D Z kI [.ref a0, .int 1] sz [(a0, .inr (9, [.ref x0_nameHead, .ref x0_nameTail, .ref x0_nameOf, .ref x0_windows, .ref x0_koi, .int 0, .ref x0_ready, .ref x0_tape, .int 0, .ref x0_text, .int 0, .ref x0_out, .ref x0_src, .int 0, .int 0, .int 0, .int 0, .int 0, .int 0, .int 0, .int 0, .int 0, .int 0]))] (fun (r : Int32) (_u : Unit) => r = 0) (fun (_u : Unit) => ([(a0, .inr (9, [.ref x0_nameHead, .ref x0_nameTail, .ref x0_nameOf, .ref x0_windows, .ref x0_koi, .int 0, .ref x0_ready, .ref x0_tape, .int 0, .ref x0_text, .int 0, .ref x0_out, .ref x0_src, .int 0, .int 0, .int 0, .int 0, .int 0, .int 0, .int 0, .int 0, .int 0, .int 0]))] : va_W)) := by
  refine g_ofi (cc := b_MM_count) (maxL := 4) (ty := .int) (by decide) rfl (Nat.le_of_ble_eq_true rfl) ?_
  intro p e s m below meth c A Q H ls hx hb hml hown hts hA hK hZ hP hD hS hl hret
  have hown : s.vm.findClass "MailCharactersModel" = some m.cls := hown
  have hl : lv_has ls 4 [(0, .ref a0), (1, .int 1)] := hl
  refine lv_aload_n hx hb d_MM_count_0 rfl (lv_at hl 0 rfl) ?_
  refine lv_iconst (v := 0) hx hb d_MM_count_1 (by decide) ?_
  refine va_put (D := D) (ci := 9) (v := .int 0) (ty := .int) (C := "MailCharactersModel") (T := F_MM) (N := 23) hx hb hts i_MM t_MM t_MM_ok n_MM hown hK hP hD hS 0 rfl rfl 5 (by decide) (hts _ k_878) (fun _ h9 => h9) rfl (by decide +kernel) rfl rfl (Nat.le_of_ble_eq_true rfl) d_MM_count_2 (fun H locs hP hD hS => ?_)
  have hP : va_P D vwCl [(a0, .inr (9, [.ref x0_nameHead, .ref x0_nameTail, .ref x0_nameOf, .ref x0_windows, .ref x0_koi, .int 0, .ref x0_ready, .ref x0_tape, .int 0, .ref x0_text, .int 0, .ref x0_out, .ref x0_src, .int 0, .int 0, .int 0, .int 0, .int 0, .int 0, .int 0, .int 0, .int 0, .int 0]))] H := hP
  have hD : va_D A [(a0, .inr (9, [.ref x0_nameHead, .ref x0_nameTail, .ref x0_nameOf, .ref x0_windows, .ref x0_koi, .int 0, .ref x0_ready, .ref x0_tape, .int 0, .ref x0_text, .int 0, .ref x0_out, .ref x0_src, .int 0, .int 0, .int 0, .int 0, .int 0, .int 0, .int 0, .int 0, .int 0, .int 0]))] := hD
  refine lv_iload_n hx hb d_MM_count_5 rfl (lv_at hl 1 rfl) ?_
  refine lv_iconst (v := 2) hx hb d_MM_count_6 (by decide) ?_
  refine lv_icmp_eq (tgt := 35) hx hb d_MM_count_7 (by decide) (fun h9 => absurd h9 (by decide +kernel)) (fun _ => ?_)
  refine lv_iload_n hx hb d_MM_count_10 rfl (lv_at hl 1 rfl) ?_
  refine lv_if_ne (tgt := 21) hx hb d_MM_count_11 (by decide) (fun _ => ?_) (fun h9 => absurd h9 (by decide +kernel))
  refine lv_iload_n hx hb d_MM_count_21 rfl (lv_at hl 1 rfl) ?_
  refine lv_iconst (v := 1) hx hb d_MM_count_22 (by decide) ?_
  refine lv_icmp_ne (tgt := 33) hx hb d_MM_count_23 (by decide) (fun h9 => absurd h9 (by decide +kernel)) (fun _ => ?_)
  refine lv_aload_n hx hb d_MM_count_26 rfl (lv_at hl 0 rfl) ?_
  refine va_get (D := D) (ci := 9) (v := .int 0) (C := "MailCharactersModel") (T := F_MM) (N := 23) hx hb hts i_MM hown hK hP 0 rfl rfl 10 (by decide) (hts _ k_883) (fun _ h9 => h9) rfl d_MM_count_27 ?_
  refine lv_goto (tgt := 34) hx hb d_MM_count_30 (by decide) ?_
  exact hret 0 () _ _ _ _ d_MM_count_34 rfl rfl hP hD hS
theorem cw_MM_count_1 {R : Room} {s : State} {args : Array Value} {own : String} {idx : Nat} (hts : ∀ w ∈ gW, w.before args s = true) (hl : Cond.methodLink own idx y_MM_count ∈ gW) (hR : rm_MM_count_1.frames + 1 ≤ R.frames ∧ 8 + (4 + 11) + rm_MM_count_1.locals ≤ R.locals) : CallW R s args own "MailCharactersModel" idx y_MM_count b_MM_count 4 (some .int) w_MM_count rm_MM_count_1 0 0 1 := cwV 1 hts (gW_V hl k_1191 k_1192 k_77 k_1193) rfl rfl rfl (by decide +kernel) hR
def rm_MM_count_2 : Room := { frames := 0, cells := 0, slots := 0, locals := 0 }
set_option maxHeartbeats 4000000 in
set_option maxRecDepth 100000 in
theorem c_MM_count_2 (l : Launch) (D : va_G) (Z : gZT) (kI : ClassId) (a0 : Nat) (x0_nameHead : Nat) (x0_nameTail : Nat) (x0_nameOf : Nat) (x0_windows : Nat) (x0_koi : Nat) (x0_ready : Nat) (x0_tape : Nat) (x0_text : Nat) (x0_out : Nat) (x0_src : Nat) (sz : Nat) : gMi l y_MM_count w_MM_count rm_MM_count_2 D Z kI [.ref a0, .int 2] sz [(a0, .inr (9, [.ref x0_nameHead, .ref x0_nameTail, .ref x0_nameOf, .ref x0_windows, .ref x0_koi, .int 0, .ref x0_ready, .ref x0_tape, .int 0, .ref x0_text, .int 0, .ref x0_out, .ref x0_src, .int 0, .int 0, .int 0, .int 0, .int 0, .int 0, .int 0, .int 0, .int 0, .int 0]))] (fun (r : Int32) (_u : Unit) => r = 0) (fun (_u : Unit) => ([(a0, .inr (9, [.ref x0_nameHead, .ref x0_nameTail, .ref x0_nameOf, .ref x0_windows, .ref x0_koi, .int 0, .ref x0_ready, .ref x0_tape, .int 0, .ref x0_text, .int 0, .ref x0_out, .ref x0_src, .int 0, .int 0, .int 0, .int 0, .int 0, .int 0, .int 0, .int 0, .int 0, .int 0]))] : va_W)) := by
  refine g_ofi (cc := b_MM_count) (maxL := 4) (ty := .int) (by decide) rfl (Nat.le_of_ble_eq_true rfl) ?_
  intro p e s m below meth c A Q H ls hx hb hml hown hts hA hK hZ hP hD hS hl hret
  have hown : s.vm.findClass "MailCharactersModel" = some m.cls := hown
  have hl : lv_has ls 4 [(0, .ref a0), (1, .int 2)] := hl
  refine lv_aload_n hx hb d_MM_count_0 rfl (lv_at hl 0 rfl) ?_
  refine lv_iconst (v := 0) hx hb d_MM_count_1 (by decide) ?_
  refine va_put (D := D) (ci := 9) (v := .int 0) (ty := .int) (C := "MailCharactersModel") (T := F_MM) (N := 23) hx hb hts i_MM t_MM t_MM_ok n_MM hown hK hP hD hS 0 rfl rfl 5 (by decide) (hts _ k_878) (fun _ h9 => h9) rfl (by decide +kernel) rfl rfl (Nat.le_of_ble_eq_true rfl) d_MM_count_2 (fun H locs hP hD hS => ?_)
  have hP : va_P D vwCl [(a0, .inr (9, [.ref x0_nameHead, .ref x0_nameTail, .ref x0_nameOf, .ref x0_windows, .ref x0_koi, .int 0, .ref x0_ready, .ref x0_tape, .int 0, .ref x0_text, .int 0, .ref x0_out, .ref x0_src, .int 0, .int 0, .int 0, .int 0, .int 0, .int 0, .int 0, .int 0, .int 0, .int 0]))] H := hP
  have hD : va_D A [(a0, .inr (9, [.ref x0_nameHead, .ref x0_nameTail, .ref x0_nameOf, .ref x0_windows, .ref x0_koi, .int 0, .ref x0_ready, .ref x0_tape, .int 0, .ref x0_text, .int 0, .ref x0_out, .ref x0_src, .int 0, .int 0, .int 0, .int 0, .int 0, .int 0, .int 0, .int 0, .int 0, .int 0]))] := hD
  refine lv_iload_n hx hb d_MM_count_5 rfl (lv_at hl 1 rfl) ?_
  refine lv_iconst (v := 2) hx hb d_MM_count_6 (by decide) ?_
  refine lv_icmp_eq (tgt := 35) hx hb d_MM_count_7 (by decide) (fun _ => ?_) (fun h9 => absurd h9 (by decide +kernel))
  refine lv_iconst (v := 0) hx hb d_MM_count_35 (by decide) ?_
  refine lv_istore_n (lv' := [(2, .int 0), (0, .ref a0), (1, .int 2)]) hx hb d_MM_count_36 rfl hl (by decide) rfl (fun ls hl => ?_)
  refine lv_iconst (v := 0) hx hb d_MM_count_37 (by decide) ?_
  refine lv_istore_n (lv' := [(3, .int 0), (2, .int 0), (0, .ref a0), (1, .int 2)]) hx hb d_MM_count_38 rfl hl (by decide) rfl (fun ls hl => ?_)
  refine lv_iload_n hx hb d_MM_count_39 rfl (lv_at hl 0 rfl) ?_
  refine lv_aload_n hx hb d_MM_count_40 rfl (lv_at hl 2 rfl) ?_
  refine va_get (D := D) (ci := 9) (v := .int 0) (C := "MailCharactersModel") (T := F_MM) (N := 23) hx hb hts i_MM hown hK hP 0 rfl rfl 10 (by decide) (hts _ k_883) (fun _ h9 => h9) rfl d_MM_count_41 ?_
  refine lv_icmp_ge (tgt := 72) hx hb d_MM_count_44 (by decide) (fun _ => ?_) (fun h9 => absurd h9 (by decide +kernel))
  refine lv_iload_n hx hb d_MM_count_72 rfl (lv_at hl 1 rfl) ?_
  exact hret 0 () _ _ _ _ d_MM_count_73 rfl rfl hP hD hS
theorem cw_MM_count_2 {R : Room} {s : State} {args : Array Value} {own : String} {idx : Nat} (hts : ∀ w ∈ gW, w.before args s = true) (hl : Cond.methodLink own idx y_MM_count ∈ gW) (hR : rm_MM_count_2.frames + 1 ≤ R.frames ∧ 8 + (4 + 11) + rm_MM_count_2.locals ≤ R.locals) : CallW R s args own "MailCharactersModel" idx y_MM_count b_MM_count 4 (some .int) w_MM_count rm_MM_count_2 0 0 1 := cwV 1 hts (gW_V hl k_1191 k_1192 k_77 k_1193) rfl rfl rfl (by decide +kernel) hR
def rm_MM_count_3 : Room := { frames := 0, cells := 0, slots := 0, locals := 0 }
set_option maxHeartbeats 4000000 in
set_option maxRecDepth 100000 in
theorem c_MM_count_3 (l : Launch) (D : va_G) (Z : gZT) (kI : ClassId) (a0 : Nat) (x0_nameHead : Nat) (x0_nameTail : Nat) (x0_nameOf : Nat) (x0_windows : Nat) (x0_koi : Nat) (x0_ready : Nat) (x0_tape : Nat) (x0_text : Nat) (x0_out : Nat) (x0_src : Nat) (sz : Nat) (p1 : Int32) (hpre0 : ¬ p1 = 2) (hpre1 : ¬ p1 = 0) (hpre2 : ¬ p1 = 1) : gMi l y_MM_count w_MM_count rm_MM_count_3 D Z kI [.ref a0, .int p1] sz [(a0, .inr (9, [.ref x0_nameHead, .ref x0_nameTail, .ref x0_nameOf, .ref x0_windows, .ref x0_koi, .int 0, .ref x0_ready, .ref x0_tape, .int 0, .ref x0_text, .int 0, .ref x0_out, .ref x0_src, .int 0, .int 0, .int 0, .int 0, .int 0, .int 0, .int 0, .int 0, .int 0, .int 0]))] (fun (r : Int32) (_u : Unit) => r = (-1)) (fun (_u : Unit) => ([(a0, .inr (9, [.ref x0_nameHead, .ref x0_nameTail, .ref x0_nameOf, .ref x0_windows, .ref x0_koi, .int 0, .ref x0_ready, .ref x0_tape, .int 0, .ref x0_text, .int 0, .ref x0_out, .ref x0_src, .int 0, .int 0, .int 0, .int 0, .int 0, .int 0, .int 0, .int 0, .int 0, .int 0]))] : va_W)) := by
  refine g_ofi (cc := b_MM_count) (maxL := 4) (ty := .int) (by decide) rfl (Nat.le_of_ble_eq_true rfl) ?_
  intro p e s m below meth c A Q H ls hx hb hml hown hts hA hK hZ hP hD hS hl hret
  have hown : s.vm.findClass "MailCharactersModel" = some m.cls := hown
  have hl : lv_has ls 4 [(0, .ref a0), (1, .int p1)] := hl
  refine lv_aload_n hx hb d_MM_count_0 rfl (lv_at hl 0 rfl) ?_
  refine lv_iconst (v := 0) hx hb d_MM_count_1 (by decide) ?_
  refine va_put (D := D) (ci := 9) (v := .int 0) (ty := .int) (C := "MailCharactersModel") (T := F_MM) (N := 23) hx hb hts i_MM t_MM t_MM_ok n_MM hown hK hP hD hS 0 rfl rfl 5 (by decide) (hts _ k_878) (fun _ h9 => h9) rfl (by decide +kernel) rfl rfl (Nat.le_of_ble_eq_true rfl) d_MM_count_2 (fun H locs hP hD hS => ?_)
  have hP : va_P D vwCl [(a0, .inr (9, [.ref x0_nameHead, .ref x0_nameTail, .ref x0_nameOf, .ref x0_windows, .ref x0_koi, .int 0, .ref x0_ready, .ref x0_tape, .int 0, .ref x0_text, .int 0, .ref x0_out, .ref x0_src, .int 0, .int 0, .int 0, .int 0, .int 0, .int 0, .int 0, .int 0, .int 0, .int 0]))] H := hP
  have hD : va_D A [(a0, .inr (9, [.ref x0_nameHead, .ref x0_nameTail, .ref x0_nameOf, .ref x0_windows, .ref x0_koi, .int 0, .ref x0_ready, .ref x0_tape, .int 0, .ref x0_text, .int 0, .ref x0_out, .ref x0_src, .int 0, .int 0, .int 0, .int 0, .int 0, .int 0, .int 0, .int 0, .int 0, .int 0]))] := hD
  refine lv_iload_n hx hb d_MM_count_5 rfl (lv_at hl 1 rfl) ?_
  refine lv_iconst (v := 2) hx hb d_MM_count_6 (by decide) ?_
  refine lv_icmp_eq (tgt := 35) hx hb d_MM_count_7 (by decide) (fun h9 => absurd h9 hpre0) (fun _ => ?_)
  refine lv_iload_n hx hb d_MM_count_10 rfl (lv_at hl 1 rfl) ?_
  refine lv_if_ne (tgt := 21) hx hb d_MM_count_11 (by decide) (fun _ => ?_) (fun h9 => absurd h9 hpre1)
  refine lv_iload_n hx hb d_MM_count_21 rfl (lv_at hl 1 rfl) ?_
  refine lv_iconst (v := 1) hx hb d_MM_count_22 (by decide) ?_
  refine lv_icmp_ne (tgt := 33) hx hb d_MM_count_23 (by decide) (fun _ => ?_) (fun h9 => absurd h9 hpre2)
  refine lv_iconst (v := (-1)) hx hb d_MM_count_33 (by decide) ?_
  exact hret (-1) () _ _ _ _ d_MM_count_34 rfl rfl hP hD hS
theorem cw_MM_count_3 {R : Room} {s : State} {args : Array Value} {own : String} {idx : Nat} (hts : ∀ w ∈ gW, w.before args s = true) (hl : Cond.methodLink own idx y_MM_count ∈ gW) (hR : rm_MM_count_3.frames + 1 ≤ R.frames ∧ 8 + (4 + 11) + rm_MM_count_3.locals ≤ R.locals) : CallW R s args own "MailCharactersModel" idx y_MM_count b_MM_count 4 (some .int) w_MM_count rm_MM_count_3 0 0 1 := cwV 1 hts (gW_V hl k_1191 k_1192 k_77 k_1193) rfl rfl rfl (by decide +kernel) hR
def rm_MM_thrown_0 : Room := { frames := 0, cells := 0, slots := 0, locals := 0 }
set_option maxHeartbeats 4000000 in
set_option maxRecDepth 100000 in
theorem c_MM_thrown_0 (l : Launch) (D : va_G) (Z : gZT) (kI : ClassId) (a0 : Nat) (x0_nameHead : Nat) (x0_nameTail : Nat) (x0_nameOf : Nat) (x0_windows : Nat) (x0_koi : Nat) (x0_ready : Nat) (x0_tape : Nat) (x0_text : Nat) (x0_out : Nat) (x0_src : Nat) (sz : Nat) : gMi l y_MM_thrown w_MM_thrown rm_MM_thrown_0 D Z kI [.ref a0] sz [(a0, .inr (9, [.ref x0_nameHead, .ref x0_nameTail, .ref x0_nameOf, .ref x0_windows, .ref x0_koi, .int 0, .ref x0_ready, .ref x0_tape, .int 0, .ref x0_text, .int 0, .ref x0_out, .ref x0_src, .int 0, .int 0, .int 0, .int 0, .int 0, .int 0, .int 0, .int 0, .int 0, .int 0]))] (fun (r : Int32) (_u : Unit) => r = 0) (fun (_u : Unit) => ([(a0, .inr (9, [.ref x0_nameHead, .ref x0_nameTail, .ref x0_nameOf, .ref x0_windows, .ref x0_koi, .int 0, .ref x0_ready, .ref x0_tape, .int 0, .ref x0_text, .int 0, .ref x0_out, .ref x0_src, .int 0, .int 0, .int 0, .int 0, .int 0, .int 0, .int 0, .int 0, .int 0, .int 0]))] : va_W)) := by
  refine g_ofi (cc := b_MM_thrown) (maxL := 1) (ty := .int) (by decide) rfl (Nat.le_of_ble_eq_true rfl) ?_
  intro p e s m below meth c A Q H ls hx hb hml hown hts hA hK hZ hP hD hS hl hret
  have hown : s.vm.findClass "MailCharactersModel" = some m.cls := hown
  have hl : lv_has ls 1 [(0, .ref a0)] := hl
  refine lv_aload_n hx hb d_MM_thrown_0 rfl (lv_at hl 0 rfl) ?_
  refine va_get (D := D) (ci := 9) (v := .int 0) (C := "MailCharactersModel") (T := F_MM) (N := 23) hx hb hts i_MM hown hK hP 0 rfl rfl 5 (by decide) (hts _ k_878) (fun _ h9 => h9) rfl d_MM_thrown_1 ?_
  exact hret 0 () _ _ _ _ d_MM_thrown_4 rfl rfl hP hD hS
theorem cw_MM_thrown_0 {R : Room} {s : State} {args : Array Value} {own : String} {idx : Nat} (hts : ∀ w ∈ gW, w.before args s = true) (hl : Cond.methodLink own idx y_MM_thrown ∈ gW) (hR : rm_MM_thrown_0.frames + 1 ≤ R.frames ∧ 8 + (1 + 11) + rm_MM_thrown_0.locals ≤ R.locals) : CallW R s args own "MailCharactersModel" idx y_MM_thrown b_MM_thrown 1 (some .int) w_MM_thrown rm_MM_thrown_0 0 0 0 := cwV 0 hts (gW_V hl k_945 k_946 k_77 k_947) rfl rfl rfl (by decide +kernel) hR
def rm_MM_thrown_1 : Room := { frames := 0, cells := 0, slots := 0, locals := 0 }
set_option maxHeartbeats 4000000 in
set_option maxRecDepth 100000 in
theorem c_MM_thrown_1 (l : Launch) (D : va_G) (Z : gZT) (kI : ClassId) (a0 : Nat) (x0_nameHead : Nat) (x0_nameTail : Nat) (x0_nameOf : Nat) (x0_windows : Nat) (x0_koi : Nat) (x0_ready : Nat) (x0_tape : Nat) (x0_text : Nat) (x0_out : Nat) (x0_src : Nat) (sz : Nat) : gMi l y_MM_thrown w_MM_thrown rm_MM_thrown_1 D Z kI [.ref a0] sz [(a0, .inr (9, [.ref x0_nameHead, .ref x0_nameTail, .ref x0_nameOf, .ref x0_windows, .ref x0_koi, .int 1, .ref x0_ready, .ref x0_tape, .int 0, .ref x0_text, .int 0, .ref x0_out, .ref x0_src, .int 0, .int 0, .int 0, .int 0, .int 0, .int 0, .int 0, .int 0, .int 0, .int 0]))] (fun (r : Int32) (_u : Unit) => r = 1) (fun (_u : Unit) => ([(a0, .inr (9, [.ref x0_nameHead, .ref x0_nameTail, .ref x0_nameOf, .ref x0_windows, .ref x0_koi, .int 1, .ref x0_ready, .ref x0_tape, .int 0, .ref x0_text, .int 0, .ref x0_out, .ref x0_src, .int 0, .int 0, .int 0, .int 0, .int 0, .int 0, .int 0, .int 0, .int 0, .int 0]))] : va_W)) := by
  refine g_ofi (cc := b_MM_thrown) (maxL := 1) (ty := .int) (by decide) rfl (Nat.le_of_ble_eq_true rfl) ?_
  intro p e s m below meth c A Q H ls hx hb hml hown hts hA hK hZ hP hD hS hl hret
  have hown : s.vm.findClass "MailCharactersModel" = some m.cls := hown
  have hl : lv_has ls 1 [(0, .ref a0)] := hl
  refine lv_aload_n hx hb d_MM_thrown_0 rfl (lv_at hl 0 rfl) ?_
  refine va_get (D := D) (ci := 9) (v := .int 1) (C := "MailCharactersModel") (T := F_MM) (N := 23) hx hb hts i_MM hown hK hP 0 rfl rfl 5 (by decide) (hts _ k_878) (fun _ h9 => h9) rfl d_MM_thrown_1 ?_
  exact hret 1 () _ _ _ _ d_MM_thrown_4 rfl rfl hP hD hS
theorem cw_MM_thrown_1 {R : Room} {s : State} {args : Array Value} {own : String} {idx : Nat} (hts : ∀ w ∈ gW, w.before args s = true) (hl : Cond.methodLink own idx y_MM_thrown ∈ gW) (hR : rm_MM_thrown_1.frames + 1 ≤ R.frames ∧ 8 + (1 + 11) + rm_MM_thrown_1.locals ≤ R.locals) : CallW R s args own "MailCharactersModel" idx y_MM_thrown b_MM_thrown 1 (some .int) w_MM_thrown rm_MM_thrown_1 0 0 0 := cwV 0 hts (gW_V hl k_945 k_946 k_77 k_947) rfl rfl rfl (by decide +kernel) hR
def rm_MM_thrown_2 : Room := { frames := 0, cells := 0, slots := 0, locals := 0 }
set_option maxHeartbeats 4000000 in
set_option maxRecDepth 100000 in
theorem c_MM_thrown_2 (l : Launch) (D : va_G) (Z : gZT) (kI : ClassId) (a0 : Nat) (x0_nameHead : Nat) (x0_nameTail : Nat) (x0_nameOf : Nat) (x0_windows : Nat) (x0_koi : Nat) (x0_ready : Nat) (x0_tape : Nat) (x0_text : Nat) (x0_out : Nat) (x0_src : Nat) (sz : Nat) : gMi l y_MM_thrown w_MM_thrown rm_MM_thrown_2 D Z kI [.ref a0] sz [(a0, .inr (9, [.ref x0_nameHead, .ref x0_nameTail, .ref x0_nameOf, .ref x0_windows, .ref x0_koi, .int 0, .ref x0_ready, .ref x0_tape, .int 2, .ref x0_text, .int 0, .ref x0_out, .ref x0_src, .int 2, .int 0, .int 0, .int 0, .int 0, .int 0, .int 0, .int 0, .int 0, .int 0]))] (fun (r : Int32) (_u : Unit) => r = 0) (fun (_u : Unit) => ([(a0, .inr (9, [.ref x0_nameHead, .ref x0_nameTail, .ref x0_nameOf, .ref x0_windows, .ref x0_koi, .int 0, .ref x0_ready, .ref x0_tape, .int 2, .ref x0_text, .int 0, .ref x0_out, .ref x0_src, .int 2, .int 0, .int 0, .int 0, .int 0, .int 0, .int 0, .int 0, .int 0, .int 0]))] : va_W)) := by
  refine g_ofi (cc := b_MM_thrown) (maxL := 1) (ty := .int) (by decide) rfl (Nat.le_of_ble_eq_true rfl) ?_
  intro p e s m below meth c A Q H ls hx hb hml hown hts hA hK hZ hP hD hS hl hret
  have hown : s.vm.findClass "MailCharactersModel" = some m.cls := hown
  have hl : lv_has ls 1 [(0, .ref a0)] := hl
  refine lv_aload_n hx hb d_MM_thrown_0 rfl (lv_at hl 0 rfl) ?_
  refine va_get (D := D) (ci := 9) (v := .int 0) (C := "MailCharactersModel") (T := F_MM) (N := 23) hx hb hts i_MM hown hK hP 0 rfl rfl 5 (by decide) (hts _ k_878) (fun _ h9 => h9) rfl d_MM_thrown_1 ?_
  exact hret 0 () _ _ _ _ d_MM_thrown_4 rfl rfl hP hD hS
theorem cw_MM_thrown_2 {R : Room} {s : State} {args : Array Value} {own : String} {idx : Nat} (hts : ∀ w ∈ gW, w.before args s = true) (hl : Cond.methodLink own idx y_MM_thrown ∈ gW) (hR : rm_MM_thrown_2.frames + 1 ≤ R.frames ∧ 8 + (1 + 11) + rm_MM_thrown_2.locals ≤ R.locals) : CallW R s args own "MailCharactersModel" idx y_MM_thrown b_MM_thrown 1 (some .int) w_MM_thrown rm_MM_thrown_2 0 0 0 := cwV 0 hts (gW_V hl k_945 k_946 k_77 k_947) rfl rfl rfl (by decide +kernel) hR
def rm_MM_end_v : Room := { frames := 0, cells := 0, slots := 0, locals := 0 }
set_option maxHeartbeats 4000000 in
set_option maxRecDepth 100000 in
theorem c_MM_end_v (l : Launch) (D : va_G) (Z : gZT) (kI : ClassId) (a0 : Nat) (a1 : Nat) (a2 : Nat) (x0_nameHead : Nat) (x0_nameTail : Nat) (x0_nameOf : Nat) (x0_windows : Nat) (x0_koi : Nat) (x0_text : Nat) (x0_out : Nat) (x0_src : Nat) (sz : Nat) (f1 : Nat → Int32) (f2 : Nat → Int32) (n : Nat) (hn : n ≤ 20) : gMi l y_MM_end w_MM_end rm_MM_end_v D Z kI [.ref a0, .int (nI n)] sz [(a0, .inr (9, [.ref x0_nameHead, .ref x0_nameTail, .ref x0_nameOf, .ref x0_windows, .ref x0_koi, .int 0, .ref a2, .ref a1, .int 0, .ref x0_text, .int 0, .ref x0_out, .ref x0_src, .int 0, .int 0, .int 0, .int 0, .int 0, .int 0, .int 0, .int 0, .int 0, .int 0])), (a1, .inl ((D.1 100), 1500, .inl f1)), (a2, .inl ((D.1 100), 20, .inl f2))] (fun (r : Int32) (_u : (Nat → Int32) × (Nat → Int32)) => r = nI n) (fun (u : (Nat → Int32) × (Nat → Int32)) => ([(a0, .inr (9, [.ref x0_nameHead, .ref x0_nameTail, .ref x0_nameOf, .ref x0_windows, .ref x0_koi, .int 0, .ref a2, .ref a1, .int (nI n), .ref x0_text, .int 0, .ref x0_out, .ref x0_src, .int 0, .int 0, .int 0, .int 0, .int 0, .int 0, .int 0, .int 0, .int 0, .int 0])), (a1, .inl ((D.1 100), 1500, .inl u.1)), (a2, .inl ((D.1 100), 20, .inl u.2))] : va_W)) := by
  refine g_ofi (cc := b_MM_end) (maxL := 3) (ty := .int) (by decide) rfl (Nat.le_of_ble_eq_true rfl) ?_
  intro p e s m below meth c A Q H ls hx hb hml hown hts hA hK hZ hP hD hS hl hret
  have hown : s.vm.findClass "MailCharactersModel" = some m.cls := hown
  have hl : lv_has ls 3 [(0, .ref a0), (1, .int (nI n))] := hl
  have tl : ∀ (f1 f2 : Nat → Int32) (H : Heap) (locs : List Loc) (ls : Array Slot), va_P D vwCl [(a0, .inr (9, [.ref x0_nameHead, .ref x0_nameTail, .ref x0_nameOf, .ref x0_windows, .ref x0_koi, .int 0, .ref a2, .ref a1, .int (nI n), .ref x0_text, .int 0, .ref x0_out, .ref x0_src, .int 0, .int 0, .int 0, .int 0, .int 0, .int 0, .int 0, .int 0, .int 0, .int 0])), (a1, .inl ((D.1 100), 1500, .inl f1)), (a2, .inl ((D.1 100), 20, .inl f2))] H → va_D A [(a0, .inr (9, [.ref x0_nameHead, .ref x0_nameTail, .ref x0_nameOf, .ref x0_windows, .ref x0_koi, .int 0, .ref a2, .ref a1, .int (nI n), .ref x0_text, .int 0, .ref x0_out, .ref x0_src, .int 0, .int 0, .int 0, .int 0, .int 0, .int 0, .int 0, .int 0, .int 0, .int 0])), (a1, .inl ((D.1 100), 1500, .inl f1)), (a2, .inl ((D.1 100), 20, .inl f2))] → va_S A s.heap H locs → lv_has ls 3 [(0, .ref a0)] → W p l e rm_MM_end_v s m ([.ref a0, .int (nI n)] : List Value).toArray below meth c H locs 0 0 Q (F0 m 67 ls []) := by
    intro f1 f2 H locs ls hP hD hS hl
    refine lv_iconst (v := 0) hx hb d_MM_end_67 (by decide) ?_
    refine lv_istore_n (lv' := [(2, .int 0), (0, .ref a0)]) hx hb d_MM_end_68 rfl hl (by decide) rfl (fun ls hl => ?_)
    refine lv_iload_n hx hb d_MM_end_69 rfl (lv_at hl 0 rfl) ?_
    refine lv_bipush (v := 20) hx hb d_MM_end_70 (by decide) ?_
    refine lv_icmp_ge (tgt := 88) hx hb d_MM_end_72 (by decide) (fun h9 => absurd h9 (by decide +kernel)) (fun _ => ?_)
    refine lv_aload_n hx hb d_MM_end_75 rfl (lv_at hl 1 rfl) ?_
    refine va_get (D := D) (ci := 9) (v := .ref a2) (C := "MailCharactersModel") (T := F_MM) (N := 23) hx hb hts i_MM hown hK hP 0 rfl rfl 6 (by decide) (hts _ k_879) (fun _ h9 => h9) rfl d_MM_end_76 ?_
    refine lv_iload_n hx hb d_MM_end_79 rfl (lv_at hl 0 rfl) ?_
    refine lv_iconst (v := 0) hx hb d_MM_end_80 (by decide) ?_
    refine va_bast hx hb hK hP hD hS 2 1 rfl rfl (by unfold vp_in; decide +kernel) d_MM_end_81 (fun H locs hP hD hS => ?_)
    obtain ⟨f1z, hP, hD⟩ : ∃ f1z : Nat → Int32, va_P D vwCl [(a0, .inr (9, [.ref x0_nameHead, .ref x0_nameTail, .ref x0_nameOf, .ref x0_windows, .ref x0_koi, .int 0, .ref a2, .ref a1, .int (nI n), .ref x0_text, .int 0, .ref x0_out, .ref x0_src, .int 0, .int 0, .int 0, .int 0, .int 0, .int 0, .int 0, .int 0, .int 0, .int 0])), (a1, .inl ((D.1 100), 1500, .inl f1)), (a2, .inl ((D.1 100), 20, .inl f1z))] H ∧ va_D A [(a0, .inr (9, [.ref x0_nameHead, .ref x0_nameTail, .ref x0_nameOf, .ref x0_windows, .ref x0_koi, .int 0, .ref a2, .ref a1, .int (nI n), .ref x0_text, .int 0, .ref x0_out, .ref x0_src, .int 0, .int 0, .int 0, .int 0, .int 0, .int 0, .int 0, .int 0, .int 0, .int 0])), (a1, .inl ((D.1 100), 1500, .inl f1)), (a2, .inl ((D.1 100), 20, .inl f1z))] := ⟨_, hP, hD⟩
    refine lv_iinc (v := 1) (lv' := [(2, .int 1), (0, .ref a0)]) hx hb d_MM_end_82 hl (k := 0) rfl (by decide) (by decide) rfl (fun ls hl => ?_)
    refine lv_goto (tgt := 69) hx hb d_MM_end_85 (by decide) ?_
    refine lv_iload_n hx hb d_MM_end_69 rfl (lv_at hl 0 rfl) ?_
    refine lv_bipush (v := 20) hx hb d_MM_end_70 (by decide) ?_
    refine lv_icmp_ge (tgt := 88) hx hb d_MM_end_72 (by decide) (fun h9 => absurd h9 (by decide +kernel)) (fun _ => ?_)
    refine lv_aload_n hx hb d_MM_end_75 rfl (lv_at hl 1 rfl) ?_
    refine va_get (D := D) (ci := 9) (v := .ref a2) (C := "MailCharactersModel") (T := F_MM) (N := 23) hx hb hts i_MM hown hK hP 0 rfl rfl 6 (by decide) (hts _ k_879) (fun _ h9 => h9) rfl d_MM_end_76 ?_
    refine lv_iload_n hx hb d_MM_end_79 rfl (lv_at hl 0 rfl) ?_
    refine lv_iconst (v := 0) hx hb d_MM_end_80 (by decide) ?_
    refine va_bast hx hb hK hP hD hS 2 1 rfl rfl (by unfold vp_in; decide +kernel) d_MM_end_81 (fun H locs hP hD hS => ?_)
    obtain ⟨f2z, hP, hD⟩ : ∃ f2z : Nat → Int32, va_P D vwCl [(a0, .inr (9, [.ref x0_nameHead, .ref x0_nameTail, .ref x0_nameOf, .ref x0_windows, .ref x0_koi, .int 0, .ref a2, .ref a1, .int (nI n), .ref x0_text, .int 0, .ref x0_out, .ref x0_src, .int 0, .int 0, .int 0, .int 0, .int 0, .int 0, .int 0, .int 0, .int 0, .int 0])), (a1, .inl ((D.1 100), 1500, .inl f1)), (a2, .inl ((D.1 100), 20, .inl f2z))] H ∧ va_D A [(a0, .inr (9, [.ref x0_nameHead, .ref x0_nameTail, .ref x0_nameOf, .ref x0_windows, .ref x0_koi, .int 0, .ref a2, .ref a1, .int (nI n), .ref x0_text, .int 0, .ref x0_out, .ref x0_src, .int 0, .int 0, .int 0, .int 0, .int 0, .int 0, .int 0, .int 0, .int 0, .int 0])), (a1, .inl ((D.1 100), 1500, .inl f1)), (a2, .inl ((D.1 100), 20, .inl f2z))] := ⟨_, hP, hD⟩
    refine lv_iinc (v := 2) (lv' := [(2, .int 2), (0, .ref a0)]) hx hb d_MM_end_82 hl (k := 0) rfl (by decide) (by decide) rfl (fun ls hl => ?_)
    refine lv_goto (tgt := 69) hx hb d_MM_end_85 (by decide) ?_
    refine lv_iload_n hx hb d_MM_end_69 rfl (lv_at hl 0 rfl) ?_
    refine lv_bipush (v := 20) hx hb d_MM_end_70 (by decide) ?_
    refine lv_icmp_ge (tgt := 88) hx hb d_MM_end_72 (by decide) (fun h9 => absurd h9 (by decide +kernel)) (fun _ => ?_)
    refine lv_aload_n hx hb d_MM_end_75 rfl (lv_at hl 1 rfl) ?_
    refine va_get (D := D) (ci := 9) (v := .ref a2) (C := "MailCharactersModel") (T := F_MM) (N := 23) hx hb hts i_MM hown hK hP 0 rfl rfl 6 (by decide) (hts _ k_879) (fun _ h9 => h9) rfl d_MM_end_76 ?_
    refine lv_iload_n hx hb d_MM_end_79 rfl (lv_at hl 0 rfl) ?_
    refine lv_iconst (v := 0) hx hb d_MM_end_80 (by decide) ?_
    refine va_bast hx hb hK hP hD hS 2 1 rfl rfl (by unfold vp_in; decide +kernel) d_MM_end_81 (fun H locs hP hD hS => ?_)
    obtain ⟨f3z, hP, hD⟩ : ∃ f3z : Nat → Int32, va_P D vwCl [(a0, .inr (9, [.ref x0_nameHead, .ref x0_nameTail, .ref x0_nameOf, .ref x0_windows, .ref x0_koi, .int 0, .ref a2, .ref a1, .int (nI n), .ref x0_text, .int 0, .ref x0_out, .ref x0_src, .int 0, .int 0, .int 0, .int 0, .int 0, .int 0, .int 0, .int 0, .int 0, .int 0])), (a1, .inl ((D.1 100), 1500, .inl f1)), (a2, .inl ((D.1 100), 20, .inl f3z))] H ∧ va_D A [(a0, .inr (9, [.ref x0_nameHead, .ref x0_nameTail, .ref x0_nameOf, .ref x0_windows, .ref x0_koi, .int 0, .ref a2, .ref a1, .int (nI n), .ref x0_text, .int 0, .ref x0_out, .ref x0_src, .int 0, .int 0, .int 0, .int 0, .int 0, .int 0, .int 0, .int 0, .int 0, .int 0])), (a1, .inl ((D.1 100), 1500, .inl f1)), (a2, .inl ((D.1 100), 20, .inl f3z))] := ⟨_, hP, hD⟩
    refine lv_iinc (v := 3) (lv' := [(2, .int 3), (0, .ref a0)]) hx hb d_MM_end_82 hl (k := 0) rfl (by decide) (by decide) rfl (fun ls hl => ?_)
    refine lv_goto (tgt := 69) hx hb d_MM_end_85 (by decide) ?_
    refine lv_iload_n hx hb d_MM_end_69 rfl (lv_at hl 0 rfl) ?_
    refine lv_bipush (v := 20) hx hb d_MM_end_70 (by decide) ?_
    refine lv_icmp_ge (tgt := 88) hx hb d_MM_end_72 (by decide) (fun h9 => absurd h9 (by decide +kernel)) (fun _ => ?_)
    refine lv_aload_n hx hb d_MM_end_75 rfl (lv_at hl 1 rfl) ?_
    refine va_get (D := D) (ci := 9) (v := .ref a2) (C := "MailCharactersModel") (T := F_MM) (N := 23) hx hb hts i_MM hown hK hP 0 rfl rfl 6 (by decide) (hts _ k_879) (fun _ h9 => h9) rfl d_MM_end_76 ?_
    refine lv_iload_n hx hb d_MM_end_79 rfl (lv_at hl 0 rfl) ?_
    refine lv_iconst (v := 0) hx hb d_MM_end_80 (by decide) ?_
    refine va_bast hx hb hK hP hD hS 2 1 rfl rfl (by unfold vp_in; decide +kernel) d_MM_end_81 (fun H locs hP hD hS => ?_)
    obtain ⟨f4z, hP, hD⟩ : ∃ f4z : Nat → Int32, va_P D vwCl [(a0, .inr (9, [.ref x0_nameHead, .ref x0_nameTail, .ref x0_nameOf, .ref x0_windows, .ref x0_koi, .int 0, .ref a2, .ref a1, .int (nI n), .ref x0_text, .int 0, .ref x0_out, .ref x0_src, .int 0, .int 0, .int 0, .int 0, .int 0, .int 0, .int 0, .int 0, .int 0, .int 0])), (a1, .inl ((D.1 100), 1500, .inl f1)), (a2, .inl ((D.1 100), 20, .inl f4z))] H ∧ va_D A [(a0, .inr (9, [.ref x0_nameHead, .ref x0_nameTail, .ref x0_nameOf, .ref x0_windows, .ref x0_koi, .int 0, .ref a2, .ref a1, .int (nI n), .ref x0_text, .int 0, .ref x0_out, .ref x0_src, .int 0, .int 0, .int 0, .int 0, .int 0, .int 0, .int 0, .int 0, .int 0, .int 0])), (a1, .inl ((D.1 100), 1500, .inl f1)), (a2, .inl ((D.1 100), 20, .inl f4z))] := ⟨_, hP, hD⟩
    refine lv_iinc (v := 4) (lv' := [(2, .int 4), (0, .ref a0)]) hx hb d_MM_end_82 hl (k := 0) rfl (by decide) (by decide) rfl (fun ls hl => ?_)
    refine lv_goto (tgt := 69) hx hb d_MM_end_85 (by decide) ?_
    refine lv_iload_n hx hb d_MM_end_69 rfl (lv_at hl 0 rfl) ?_
    refine lv_bipush (v := 20) hx hb d_MM_end_70 (by decide) ?_
    refine lv_icmp_ge (tgt := 88) hx hb d_MM_end_72 (by decide) (fun h9 => absurd h9 (by decide +kernel)) (fun _ => ?_)
    refine lv_aload_n hx hb d_MM_end_75 rfl (lv_at hl 1 rfl) ?_
    refine va_get (D := D) (ci := 9) (v := .ref a2) (C := "MailCharactersModel") (T := F_MM) (N := 23) hx hb hts i_MM hown hK hP 0 rfl rfl 6 (by decide) (hts _ k_879) (fun _ h9 => h9) rfl d_MM_end_76 ?_
    refine lv_iload_n hx hb d_MM_end_79 rfl (lv_at hl 0 rfl) ?_
    refine lv_iconst (v := 0) hx hb d_MM_end_80 (by decide) ?_
    refine va_bast hx hb hK hP hD hS 2 1 rfl rfl (by unfold vp_in; decide +kernel) d_MM_end_81 (fun H locs hP hD hS => ?_)
    obtain ⟨f5z, hP, hD⟩ : ∃ f5z : Nat → Int32, va_P D vwCl [(a0, .inr (9, [.ref x0_nameHead, .ref x0_nameTail, .ref x0_nameOf, .ref x0_windows, .ref x0_koi, .int 0, .ref a2, .ref a1, .int (nI n), .ref x0_text, .int 0, .ref x0_out, .ref x0_src, .int 0, .int 0, .int 0, .int 0, .int 0, .int 0, .int 0, .int 0, .int 0, .int 0])), (a1, .inl ((D.1 100), 1500, .inl f1)), (a2, .inl ((D.1 100), 20, .inl f5z))] H ∧ va_D A [(a0, .inr (9, [.ref x0_nameHead, .ref x0_nameTail, .ref x0_nameOf, .ref x0_windows, .ref x0_koi, .int 0, .ref a2, .ref a1, .int (nI n), .ref x0_text, .int 0, .ref x0_out, .ref x0_src, .int 0, .int 0, .int 0, .int 0, .int 0, .int 0, .int 0, .int 0, .int 0, .int 0])), (a1, .inl ((D.1 100), 1500, .inl f1)), (a2, .inl ((D.1 100), 20, .inl f5z))] := ⟨_, hP, hD⟩
    refine lv_iinc (v := 5) (lv' := [(2, .int 5), (0, .ref a0)]) hx hb d_MM_end_82 hl (k := 0) rfl (by decide) (by decide) rfl (fun ls hl => ?_)
    refine lv_goto (tgt := 69) hx hb d_MM_end_85 (by decide) ?_
    refine lv_iload_n hx hb d_MM_end_69 rfl (lv_at hl 0 rfl) ?_
    refine lv_bipush (v := 20) hx hb d_MM_end_70 (by decide) ?_
    refine lv_icmp_ge (tgt := 88) hx hb d_MM_end_72 (by decide) (fun h9 => absurd h9 (by decide +kernel)) (fun _ => ?_)
    refine lv_aload_n hx hb d_MM_end_75 rfl (lv_at hl 1 rfl) ?_
    refine va_get (D := D) (ci := 9) (v := .ref a2) (C := "MailCharactersModel") (T := F_MM) (N := 23) hx hb hts i_MM hown hK hP 0 rfl rfl 6 (by decide) (hts _ k_879) (fun _ h9 => h9) rfl d_MM_end_76 ?_
    refine lv_iload_n hx hb d_MM_end_79 rfl (lv_at hl 0 rfl) ?_
    refine lv_iconst (v := 0) hx hb d_MM_end_80 (by decide) ?_
    refine va_bast hx hb hK hP hD hS 2 1 rfl rfl (by unfold vp_in; decide +kernel) d_MM_end_81 (fun H locs hP hD hS => ?_)
    obtain ⟨f6z, hP, hD⟩ : ∃ f6z : Nat → Int32, va_P D vwCl [(a0, .inr (9, [.ref x0_nameHead, .ref x0_nameTail, .ref x0_nameOf, .ref x0_windows, .ref x0_koi, .int 0, .ref a2, .ref a1, .int (nI n), .ref x0_text, .int 0, .ref x0_out, .ref x0_src, .int 0, .int 0, .int 0, .int 0, .int 0, .int 0, .int 0, .int 0, .int 0, .int 0])), (a1, .inl ((D.1 100), 1500, .inl f1)), (a2, .inl ((D.1 100), 20, .inl f6z))] H ∧ va_D A [(a0, .inr (9, [.ref x0_nameHead, .ref x0_nameTail, .ref x0_nameOf, .ref x0_windows, .ref x0_koi, .int 0, .ref a2, .ref a1, .int (nI n), .ref x0_text, .int 0, .ref x0_out, .ref x0_src, .int 0, .int 0, .int 0, .int 0, .int 0, .int 0, .int 0, .int 0, .int 0, .int 0])), (a1, .inl ((D.1 100), 1500, .inl f1)), (a2, .inl ((D.1 100), 20, .inl f6z))] := ⟨_, hP, hD⟩
    refine lv_iinc (v := 6) (lv' := [(2, .int 6), (0, .ref a0)]) hx hb d_MM_end_82 hl (k := 0) rfl (by decide) (by decide) rfl (fun ls hl => ?_)
    refine lv_goto (tgt := 69) hx hb d_MM_end_85 (by decide) ?_
    refine lv_iload_n hx hb d_MM_end_69 rfl (lv_at hl 0 rfl) ?_
    refine lv_bipush (v := 20) hx hb d_MM_end_70 (by decide) ?_
    refine lv_icmp_ge (tgt := 88) hx hb d_MM_end_72 (by decide) (fun h9 => absurd h9 (by decide +kernel)) (fun _ => ?_)
    refine lv_aload_n hx hb d_MM_end_75 rfl (lv_at hl 1 rfl) ?_
    refine va_get (D := D) (ci := 9) (v := .ref a2) (C := "MailCharactersModel") (T := F_MM) (N := 23) hx hb hts i_MM hown hK hP 0 rfl rfl 6 (by decide) (hts _ k_879) (fun _ h9 => h9) rfl d_MM_end_76 ?_
    refine lv_iload_n hx hb d_MM_end_79 rfl (lv_at hl 0 rfl) ?_
    refine lv_iconst (v := 0) hx hb d_MM_end_80 (by decide) ?_
    refine va_bast hx hb hK hP hD hS 2 1 rfl rfl (by unfold vp_in; decide +kernel) d_MM_end_81 (fun H locs hP hD hS => ?_)
    obtain ⟨f7z, hP, hD⟩ : ∃ f7z : Nat → Int32, va_P D vwCl [(a0, .inr (9, [.ref x0_nameHead, .ref x0_nameTail, .ref x0_nameOf, .ref x0_windows, .ref x0_koi, .int 0, .ref a2, .ref a1, .int (nI n), .ref x0_text, .int 0, .ref x0_out, .ref x0_src, .int 0, .int 0, .int 0, .int 0, .int 0, .int 0, .int 0, .int 0, .int 0, .int 0])), (a1, .inl ((D.1 100), 1500, .inl f1)), (a2, .inl ((D.1 100), 20, .inl f7z))] H ∧ va_D A [(a0, .inr (9, [.ref x0_nameHead, .ref x0_nameTail, .ref x0_nameOf, .ref x0_windows, .ref x0_koi, .int 0, .ref a2, .ref a1, .int (nI n), .ref x0_text, .int 0, .ref x0_out, .ref x0_src, .int 0, .int 0, .int 0, .int 0, .int 0, .int 0, .int 0, .int 0, .int 0, .int 0])), (a1, .inl ((D.1 100), 1500, .inl f1)), (a2, .inl ((D.1 100), 20, .inl f7z))] := ⟨_, hP, hD⟩
    refine lv_iinc (v := 7) (lv' := [(2, .int 7), (0, .ref a0)]) hx hb d_MM_end_82 hl (k := 0) rfl (by decide) (by decide) rfl (fun ls hl => ?_)
    refine lv_goto (tgt := 69) hx hb d_MM_end_85 (by decide) ?_
    refine lv_iload_n hx hb d_MM_end_69 rfl (lv_at hl 0 rfl) ?_
    refine lv_bipush (v := 20) hx hb d_MM_end_70 (by decide) ?_
    refine lv_icmp_ge (tgt := 88) hx hb d_MM_end_72 (by decide) (fun h9 => absurd h9 (by decide +kernel)) (fun _ => ?_)
    refine lv_aload_n hx hb d_MM_end_75 rfl (lv_at hl 1 rfl) ?_
    refine va_get (D := D) (ci := 9) (v := .ref a2) (C := "MailCharactersModel") (T := F_MM) (N := 23) hx hb hts i_MM hown hK hP 0 rfl rfl 6 (by decide) (hts _ k_879) (fun _ h9 => h9) rfl d_MM_end_76 ?_
    refine lv_iload_n hx hb d_MM_end_79 rfl (lv_at hl 0 rfl) ?_
    refine lv_iconst (v := 0) hx hb d_MM_end_80 (by decide) ?_
    refine va_bast hx hb hK hP hD hS 2 1 rfl rfl (by unfold vp_in; decide +kernel) d_MM_end_81 (fun H locs hP hD hS => ?_)
    obtain ⟨f8z, hP, hD⟩ : ∃ f8z : Nat → Int32, va_P D vwCl [(a0, .inr (9, [.ref x0_nameHead, .ref x0_nameTail, .ref x0_nameOf, .ref x0_windows, .ref x0_koi, .int 0, .ref a2, .ref a1, .int (nI n), .ref x0_text, .int 0, .ref x0_out, .ref x0_src, .int 0, .int 0, .int 0, .int 0, .int 0, .int 0, .int 0, .int 0, .int 0, .int 0])), (a1, .inl ((D.1 100), 1500, .inl f1)), (a2, .inl ((D.1 100), 20, .inl f8z))] H ∧ va_D A [(a0, .inr (9, [.ref x0_nameHead, .ref x0_nameTail, .ref x0_nameOf, .ref x0_windows, .ref x0_koi, .int 0, .ref a2, .ref a1, .int (nI n), .ref x0_text, .int 0, .ref x0_out, .ref x0_src, .int 0, .int 0, .int 0, .int 0, .int 0, .int 0, .int 0, .int 0, .int 0, .int 0])), (a1, .inl ((D.1 100), 1500, .inl f1)), (a2, .inl ((D.1 100), 20, .inl f8z))] := ⟨_, hP, hD⟩
    refine lv_iinc (v := 8) (lv' := [(2, .int 8), (0, .ref a0)]) hx hb d_MM_end_82 hl (k := 0) rfl (by decide) (by decide) rfl (fun ls hl => ?_)
    refine lv_goto (tgt := 69) hx hb d_MM_end_85 (by decide) ?_
    refine lv_iload_n hx hb d_MM_end_69 rfl (lv_at hl 0 rfl) ?_
    refine lv_bipush (v := 20) hx hb d_MM_end_70 (by decide) ?_
    refine lv_icmp_ge (tgt := 88) hx hb d_MM_end_72 (by decide) (fun h9 => absurd h9 (by decide +kernel)) (fun _ => ?_)
    refine lv_aload_n hx hb d_MM_end_75 rfl (lv_at hl 1 rfl) ?_
    refine va_get (D := D) (ci := 9) (v := .ref a2) (C := "MailCharactersModel") (T := F_MM) (N := 23) hx hb hts i_MM hown hK hP 0 rfl rfl 6 (by decide) (hts _ k_879) (fun _ h9 => h9) rfl d_MM_end_76 ?_
    refine lv_iload_n hx hb d_MM_end_79 rfl (lv_at hl 0 rfl) ?_
    refine lv_iconst (v := 0) hx hb d_MM_end_80 (by decide) ?_
    refine va_bast hx hb hK hP hD hS 2 1 rfl rfl (by unfold vp_in; decide +kernel) d_MM_end_81 (fun H locs hP hD hS => ?_)
    obtain ⟨f9z, hP, hD⟩ : ∃ f9z : Nat → Int32, va_P D vwCl [(a0, .inr (9, [.ref x0_nameHead, .ref x0_nameTail, .ref x0_nameOf, .ref x0_windows, .ref x0_koi, .int 0, .ref a2, .ref a1, .int (nI n), .ref x0_text, .int 0, .ref x0_out, .ref x0_src, .int 0, .int 0, .int 0, .int 0, .int 0, .int 0, .int 0, .int 0, .int 0, .int 0])), (a1, .inl ((D.1 100), 1500, .inl f1)), (a2, .inl ((D.1 100), 20, .inl f9z))] H ∧ va_D A [(a0, .inr (9, [.ref x0_nameHead, .ref x0_nameTail, .ref x0_nameOf, .ref x0_windows, .ref x0_koi, .int 0, .ref a2, .ref a1, .int (nI n), .ref x0_text, .int 0, .ref x0_out, .ref x0_src, .int 0, .int 0, .int 0, .int 0, .int 0, .int 0, .int 0, .int 0, .int 0, .int 0])), (a1, .inl ((D.1 100), 1500, .inl f1)), (a2, .inl ((D.1 100), 20, .inl f9z))] := ⟨_, hP, hD⟩
    refine lv_iinc (v := 9) (lv' := [(2, .int 9), (0, .ref a0)]) hx hb d_MM_end_82 hl (k := 0) rfl (by decide) (by decide) rfl (fun ls hl => ?_)
    refine lv_goto (tgt := 69) hx hb d_MM_end_85 (by decide) ?_
    refine lv_iload_n hx hb d_MM_end_69 rfl (lv_at hl 0 rfl) ?_
    refine lv_bipush (v := 20) hx hb d_MM_end_70 (by decide) ?_
    refine lv_icmp_ge (tgt := 88) hx hb d_MM_end_72 (by decide) (fun h9 => absurd h9 (by decide +kernel)) (fun _ => ?_)
    refine lv_aload_n hx hb d_MM_end_75 rfl (lv_at hl 1 rfl) ?_
    refine va_get (D := D) (ci := 9) (v := .ref a2) (C := "MailCharactersModel") (T := F_MM) (N := 23) hx hb hts i_MM hown hK hP 0 rfl rfl 6 (by decide) (hts _ k_879) (fun _ h9 => h9) rfl d_MM_end_76 ?_
    refine lv_iload_n hx hb d_MM_end_79 rfl (lv_at hl 0 rfl) ?_
    refine lv_iconst (v := 0) hx hb d_MM_end_80 (by decide) ?_
    refine va_bast hx hb hK hP hD hS 2 1 rfl rfl (by unfold vp_in; decide +kernel) d_MM_end_81 (fun H locs hP hD hS => ?_)
    obtain ⟨f10z, hP, hD⟩ : ∃ f10z : Nat → Int32, va_P D vwCl [(a0, .inr (9, [.ref x0_nameHead, .ref x0_nameTail, .ref x0_nameOf, .ref x0_windows, .ref x0_koi, .int 0, .ref a2, .ref a1, .int (nI n), .ref x0_text, .int 0, .ref x0_out, .ref x0_src, .int 0, .int 0, .int 0, .int 0, .int 0, .int 0, .int 0, .int 0, .int 0, .int 0])), (a1, .inl ((D.1 100), 1500, .inl f1)), (a2, .inl ((D.1 100), 20, .inl f10z))] H ∧ va_D A [(a0, .inr (9, [.ref x0_nameHead, .ref x0_nameTail, .ref x0_nameOf, .ref x0_windows, .ref x0_koi, .int 0, .ref a2, .ref a1, .int (nI n), .ref x0_text, .int 0, .ref x0_out, .ref x0_src, .int 0, .int 0, .int 0, .int 0, .int 0, .int 0, .int 0, .int 0, .int 0, .int 0])), (a1, .inl ((D.1 100), 1500, .inl f1)), (a2, .inl ((D.1 100), 20, .inl f10z))] := ⟨_, hP, hD⟩
    refine lv_iinc (v := 10) (lv' := [(2, .int 10), (0, .ref a0)]) hx hb d_MM_end_82 hl (k := 0) rfl (by decide) (by decide) rfl (fun ls hl => ?_)
    refine lv_goto (tgt := 69) hx hb d_MM_end_85 (by decide) ?_
    refine lv_iload_n hx hb d_MM_end_69 rfl (lv_at hl 0 rfl) ?_
    refine lv_bipush (v := 20) hx hb d_MM_end_70 (by decide) ?_
    refine lv_icmp_ge (tgt := 88) hx hb d_MM_end_72 (by decide) (fun h9 => absurd h9 (by decide +kernel)) (fun _ => ?_)
    refine lv_aload_n hx hb d_MM_end_75 rfl (lv_at hl 1 rfl) ?_
    refine va_get (D := D) (ci := 9) (v := .ref a2) (C := "MailCharactersModel") (T := F_MM) (N := 23) hx hb hts i_MM hown hK hP 0 rfl rfl 6 (by decide) (hts _ k_879) (fun _ h9 => h9) rfl d_MM_end_76 ?_
    refine lv_iload_n hx hb d_MM_end_79 rfl (lv_at hl 0 rfl) ?_
    refine lv_iconst (v := 0) hx hb d_MM_end_80 (by decide) ?_
    refine va_bast hx hb hK hP hD hS 2 1 rfl rfl (by unfold vp_in; decide +kernel) d_MM_end_81 (fun H locs hP hD hS => ?_)
    obtain ⟨f11z, hP, hD⟩ : ∃ f11z : Nat → Int32, va_P D vwCl [(a0, .inr (9, [.ref x0_nameHead, .ref x0_nameTail, .ref x0_nameOf, .ref x0_windows, .ref x0_koi, .int 0, .ref a2, .ref a1, .int (nI n), .ref x0_text, .int 0, .ref x0_out, .ref x0_src, .int 0, .int 0, .int 0, .int 0, .int 0, .int 0, .int 0, .int 0, .int 0, .int 0])), (a1, .inl ((D.1 100), 1500, .inl f1)), (a2, .inl ((D.1 100), 20, .inl f11z))] H ∧ va_D A [(a0, .inr (9, [.ref x0_nameHead, .ref x0_nameTail, .ref x0_nameOf, .ref x0_windows, .ref x0_koi, .int 0, .ref a2, .ref a1, .int (nI n), .ref x0_text, .int 0, .ref x0_out, .ref x0_src, .int 0, .int 0, .int 0, .int 0, .int 0, .int 0, .int 0, .int 0, .int 0, .int 0])), (a1, .inl ((D.1 100), 1500, .inl f1)), (a2, .inl ((D.1 100), 20, .inl f11z))] := ⟨_, hP, hD⟩
    refine lv_iinc (v := 11) (lv' := [(2, .int 11), (0, .ref a0)]) hx hb d_MM_end_82 hl (k := 0) rfl (by decide) (by decide) rfl (fun ls hl => ?_)
    refine lv_goto (tgt := 69) hx hb d_MM_end_85 (by decide) ?_
    refine lv_iload_n hx hb d_MM_end_69 rfl (lv_at hl 0 rfl) ?_
    refine lv_bipush (v := 20) hx hb d_MM_end_70 (by decide) ?_
    refine lv_icmp_ge (tgt := 88) hx hb d_MM_end_72 (by decide) (fun h9 => absurd h9 (by decide +kernel)) (fun _ => ?_)
    refine lv_aload_n hx hb d_MM_end_75 rfl (lv_at hl 1 rfl) ?_
    refine va_get (D := D) (ci := 9) (v := .ref a2) (C := "MailCharactersModel") (T := F_MM) (N := 23) hx hb hts i_MM hown hK hP 0 rfl rfl 6 (by decide) (hts _ k_879) (fun _ h9 => h9) rfl d_MM_end_76 ?_
    refine lv_iload_n hx hb d_MM_end_79 rfl (lv_at hl 0 rfl) ?_
    refine lv_iconst (v := 0) hx hb d_MM_end_80 (by decide) ?_
    refine va_bast hx hb hK hP hD hS 2 1 rfl rfl (by unfold vp_in; decide +kernel) d_MM_end_81 (fun H locs hP hD hS => ?_)
    obtain ⟨f12z, hP, hD⟩ : ∃ f12z : Nat → Int32, va_P D vwCl [(a0, .inr (9, [.ref x0_nameHead, .ref x0_nameTail, .ref x0_nameOf, .ref x0_windows, .ref x0_koi, .int 0, .ref a2, .ref a1, .int (nI n), .ref x0_text, .int 0, .ref x0_out, .ref x0_src, .int 0, .int 0, .int 0, .int 0, .int 0, .int 0, .int 0, .int 0, .int 0, .int 0])), (a1, .inl ((D.1 100), 1500, .inl f1)), (a2, .inl ((D.1 100), 20, .inl f12z))] H ∧ va_D A [(a0, .inr (9, [.ref x0_nameHead, .ref x0_nameTail, .ref x0_nameOf, .ref x0_windows, .ref x0_koi, .int 0, .ref a2, .ref a1, .int (nI n), .ref x0_text, .int 0, .ref x0_out, .ref x0_src, .int 0, .int 0, .int 0, .int 0, .int 0, .int 0, .int 0, .int 0, .int 0, .int 0])), (a1, .inl ((D.1 100), 1500, .inl f1)), (a2, .inl ((D.1 100), 20, .inl f12z))] := ⟨_, hP, hD⟩
    refine lv_iinc (v := 12) (lv' := [(2, .int 12), (0, .ref a0)]) hx hb d_MM_end_82 hl (k := 0) rfl (by decide) (by decide) rfl (fun ls hl => ?_)
    refine lv_goto (tgt := 69) hx hb d_MM_end_85 (by decide) ?_
    refine lv_iload_n hx hb d_MM_end_69 rfl (lv_at hl 0 rfl) ?_
    refine lv_bipush (v := 20) hx hb d_MM_end_70 (by decide) ?_
    refine lv_icmp_ge (tgt := 88) hx hb d_MM_end_72 (by decide) (fun h9 => absurd h9 (by decide +kernel)) (fun _ => ?_)
    refine lv_aload_n hx hb d_MM_end_75 rfl (lv_at hl 1 rfl) ?_
    refine va_get (D := D) (ci := 9) (v := .ref a2) (C := "MailCharactersModel") (T := F_MM) (N := 23) hx hb hts i_MM hown hK hP 0 rfl rfl 6 (by decide) (hts _ k_879) (fun _ h9 => h9) rfl d_MM_end_76 ?_
    refine lv_iload_n hx hb d_MM_end_79 rfl (lv_at hl 0 rfl) ?_
    refine lv_iconst (v := 0) hx hb d_MM_end_80 (by decide) ?_
    refine va_bast hx hb hK hP hD hS 2 1 rfl rfl (by unfold vp_in; decide +kernel) d_MM_end_81 (fun H locs hP hD hS => ?_)
    obtain ⟨f13z, hP, hD⟩ : ∃ f13z : Nat → Int32, va_P D vwCl [(a0, .inr (9, [.ref x0_nameHead, .ref x0_nameTail, .ref x0_nameOf, .ref x0_windows, .ref x0_koi, .int 0, .ref a2, .ref a1, .int (nI n), .ref x0_text, .int 0, .ref x0_out, .ref x0_src, .int 0, .int 0, .int 0, .int 0, .int 0, .int 0, .int 0, .int 0, .int 0, .int 0])), (a1, .inl ((D.1 100), 1500, .inl f1)), (a2, .inl ((D.1 100), 20, .inl f13z))] H ∧ va_D A [(a0, .inr (9, [.ref x0_nameHead, .ref x0_nameTail, .ref x0_nameOf, .ref x0_windows, .ref x0_koi, .int 0, .ref a2, .ref a1, .int (nI n), .ref x0_text, .int 0, .ref x0_out, .ref x0_src, .int 0, .int 0, .int 0, .int 0, .int 0, .int 0, .int 0, .int 0, .int 0, .int 0])), (a1, .inl ((D.1 100), 1500, .inl f1)), (a2, .inl ((D.1 100), 20, .inl f13z))] := ⟨_, hP, hD⟩
    refine lv_iinc (v := 13) (lv' := [(2, .int 13), (0, .ref a0)]) hx hb d_MM_end_82 hl (k := 0) rfl (by decide) (by decide) rfl (fun ls hl => ?_)
    refine lv_goto (tgt := 69) hx hb d_MM_end_85 (by decide) ?_
    refine lv_iload_n hx hb d_MM_end_69 rfl (lv_at hl 0 rfl) ?_
    refine lv_bipush (v := 20) hx hb d_MM_end_70 (by decide) ?_
    refine lv_icmp_ge (tgt := 88) hx hb d_MM_end_72 (by decide) (fun h9 => absurd h9 (by decide +kernel)) (fun _ => ?_)
    refine lv_aload_n hx hb d_MM_end_75 rfl (lv_at hl 1 rfl) ?_
    refine va_get (D := D) (ci := 9) (v := .ref a2) (C := "MailCharactersModel") (T := F_MM) (N := 23) hx hb hts i_MM hown hK hP 0 rfl rfl 6 (by decide) (hts _ k_879) (fun _ h9 => h9) rfl d_MM_end_76 ?_
    refine lv_iload_n hx hb d_MM_end_79 rfl (lv_at hl 0 rfl) ?_
    refine lv_iconst (v := 0) hx hb d_MM_end_80 (by decide) ?_
    refine va_bast hx hb hK hP hD hS 2 1 rfl rfl (by unfold vp_in; decide +kernel) d_MM_end_81 (fun H locs hP hD hS => ?_)
    obtain ⟨f14z, hP, hD⟩ : ∃ f14z : Nat → Int32, va_P D vwCl [(a0, .inr (9, [.ref x0_nameHead, .ref x0_nameTail, .ref x0_nameOf, .ref x0_windows, .ref x0_koi, .int 0, .ref a2, .ref a1, .int (nI n), .ref x0_text, .int 0, .ref x0_out, .ref x0_src, .int 0, .int 0, .int 0, .int 0, .int 0, .int 0, .int 0, .int 0, .int 0, .int 0])), (a1, .inl ((D.1 100), 1500, .inl f1)), (a2, .inl ((D.1 100), 20, .inl f14z))] H ∧ va_D A [(a0, .inr (9, [.ref x0_nameHead, .ref x0_nameTail, .ref x0_nameOf, .ref x0_windows, .ref x0_koi, .int 0, .ref a2, .ref a1, .int (nI n), .ref x0_text, .int 0, .ref x0_out, .ref x0_src, .int 0, .int 0, .int 0, .int 0, .int 0, .int 0, .int 0, .int 0, .int 0, .int 0])), (a1, .inl ((D.1 100), 1500, .inl f1)), (a2, .inl ((D.1 100), 20, .inl f14z))] := ⟨_, hP, hD⟩
    refine lv_iinc (v := 14) (lv' := [(2, .int 14), (0, .ref a0)]) hx hb d_MM_end_82 hl (k := 0) rfl (by decide) (by decide) rfl (fun ls hl => ?_)
    refine lv_goto (tgt := 69) hx hb d_MM_end_85 (by decide) ?_
    refine lv_iload_n hx hb d_MM_end_69 rfl (lv_at hl 0 rfl) ?_
    refine lv_bipush (v := 20) hx hb d_MM_end_70 (by decide) ?_
    refine lv_icmp_ge (tgt := 88) hx hb d_MM_end_72 (by decide) (fun h9 => absurd h9 (by decide +kernel)) (fun _ => ?_)
    refine lv_aload_n hx hb d_MM_end_75 rfl (lv_at hl 1 rfl) ?_
    refine va_get (D := D) (ci := 9) (v := .ref a2) (C := "MailCharactersModel") (T := F_MM) (N := 23) hx hb hts i_MM hown hK hP 0 rfl rfl 6 (by decide) (hts _ k_879) (fun _ h9 => h9) rfl d_MM_end_76 ?_
    refine lv_iload_n hx hb d_MM_end_79 rfl (lv_at hl 0 rfl) ?_
    refine lv_iconst (v := 0) hx hb d_MM_end_80 (by decide) ?_
    refine va_bast hx hb hK hP hD hS 2 1 rfl rfl (by unfold vp_in; decide +kernel) d_MM_end_81 (fun H locs hP hD hS => ?_)
    obtain ⟨f15z, hP, hD⟩ : ∃ f15z : Nat → Int32, va_P D vwCl [(a0, .inr (9, [.ref x0_nameHead, .ref x0_nameTail, .ref x0_nameOf, .ref x0_windows, .ref x0_koi, .int 0, .ref a2, .ref a1, .int (nI n), .ref x0_text, .int 0, .ref x0_out, .ref x0_src, .int 0, .int 0, .int 0, .int 0, .int 0, .int 0, .int 0, .int 0, .int 0, .int 0])), (a1, .inl ((D.1 100), 1500, .inl f1)), (a2, .inl ((D.1 100), 20, .inl f15z))] H ∧ va_D A [(a0, .inr (9, [.ref x0_nameHead, .ref x0_nameTail, .ref x0_nameOf, .ref x0_windows, .ref x0_koi, .int 0, .ref a2, .ref a1, .int (nI n), .ref x0_text, .int 0, .ref x0_out, .ref x0_src, .int 0, .int 0, .int 0, .int 0, .int 0, .int 0, .int 0, .int 0, .int 0, .int 0])), (a1, .inl ((D.1 100), 1500, .inl f1)), (a2, .inl ((D.1 100), 20, .inl f15z))] := ⟨_, hP, hD⟩
    refine lv_iinc (v := 15) (lv' := [(2, .int 15), (0, .ref a0)]) hx hb d_MM_end_82 hl (k := 0) rfl (by decide) (by decide) rfl (fun ls hl => ?_)
    refine lv_goto (tgt := 69) hx hb d_MM_end_85 (by decide) ?_
    refine lv_iload_n hx hb d_MM_end_69 rfl (lv_at hl 0 rfl) ?_
    refine lv_bipush (v := 20) hx hb d_MM_end_70 (by decide) ?_
    refine lv_icmp_ge (tgt := 88) hx hb d_MM_end_72 (by decide) (fun h9 => absurd h9 (by decide +kernel)) (fun _ => ?_)
    refine lv_aload_n hx hb d_MM_end_75 rfl (lv_at hl 1 rfl) ?_
    refine va_get (D := D) (ci := 9) (v := .ref a2) (C := "MailCharactersModel") (T := F_MM) (N := 23) hx hb hts i_MM hown hK hP 0 rfl rfl 6 (by decide) (hts _ k_879) (fun _ h9 => h9) rfl d_MM_end_76 ?_
    refine lv_iload_n hx hb d_MM_end_79 rfl (lv_at hl 0 rfl) ?_
    refine lv_iconst (v := 0) hx hb d_MM_end_80 (by decide) ?_
    refine va_bast hx hb hK hP hD hS 2 1 rfl rfl (by unfold vp_in; decide +kernel) d_MM_end_81 (fun H locs hP hD hS => ?_)
    obtain ⟨f16z, hP, hD⟩ : ∃ f16z : Nat → Int32, va_P D vwCl [(a0, .inr (9, [.ref x0_nameHead, .ref x0_nameTail, .ref x0_nameOf, .ref x0_windows, .ref x0_koi, .int 0, .ref a2, .ref a1, .int (nI n), .ref x0_text, .int 0, .ref x0_out, .ref x0_src, .int 0, .int 0, .int 0, .int 0, .int 0, .int 0, .int 0, .int 0, .int 0, .int 0])), (a1, .inl ((D.1 100), 1500, .inl f1)), (a2, .inl ((D.1 100), 20, .inl f16z))] H ∧ va_D A [(a0, .inr (9, [.ref x0_nameHead, .ref x0_nameTail, .ref x0_nameOf, .ref x0_windows, .ref x0_koi, .int 0, .ref a2, .ref a1, .int (nI n), .ref x0_text, .int 0, .ref x0_out, .ref x0_src, .int 0, .int 0, .int 0, .int 0, .int 0, .int 0, .int 0, .int 0, .int 0, .int 0])), (a1, .inl ((D.1 100), 1500, .inl f1)), (a2, .inl ((D.1 100), 20, .inl f16z))] := ⟨_, hP, hD⟩
    refine lv_iinc (v := 16) (lv' := [(2, .int 16), (0, .ref a0)]) hx hb d_MM_end_82 hl (k := 0) rfl (by decide) (by decide) rfl (fun ls hl => ?_)
    refine lv_goto (tgt := 69) hx hb d_MM_end_85 (by decide) ?_
    refine lv_iload_n hx hb d_MM_end_69 rfl (lv_at hl 0 rfl) ?_
    refine lv_bipush (v := 20) hx hb d_MM_end_70 (by decide) ?_
    refine lv_icmp_ge (tgt := 88) hx hb d_MM_end_72 (by decide) (fun h9 => absurd h9 (by decide +kernel)) (fun _ => ?_)
    refine lv_aload_n hx hb d_MM_end_75 rfl (lv_at hl 1 rfl) ?_
    refine va_get (D := D) (ci := 9) (v := .ref a2) (C := "MailCharactersModel") (T := F_MM) (N := 23) hx hb hts i_MM hown hK hP 0 rfl rfl 6 (by decide) (hts _ k_879) (fun _ h9 => h9) rfl d_MM_end_76 ?_
    refine lv_iload_n hx hb d_MM_end_79 rfl (lv_at hl 0 rfl) ?_
    refine lv_iconst (v := 0) hx hb d_MM_end_80 (by decide) ?_
    refine va_bast hx hb hK hP hD hS 2 1 rfl rfl (by unfold vp_in; decide +kernel) d_MM_end_81 (fun H locs hP hD hS => ?_)
    obtain ⟨f17z, hP, hD⟩ : ∃ f17z : Nat → Int32, va_P D vwCl [(a0, .inr (9, [.ref x0_nameHead, .ref x0_nameTail, .ref x0_nameOf, .ref x0_windows, .ref x0_koi, .int 0, .ref a2, .ref a1, .int (nI n), .ref x0_text, .int 0, .ref x0_out, .ref x0_src, .int 0, .int 0, .int 0, .int 0, .int 0, .int 0, .int 0, .int 0, .int 0, .int 0])), (a1, .inl ((D.1 100), 1500, .inl f1)), (a2, .inl ((D.1 100), 20, .inl f17z))] H ∧ va_D A [(a0, .inr (9, [.ref x0_nameHead, .ref x0_nameTail, .ref x0_nameOf, .ref x0_windows, .ref x0_koi, .int 0, .ref a2, .ref a1, .int (nI n), .ref x0_text, .int 0, .ref x0_out, .ref x0_src, .int 0, .int 0, .int 0, .int 0, .int 0, .int 0, .int 0, .int 0, .int 0, .int 0])), (a1, .inl ((D.1 100), 1500, .inl f1)), (a2, .inl ((D.1 100), 20, .inl f17z))] := ⟨_, hP, hD⟩
    refine lv_iinc (v := 17) (lv' := [(2, .int 17), (0, .ref a0)]) hx hb d_MM_end_82 hl (k := 0) rfl (by decide) (by decide) rfl (fun ls hl => ?_)
    refine lv_goto (tgt := 69) hx hb d_MM_end_85 (by decide) ?_
    refine lv_iload_n hx hb d_MM_end_69 rfl (lv_at hl 0 rfl) ?_
    refine lv_bipush (v := 20) hx hb d_MM_end_70 (by decide) ?_
    refine lv_icmp_ge (tgt := 88) hx hb d_MM_end_72 (by decide) (fun h9 => absurd h9 (by decide +kernel)) (fun _ => ?_)
    refine lv_aload_n hx hb d_MM_end_75 rfl (lv_at hl 1 rfl) ?_
    refine va_get (D := D) (ci := 9) (v := .ref a2) (C := "MailCharactersModel") (T := F_MM) (N := 23) hx hb hts i_MM hown hK hP 0 rfl rfl 6 (by decide) (hts _ k_879) (fun _ h9 => h9) rfl d_MM_end_76 ?_
    refine lv_iload_n hx hb d_MM_end_79 rfl (lv_at hl 0 rfl) ?_
    refine lv_iconst (v := 0) hx hb d_MM_end_80 (by decide) ?_
    refine va_bast hx hb hK hP hD hS 2 1 rfl rfl (by unfold vp_in; decide +kernel) d_MM_end_81 (fun H locs hP hD hS => ?_)
    obtain ⟨f18z, hP, hD⟩ : ∃ f18z : Nat → Int32, va_P D vwCl [(a0, .inr (9, [.ref x0_nameHead, .ref x0_nameTail, .ref x0_nameOf, .ref x0_windows, .ref x0_koi, .int 0, .ref a2, .ref a1, .int (nI n), .ref x0_text, .int 0, .ref x0_out, .ref x0_src, .int 0, .int 0, .int 0, .int 0, .int 0, .int 0, .int 0, .int 0, .int 0, .int 0])), (a1, .inl ((D.1 100), 1500, .inl f1)), (a2, .inl ((D.1 100), 20, .inl f18z))] H ∧ va_D A [(a0, .inr (9, [.ref x0_nameHead, .ref x0_nameTail, .ref x0_nameOf, .ref x0_windows, .ref x0_koi, .int 0, .ref a2, .ref a1, .int (nI n), .ref x0_text, .int 0, .ref x0_out, .ref x0_src, .int 0, .int 0, .int 0, .int 0, .int 0, .int 0, .int 0, .int 0, .int 0, .int 0])), (a1, .inl ((D.1 100), 1500, .inl f1)), (a2, .inl ((D.1 100), 20, .inl f18z))] := ⟨_, hP, hD⟩
    refine lv_iinc (v := 18) (lv' := [(2, .int 18), (0, .ref a0)]) hx hb d_MM_end_82 hl (k := 0) rfl (by decide) (by decide) rfl (fun ls hl => ?_)
    refine lv_goto (tgt := 69) hx hb d_MM_end_85 (by decide) ?_
    refine lv_iload_n hx hb d_MM_end_69 rfl (lv_at hl 0 rfl) ?_
    refine lv_bipush (v := 20) hx hb d_MM_end_70 (by decide) ?_
    refine lv_icmp_ge (tgt := 88) hx hb d_MM_end_72 (by decide) (fun h9 => absurd h9 (by decide +kernel)) (fun _ => ?_)
    refine lv_aload_n hx hb d_MM_end_75 rfl (lv_at hl 1 rfl) ?_
    refine va_get (D := D) (ci := 9) (v := .ref a2) (C := "MailCharactersModel") (T := F_MM) (N := 23) hx hb hts i_MM hown hK hP 0 rfl rfl 6 (by decide) (hts _ k_879) (fun _ h9 => h9) rfl d_MM_end_76 ?_
    refine lv_iload_n hx hb d_MM_end_79 rfl (lv_at hl 0 rfl) ?_
    refine lv_iconst (v := 0) hx hb d_MM_end_80 (by decide) ?_
    refine va_bast hx hb hK hP hD hS 2 1 rfl rfl (by unfold vp_in; decide +kernel) d_MM_end_81 (fun H locs hP hD hS => ?_)
    obtain ⟨f19z, hP, hD⟩ : ∃ f19z : Nat → Int32, va_P D vwCl [(a0, .inr (9, [.ref x0_nameHead, .ref x0_nameTail, .ref x0_nameOf, .ref x0_windows, .ref x0_koi, .int 0, .ref a2, .ref a1, .int (nI n), .ref x0_text, .int 0, .ref x0_out, .ref x0_src, .int 0, .int 0, .int 0, .int 0, .int 0, .int 0, .int 0, .int 0, .int 0, .int 0])), (a1, .inl ((D.1 100), 1500, .inl f1)), (a2, .inl ((D.1 100), 20, .inl f19z))] H ∧ va_D A [(a0, .inr (9, [.ref x0_nameHead, .ref x0_nameTail, .ref x0_nameOf, .ref x0_windows, .ref x0_koi, .int 0, .ref a2, .ref a1, .int (nI n), .ref x0_text, .int 0, .ref x0_out, .ref x0_src, .int 0, .int 0, .int 0, .int 0, .int 0, .int 0, .int 0, .int 0, .int 0, .int 0])), (a1, .inl ((D.1 100), 1500, .inl f1)), (a2, .inl ((D.1 100), 20, .inl f19z))] := ⟨_, hP, hD⟩
    refine lv_iinc (v := 19) (lv' := [(2, .int 19), (0, .ref a0)]) hx hb d_MM_end_82 hl (k := 0) rfl (by decide) (by decide) rfl (fun ls hl => ?_)
    refine lv_goto (tgt := 69) hx hb d_MM_end_85 (by decide) ?_
    refine lv_iload_n hx hb d_MM_end_69 rfl (lv_at hl 0 rfl) ?_
    refine lv_bipush (v := 20) hx hb d_MM_end_70 (by decide) ?_
    refine lv_icmp_ge (tgt := 88) hx hb d_MM_end_72 (by decide) (fun h9 => absurd h9 (by decide +kernel)) (fun _ => ?_)
    refine lv_aload_n hx hb d_MM_end_75 rfl (lv_at hl 1 rfl) ?_
    refine va_get (D := D) (ci := 9) (v := .ref a2) (C := "MailCharactersModel") (T := F_MM) (N := 23) hx hb hts i_MM hown hK hP 0 rfl rfl 6 (by decide) (hts _ k_879) (fun _ h9 => h9) rfl d_MM_end_76 ?_
    refine lv_iload_n hx hb d_MM_end_79 rfl (lv_at hl 0 rfl) ?_
    refine lv_iconst (v := 0) hx hb d_MM_end_80 (by decide) ?_
    refine va_bast hx hb hK hP hD hS 2 1 rfl rfl (by unfold vp_in; decide +kernel) d_MM_end_81 (fun H locs hP hD hS => ?_)
    obtain ⟨f20z, hP, hD⟩ : ∃ f20z : Nat → Int32, va_P D vwCl [(a0, .inr (9, [.ref x0_nameHead, .ref x0_nameTail, .ref x0_nameOf, .ref x0_windows, .ref x0_koi, .int 0, .ref a2, .ref a1, .int (nI n), .ref x0_text, .int 0, .ref x0_out, .ref x0_src, .int 0, .int 0, .int 0, .int 0, .int 0, .int 0, .int 0, .int 0, .int 0, .int 0])), (a1, .inl ((D.1 100), 1500, .inl f1)), (a2, .inl ((D.1 100), 20, .inl f20z))] H ∧ va_D A [(a0, .inr (9, [.ref x0_nameHead, .ref x0_nameTail, .ref x0_nameOf, .ref x0_windows, .ref x0_koi, .int 0, .ref a2, .ref a1, .int (nI n), .ref x0_text, .int 0, .ref x0_out, .ref x0_src, .int 0, .int 0, .int 0, .int 0, .int 0, .int 0, .int 0, .int 0, .int 0, .int 0])), (a1, .inl ((D.1 100), 1500, .inl f1)), (a2, .inl ((D.1 100), 20, .inl f20z))] := ⟨_, hP, hD⟩
    refine lv_iinc (v := 20) (lv' := [(2, .int 20), (0, .ref a0)]) hx hb d_MM_end_82 hl (k := 0) rfl (by decide) (by decide) rfl (fun ls hl => ?_)
    refine lv_goto (tgt := 69) hx hb d_MM_end_85 (by decide) ?_
    refine lv_iload_n hx hb d_MM_end_69 rfl (lv_at hl 0 rfl) ?_
    refine lv_bipush (v := 20) hx hb d_MM_end_70 (by decide) ?_
    refine lv_icmp_ge (tgt := 88) hx hb d_MM_end_72 (by decide) (fun _ => ?_) (fun h9 => absurd h9 (by decide +kernel))
    refine lv_aload_n hx hb d_MM_end_88 rfl (lv_at hl 1 rfl) ?_
    refine va_get (D := D) (ci := 9) (v := .int (nI n)) (C := "MailCharactersModel") (T := F_MM) (N := 23) hx hb hts i_MM hown hK hP 0 rfl rfl 8 (by decide) (hts _ k_881) (fun _ h9 => h9) rfl d_MM_end_89 ?_
    exact hret (nI n) (f1, f20z) _ _ _ _ d_MM_end_92 rfl rfl hP hD hS
  have lp : ∀ (d k : Nat), k + d = n → ∀ (f1 f2 : Nat → Int32) (H : Heap) (locs : List Loc) (ls : Array Slot), va_P D vwCl [(a0, .inr (9, [.ref x0_nameHead, .ref x0_nameTail, .ref x0_nameOf, .ref x0_windows, .ref x0_koi, .int 0, .ref a2, .ref a1, .int (nI k), .ref x0_text, .int 0, .ref x0_out, .ref x0_src, .int 0, .int 0, .int 0, .int 0, .int 0, .int 0, .int 0, .int 0, .int 0, .int 0])), (a1, .inl ((D.1 100), 1500, .inl f1)), (a2, .inl ((D.1 100), 20, .inl f2))] H → va_D A [(a0, .inr (9, [.ref x0_nameHead, .ref x0_nameTail, .ref x0_nameOf, .ref x0_windows, .ref x0_koi, .int 0, .ref a2, .ref a1, .int (nI k), .ref x0_text, .int 0, .ref x0_out, .ref x0_src, .int 0, .int 0, .int 0, .int 0, .int 0, .int 0, .int 0, .int 0, .int 0, .int 0])), (a1, .inl ((D.1 100), 1500, .inl f1)), (a2, .inl ((D.1 100), 20, .inl f2))] → va_S A s.heap H locs → lv_has ls 3 [(2, .int (nI k)), (0, .ref a0), (1, .int (nI n))] → W p l e rm_MM_end_v s m ([.ref a0, .int (nI n)] : List Value).toArray below meth c H locs 0 0 Q (F0 m 31 ls []) := by
    intro d
    induction d with
    | zero =>
      intro k hk f1 f2 H locs ls hP hD hS hl
      obtain rfl : k = n := by omega
      have hc : nI k ≤ nI k := Int32.le_refl _
      refine lv_iload_n hx hb d_MM_end_31 rfl (lv_at hl 0 rfl) ?_
      refine lv_iload_n hx hb d_MM_end_32 rfl (lv_at hl 2 rfl) ?_
      refine lv_icmp_ge (tgt := 67) hx hb d_MM_end_33 (by decide) (fun _ => ?_) (fun h9 => absurd hc h9)
      exact tl f1 f2 _ _ _ hP hD hS (lv_sub hl [1] rfl)
    | succ d ih =>
      intro k hk f1 f2 H locs ls hP hD hS hl
      have hc : ¬ nI n ≤ nI k := nI_ge (by omega) (by omega)
      have ek : nI k + 1 = nI (k + 1) := nI_1 k
      refine lv_iload_n hx hb d_MM_end_31 rfl (lv_at hl 0 rfl) ?_
      refine lv_iload_n hx hb d_MM_end_32 rfl (lv_at hl 2 rfl) ?_
      refine lv_icmp_ge (tgt := 67) hx hb d_MM_end_33 (by decide) (fun h9 => absurd h9 hc) (fun _ => ?_)
      refine lv_aload_n hx hb d_MM_end_36 rfl (lv_at hl 1 rfl) ?_
      refine va_get (D := D) (ci := 9) (v := .ref a1) (C := "MailCharactersModel") (T := F_MM) (N := 23) hx hb hts i_MM hown hK hP 0 rfl rfl 7 (by decide) (hts _ k_880) (fun _ h9 => h9) rfl d_MM_end_37 ?_
      refine lv_aload_n hx hb d_MM_end_40 rfl (lv_at hl 1 rfl) ?_
      refine va_get (D := D) (ci := 9) (v := .int (nI k)) (C := "MailCharactersModel") (T := F_MM) (N := 23) hx hb hts i_MM hown hK hP 0 rfl rfl 8 (by decide) (hts _ k_881) (fun _ h9 => h9) rfl d_MM_end_41 ?_
      refine lv_aload_n hx hb d_MM_end_44 rfl (lv_at hl 1 rfl) ?_
      refine va_get (D := D) (ci := 9) (v := .ref a2) (C := "MailCharactersModel") (T := F_MM) (N := 23) hx hb hts i_MM hown hK hP 0 rfl rfl 6 (by decide) (hts _ k_879) (fun _ h9 => h9) rfl d_MM_end_45 ?_
      refine lv_iload_n hx hb d_MM_end_48 rfl (lv_at hl 0 rfl) ?_
      refine va_bald hx hb hK hP 2 1 rfl rfl (vp_in_nI (by omega) (by decide)) d_MM_end_49 ?_
      refine va_bast hx hb hK hP hD hS 1 1 rfl rfl (vp_in_nI (by omega) (by decide)) d_MM_end_50 (fun H locs hP hD hS => ?_)
      obtain ⟨f21z, hP, hD⟩ : ∃ f21z : Nat → Int32, va_P D vwCl [(a0, .inr (9, [.ref x0_nameHead, .ref x0_nameTail, .ref x0_nameOf, .ref x0_windows, .ref x0_koi, .int 0, .ref a2, .ref a1, .int (nI k), .ref x0_text, .int 0, .ref x0_out, .ref x0_src, .int 0, .int 0, .int 0, .int 0, .int 0, .int 0, .int 0, .int 0, .int 0, .int 0])), (a1, .inl ((D.1 100), 1500, .inl f21z)), (a2, .inl ((D.1 100), 20, .inl f2))] H ∧ va_D A [(a0, .inr (9, [.ref x0_nameHead, .ref x0_nameTail, .ref x0_nameOf, .ref x0_windows, .ref x0_koi, .int 0, .ref a2, .ref a1, .int (nI k), .ref x0_text, .int 0, .ref x0_out, .ref x0_src, .int 0, .int 0, .int 0, .int 0, .int 0, .int 0, .int 0, .int 0, .int 0, .int 0])), (a1, .inl ((D.1 100), 1500, .inl f21z)), (a2, .inl ((D.1 100), 20, .inl f2))] := ⟨_, hP, hD⟩
      refine lv_aload_n hx hb d_MM_end_51 rfl (lv_at hl 1 rfl) ?_
      refine lv_dup hx hb d_MM_end_52 rfl ?_
      refine va_get (D := D) (ci := 9) (v := .int (nI k)) (C := "MailCharactersModel") (T := F_MM) (N := 23) hx hb hts i_MM hown hK hP 0 rfl rfl 8 (by decide) (hts _ k_881) (fun _ h9 => h9) rfl d_MM_end_53 ?_
      refine lv_iconst (v := 1) hx hb d_MM_end_56 (by decide) ?_
      refine lv_iadd hx hb d_MM_end_57 ?_
      refine va_put (D := D) (ci := 9) (v := .int ((nI k) + 1)) (ty := .int) (C := "MailCharactersModel") (T := F_MM) (N := 23) hx hb hts i_MM t_MM t_MM_ok n_MM hown hK hP hD hS 0 rfl rfl 8 (by decide) (hts _ k_881) (fun _ h9 => h9) rfl (by decide +kernel) rfl rfl (Nat.le_of_ble_eq_true rfl) d_MM_end_58 (fun H locs hP hD hS => ?_)
      have hP : va_P D vwCl [(a0, .inr (9, [.ref x0_nameHead, .ref x0_nameTail, .ref x0_nameOf, .ref x0_windows, .ref x0_koi, .int 0, .ref a2, .ref a1, .int ((nI k) + 1), .ref x0_text, .int 0, .ref x0_out, .ref x0_src, .int 0, .int 0, .int 0, .int 0, .int 0, .int 0, .int 0, .int 0, .int 0, .int 0])), (a1, .inl ((D.1 100), 1500, .inl f21z)), (a2, .inl ((D.1 100), 20, .inl f2))] H := hP
      have hD : va_D A [(a0, .inr (9, [.ref x0_nameHead, .ref x0_nameTail, .ref x0_nameOf, .ref x0_windows, .ref x0_koi, .int 0, .ref a2, .ref a1, .int ((nI k) + 1), .ref x0_text, .int 0, .ref x0_out, .ref x0_src, .int 0, .int 0, .int 0, .int 0, .int 0, .int 0, .int 0, .int 0, .int 0, .int 0])), (a1, .inl ((D.1 100), 1500, .inl f21z)), (a2, .inl ((D.1 100), 20, .inl f2))] := hD
      refine lv_iinc (v := ((nI k) + 1)) (lv' := [(2, .int ((nI k) + 1)), (0, .ref a0), (1, .int (nI n))]) hx hb d_MM_end_61 hl (k := 0) rfl rfl (by decide) rfl (fun ls hl => ?_)
      refine lv_goto (tgt := 31) hx hb d_MM_end_64 (by decide) ?_
      rw [ek] at hP hD hl
      exact ih (k + 1) (by omega) f21z f2 _ _ _ hP hD hS (lv_sub hl [0, 1, 2] rfl)
  have hq0 : ¬ nI n < 0 := nI_pos (by omega)
  have hq1 : ¬ 20 < nI n := by rw [Int32.lt_iff_toInt_lt, nI_toInt (by omega)]; have : (20 : Int32).toInt = 20 := rfl; omega
  have hq2 : 0 + nI n ≤ 1500 := by rw [Int32.zero_add, Int32.le_iff_toInt_le, nI_toInt (by omega)]; have : (1500 : Int32).toInt = 1500 := rfl; omega
  refine lv_aload_n hx hb d_MM_end_0 rfl (lv_at hl 0 rfl) ?_
  refine lv_iconst (v := 0) hx hb d_MM_end_1 (by decide) ?_
  refine va_put (D := D) (ci := 9) (v := .int 0) (ty := .int) (C := "MailCharactersModel") (T := F_MM) (N := 23) hx hb hts i_MM t_MM t_MM_ok n_MM hown hK hP hD hS 0 rfl rfl 5 (by decide) (hts _ k_878) (fun _ h9 => h9) rfl (by decide +kernel) rfl rfl (Nat.le_of_ble_eq_true rfl) d_MM_end_2 (fun H locs hP hD hS => ?_)
  have hP : va_P D vwCl [(a0, .inr (9, [.ref x0_nameHead, .ref x0_nameTail, .ref x0_nameOf, .ref x0_windows, .ref x0_koi, .int 0, .ref a2, .ref a1, .int 0, .ref x0_text, .int 0, .ref x0_out, .ref x0_src, .int 0, .int 0, .int 0, .int 0, .int 0, .int 0, .int 0, .int 0, .int 0, .int 0])), (a1, .inl ((D.1 100), 1500, .inl f1)), (a2, .inl ((D.1 100), 20, .inl f2))] H := hP
  have hD : va_D A [(a0, .inr (9, [.ref x0_nameHead, .ref x0_nameTail, .ref x0_nameOf, .ref x0_windows, .ref x0_koi, .int 0, .ref a2, .ref a1, .int 0, .ref x0_text, .int 0, .ref x0_out, .ref x0_src, .int 0, .int 0, .int 0, .int 0, .int 0, .int 0, .int 0, .int 0, .int 0, .int 0])), (a1, .inl ((D.1 100), 1500, .inl f1)), (a2, .inl ((D.1 100), 20, .inl f2))] := hD
  refine lv_iload_n hx hb d_MM_end_5 rfl (lv_at hl 1 rfl) ?_
  refine lv_if_lt (tgt := 27) hx hb d_MM_end_6 (by decide) (fun h9 => absurd h9 hq0) (fun _ => ?_)
  refine lv_iload_n hx hb d_MM_end_9 rfl (lv_at hl 1 rfl) ?_
  refine lv_bipush (v := 20) hx hb d_MM_end_10 (by decide) ?_
  refine lv_icmp_gt (tgt := 27) hx hb d_MM_end_12 (by decide) (fun h9 => absurd h9 hq1) (fun _ => ?_)
  refine lv_aload_n hx hb d_MM_end_15 rfl (lv_at hl 0 rfl) ?_
  refine va_get (D := D) (ci := 9) (v := .int 0) (C := "MailCharactersModel") (T := F_MM) (N := 23) hx hb hts i_MM hown hK hP 0 rfl rfl 8 (by decide) (hts _ k_881) (fun _ h9 => h9) rfl d_MM_end_16 ?_
  refine lv_iload_n hx hb d_MM_end_19 rfl (lv_at hl 1 rfl) ?_
  refine lv_iadd hx hb d_MM_end_20 ?_
  refine lv_sipush (v := 1500) hx hb d_MM_end_21 (by decide) ?_
  refine lv_icmp_le (tgt := 29) hx hb d_MM_end_24 (by decide) (fun _ => ?_) (fun h9 => absurd hq2 h9)
  refine lv_iconst (v := 0) hx hb d_MM_end_29 (by decide) ?_
  refine lv_istore_n (lv' := [(2, .int 0), (0, .ref a0), (1, .int (nI n))]) hx hb d_MM_end_30 rfl hl (by decide) rfl (fun ls hl => ?_)
  exact lp n 0 (by omega) f1 f2 _ _ _ hP hD hS (lv_sub hl [0, 1, 2] rfl)
theorem cw_MM_end_v {R : Room} {s : State} {args : Array Value} {own : String} {idx : Nat} (hts : ∀ w ∈ gW, w.before args s = true) (hl : Cond.methodLink own idx y_MM_end ∈ gW) (hR : rm_MM_end_v.frames + 1 ≤ R.frames ∧ 8 + (3 + 11) + rm_MM_end_v.locals ≤ R.locals) : CallW R s args own "MailCharactersModel" idx y_MM_end b_MM_end 3 (some .int) w_MM_end rm_MM_end_v 0 0 1 := cwV 1 hts (gW_V hl k_957 k_958 k_77 k_959) rfl rfl rfl (by decide +kernel) hR
