def rm_MM_isCharset_10 : Room := { frames := 0, cells := 0, slots := 0, locals := 0 }
set_option maxHeartbeats 4000000 in
set_option maxRecDepth 100000 in
theorem c_MM_isCharset_10 (l : Launch) (D : va_G) (Z : gZT) (kI : ClassId) (sz : Nat) (p0 : Int32) (hpre0 : p0 < 0) : gMi l y_MM_isCharset w_MM_isCharset rm_MM_isCharset_10 D Z kI [.int p0] sz ([] : va_W) (fun (r : Int32) (_u : Unit) => r = 0) (fun (_u : Unit) => ([] : va_W)) := by
  refine g_ofi (cc := b_MM_isCharset) (maxL := 1) (ty := .boolean) (by decide) rfl (Nat.le_of_ble_eq_true rfl) ?_
  intro p e s m below meth c A Q H ls hx hb hml hown hts hA hK hZ hP hD hS hl hret
  have hown : s.vm.findClass "MailCharactersModel" = some m.cls := hown
  have hl : lv_has ls 1 [(0, .int p0)] := hl
  refine lv_iload_n hx hb d_MM_isCharset_0 rfl (lv_at hl 0 rfl) ?_
  refine lv_if_lt (tgt := 14) hx hb d_MM_isCharset_1 (by decide) (fun _ => ?_) (fun h9 => absurd hpre0 h9)
  refine lv_iconst (v := 0) hx hb d_MM_isCharset_14 (by decide) ?_
  exact hret 0 () _ _ _ _ d_MM_isCharset_15 rfl rfl hP hD hS
theorem cw_MM_isCharset_10 {R : Room} {s : State} {args : Array Value} {own : String} {idx : Nat} (hts : ∀ w ∈ gW, w.before args s = true) (hl : Cond.methodLink own idx y_MM_isCharset ∈ gW) (hR : rm_MM_isCharset_10.frames + 1 ≤ R.frames ∧ 8 + (1 + 11) + rm_MM_isCharset_10.locals ≤ R.locals) : CallB R s args own idx y_MM_isCharset b_MM_isCharset 1 (some .boolean) w_MM_isCharset rm_MM_isCharset_10 0 0 1 ∧ (Cond.static y_MM_isCharset).before args s = true := va_cwS 1 hts (gW_S hl k_1032 k_77 k_1033) rfl rfl rfl (by decide +kernel) hR
def rm_MM_read_10 : Room := { frames := 1, cells := 0, slots := 0, locals := 20 }
set_option maxHeartbeats 4000000 in
set_option maxRecDepth 100000 in
theorem c_MM_read_10 (l : Launch) (D : va_G) (Z : gZT) (kI : ClassId) (a0 : Nat) (x0_nameHead : Nat) (x0_nameTail : Nat) (x0_nameOf : Nat) (x0_windows : Nat) (x0_koi : Nat) (x0_ready : Nat) (x0_tape : Nat) (x0_text : Nat) (x0_out : Nat) (x0_src : Nat) (sz : Nat) (p1 : Int32) (hpre0 : p1 < 0) : gMi l y_MM_read w_MM_read rm_MM_read_10 D Z kI [.ref a0, .int p1] sz [(a0, .inr (9, [.ref x0_nameHead, .ref x0_nameTail, .ref x0_nameOf, .ref x0_windows, .ref x0_koi, .int 0, .ref x0_ready, .ref x0_tape, .int 0, .ref x0_text, .int 0, .ref x0_out, .ref x0_src, .int 0, .int 0, .int 0, .int 0, .int 0, .int 0, .int 0, .int 0, .int 0, .int 0]))] (fun (r : Int32) (_u : Unit) => r = 0) (fun (_u : Unit) => ([(a0, .inr (9, [.ref x0_nameHead, .ref x0_nameTail, .ref x0_nameOf, .ref x0_windows, .ref x0_koi, .int 1, .ref x0_ready, .ref x0_tape, .int 0, .ref x0_text, .int 0, .ref x0_out, .ref x0_src, .int 0, .int 0, .int 0, .int 0, .int 0, .int 0, .int 0, .int 0, .int 0, .int 0]))] : va_W)) := by
  refine g_ofi (cc := b_MM_read) (maxL := 2) (ty := .int) (by decide) rfl (Nat.le_of_ble_eq_true rfl) ?_
  intro p e s m below meth c A Q H ls hx hb hml hown hts hA hK hZ hP hD hS hl hret
  have hown : s.vm.findClass "MailCharactersModel" = some m.cls := hown
  have hl : lv_has ls 2 [(0, .ref a0), (1, .int p1)] := hl
  refine lv_aload_n hx hb d_MM_read_0 rfl (lv_at hl 0 rfl) ?_
  refine lv_iload_n hx hb d_MM_read_1 rfl (lv_at hl 1 rfl) ?_
  refine g_Si (As := [.int p1]) (rest := [.ref a0]) (wr := [(a0, .inr (9, [.ref x0_nameHead, .ref x0_nameTail, .ref x0_nameOf, .ref x0_windows, .ref x0_koi, .int 0, .ref x0_ready, .ref x0_tape, .int 0, .ref x0_text, .int 0, .ref x0_out, .ref x0_src, .int 0, .int 0, .int 0, .int 0, .int 0, .int 0, .int 0, .int 0, .int 0, .int 0]))]) ⟨hx, hb, hml, hown, hts⟩ (c_MM_isCharset_10 l D Z kI H.size p1 hpre0) (cw_MM_isCharset_10 hts k_1031 ⟨Nat.le_of_ble_eq_true rfl, Nat.le_of_ble_eq_true rfl⟩) hK hZ hP hD hS hA [] [0] rfl rfl (by decide) (by decide) (by decide) rfl hl.1 rfl (Nat.le_of_ble_eq_true rfl) d_MM_read_2 ⟨Nat.zero_le _, Nat.zero_le _⟩ (fun r_1 u_1 H locs hw hP hD hS => ?_)
  obtain rfl : r_1 = 0 := hw
  have hP : va_P D vwCl [(a0, .inr (9, [.ref x0_nameHead, .ref x0_nameTail, .ref x0_nameOf, .ref x0_windows, .ref x0_koi, .int 0, .ref x0_ready, .ref x0_tape, .int 0, .ref x0_text, .int 0, .ref x0_out, .ref x0_src, .int 0, .int 0, .int 0, .int 0, .int 0, .int 0, .int 0, .int 0, .int 0, .int 0]))] H := hP
  have hD : va_D A [(a0, .inr (9, [.ref x0_nameHead, .ref x0_nameTail, .ref x0_nameOf, .ref x0_windows, .ref x0_koi, .int 0, .ref x0_ready, .ref x0_tape, .int 0, .ref x0_text, .int 0, .ref x0_out, .ref x0_src, .int 0, .int 0, .int 0, .int 0, .int 0, .int 0, .int 0, .int 0, .int 0, .int 0]))] := hD
  refine lv_if_eq (tgt := 12) hx hb d_MM_read_5 (by decide) (fun _ => ?_) (fun h9 => absurd h9 (by decide +kernel))
  refine lv_iconst (v := 1) hx hb d_MM_read_12 (by decide) ?_
  refine va_put (D := D) (ci := 9) (v := .int 1) (ty := .int) (C := "MailCharactersModel") (T := F_MM) (N := 23) hx hb hts i_MM t_MM t_MM_ok n_MM hown hK hP hD hS 0 rfl rfl 5 (by decide) (hts _ k_878) (fun _ h9 => h9) rfl (by decide +kernel) rfl rfl (Nat.le_of_ble_eq_true rfl) d_MM_read_13 (fun H locs hP hD hS => ?_)
  have hP : va_P D vwCl [(a0, .inr (9, [.ref x0_nameHead, .ref x0_nameTail, .ref x0_nameOf, .ref x0_windows, .ref x0_koi, .int 1, .ref x0_ready, .ref x0_tape, .int 0, .ref x0_text, .int 0, .ref x0_out, .ref x0_src, .int 0, .int 0, .int 0, .int 0, .int 0, .int 0, .int 0, .int 0, .int 0, .int 0]))] H := hP
  have hD : va_D A [(a0, .inr (9, [.ref x0_nameHead, .ref x0_nameTail, .ref x0_nameOf, .ref x0_windows, .ref x0_koi, .int 1, .ref x0_ready, .ref x0_tape, .int 0, .ref x0_text, .int 0, .ref x0_out, .ref x0_src, .int 0, .int 0, .int 0, .int 0, .int 0, .int 0, .int 0, .int 0, .int 0, .int 0]))] := hD
  refine lv_aload_n hx hb d_MM_read_16 rfl (lv_at hl 0 rfl) ?_
  refine va_get (D := D) (ci := 9) (v := .int 1) (C := "MailCharactersModel") (T := F_MM) (N := 23) hx hb hts i_MM hown hK hP 0 rfl rfl 5 (by decide) (hts _ k_878) (fun _ h9 => h9) rfl d_MM_read_17 ?_
  refine lv_if_le (tgt := 25) hx hb d_MM_read_20 (by decide) (fun h9 => absurd h9 (by decide +kernel)) (fun _ => ?_)
  refine lv_iconst (v := 0) hx hb d_MM_read_23 (by decide) ?_
  exact hret 0 () _ _ _ _ d_MM_read_24 rfl rfl hP hD hS
theorem cw_MM_read_10 {R : Room} {s : State} {args : Array Value} {own : String} {idx : Nat} (hts : ∀ w ∈ gW, w.before args s = true) (hl : Cond.methodLink own idx y_MM_read ∈ gW) (hR : rm_MM_read_10.frames + 1 ≤ R.frames ∧ 8 + (2 + 11) + rm_MM_read_10.locals ≤ R.locals) : CallW R s args own "MailCharactersModel" idx y_MM_read b_MM_read 2 (some .int) w_MM_read rm_MM_read_10 0 0 1 := cwV 1 hts (gW_V hl k_1028 k_1029 k_77 k_1030) rfl rfl rfl (by decide +kernel) hR
def rm_MM_isCharset_11 : Room := { frames := 0, cells := 0, slots := 0, locals := 0 }
set_option maxHeartbeats 4000000 in
set_option maxRecDepth 100000 in
theorem c_MM_isCharset_11 (l : Launch) (D : va_G) (Z : gZT) (kI : ClassId) (sz : Nat) (p0 : Int32) (hpre0 : ¬ p0 < 0) (hpre1 : 9 < p0) : gMi l y_MM_isCharset w_MM_isCharset rm_MM_isCharset_11 D Z kI [.int p0] sz ([] : va_W) (fun (r : Int32) (_u : Unit) => r = 0) (fun (_u : Unit) => ([] : va_W)) := by
  refine g_ofi (cc := b_MM_isCharset) (maxL := 1) (ty := .boolean) (by decide) rfl (Nat.le_of_ble_eq_true rfl) ?_
  intro p e s m below meth c A Q H ls hx hb hml hown hts hA hK hZ hP hD hS hl hret
  have hown : s.vm.findClass "MailCharactersModel" = some m.cls := hown
  have hl : lv_has ls 1 [(0, .int p0)] := hl
  refine lv_iload_n hx hb d_MM_isCharset_0 rfl (lv_at hl 0 rfl) ?_
  refine lv_if_lt (tgt := 14) hx hb d_MM_isCharset_1 (by decide) (fun h9 => absurd h9 hpre0) (fun _ => ?_)
  refine lv_iload_n hx hb d_MM_isCharset_4 rfl (lv_at hl 0 rfl) ?_
  refine lv_bipush (v := 9) hx hb d_MM_isCharset_5 (by decide) ?_
  refine lv_icmp_gt (tgt := 14) hx hb d_MM_isCharset_7 (by decide) (fun _ => ?_) (fun h9 => absurd hpre1 h9)
  refine lv_iconst (v := 0) hx hb d_MM_isCharset_14 (by decide) ?_
  exact hret 0 () _ _ _ _ d_MM_isCharset_15 rfl rfl hP hD hS
theorem cw_MM_isCharset_11 {R : Room} {s : State} {args : Array Value} {own : String} {idx : Nat} (hts : ∀ w ∈ gW, w.before args s = true) (hl : Cond.methodLink own idx y_MM_isCharset ∈ gW) (hR : rm_MM_isCharset_11.frames + 1 ≤ R.frames ∧ 8 + (1 + 11) + rm_MM_isCharset_11.locals ≤ R.locals) : CallB R s args own idx y_MM_isCharset b_MM_isCharset 1 (some .boolean) w_MM_isCharset rm_MM_isCharset_11 0 0 1 ∧ (Cond.static y_MM_isCharset).before args s = true := va_cwS 1 hts (gW_S hl k_1032 k_77 k_1033) rfl rfl rfl (by decide +kernel) hR
def rm_MM_read_11 : Room := { frames := 1, cells := 0, slots := 0, locals := 20 }
set_option maxHeartbeats 4000000 in
set_option maxRecDepth 100000 in
theorem c_MM_read_11 (l : Launch) (D : va_G) (Z : gZT) (kI : ClassId) (a0 : Nat) (x0_nameHead : Nat) (x0_nameTail : Nat) (x0_nameOf : Nat) (x0_windows : Nat) (x0_koi : Nat) (x0_ready : Nat) (x0_tape : Nat) (x0_text : Nat) (x0_out : Nat) (x0_src : Nat) (sz : Nat) (p1 : Int32) (hpre0 : ¬ p1 < 0) (hpre1 : 9 < p1) : gMi l y_MM_read w_MM_read rm_MM_read_11 D Z kI [.ref a0, .int p1] sz [(a0, .inr (9, [.ref x0_nameHead, .ref x0_nameTail, .ref x0_nameOf, .ref x0_windows, .ref x0_koi, .int 0, .ref x0_ready, .ref x0_tape, .int 0, .ref x0_text, .int 0, .ref x0_out, .ref x0_src, .int 0, .int 0, .int 0, .int 0, .int 0, .int 0, .int 0, .int 0, .int 0, .int 0]))] (fun (r : Int32) (_u : Unit) => r = 0) (fun (_u : Unit) => ([(a0, .inr (9, [.ref x0_nameHead, .ref x0_nameTail, .ref x0_nameOf, .ref x0_windows, .ref x0_koi, .int 1, .ref x0_ready, .ref x0_tape, .int 0, .ref x0_text, .int 0, .ref x0_out, .ref x0_src, .int 0, .int 0, .int 0, .int 0, .int 0, .int 0, .int 0, .int 0, .int 0, .int 0]))] : va_W)) := by
  refine g_ofi (cc := b_MM_read) (maxL := 2) (ty := .int) (by decide) rfl (Nat.le_of_ble_eq_true rfl) ?_
  intro p e s m below meth c A Q H ls hx hb hml hown hts hA hK hZ hP hD hS hl hret
  have hown : s.vm.findClass "MailCharactersModel" = some m.cls := hown
  have hl : lv_has ls 2 [(0, .ref a0), (1, .int p1)] := hl
  refine lv_aload_n hx hb d_MM_read_0 rfl (lv_at hl 0 rfl) ?_
  refine lv_iload_n hx hb d_MM_read_1 rfl (lv_at hl 1 rfl) ?_
  refine g_Si (As := [.int p1]) (rest := [.ref a0]) (wr := [(a0, .inr (9, [.ref x0_nameHead, .ref x0_nameTail, .ref x0_nameOf, .ref x0_windows, .ref x0_koi, .int 0, .ref x0_ready, .ref x0_tape, .int 0, .ref x0_text, .int 0, .ref x0_out, .ref x0_src, .int 0, .int 0, .int 0, .int 0, .int 0, .int 0, .int 0, .int 0, .int 0, .int 0]))]) ⟨hx, hb, hml, hown, hts⟩ (c_MM_isCharset_11 l D Z kI H.size p1 hpre0 hpre1) (cw_MM_isCharset_11 hts k_1031 ⟨Nat.le_of_ble_eq_true rfl, Nat.le_of_ble_eq_true rfl⟩) hK hZ hP hD hS hA [] [0] rfl rfl (by decide) (by decide) (by decide) rfl hl.1 rfl (Nat.le_of_ble_eq_true rfl) d_MM_read_2 ⟨Nat.zero_le _, Nat.zero_le _⟩ (fun r_1 u_1 H locs hw hP hD hS => ?_)
  obtain rfl : r_1 = 0 := hw
  have hP : va_P D vwCl [(a0, .inr (9, [.ref x0_nameHead, .ref x0_nameTail, .ref x0_nameOf, .ref x0_windows, .ref x0_koi, .int 0, .ref x0_ready, .ref x0_tape, .int 0, .ref x0_text, .int 0, .ref x0_out, .ref x0_src, .int 0, .int 0, .int 0, .int 0, .int 0, .int 0, .int 0, .int 0, .int 0, .int 0]))] H := hP
  have hD : va_D A [(a0, .inr (9, [.ref x0_nameHead, .ref x0_nameTail, .ref x0_nameOf, .ref x0_windows, .ref x0_koi, .int 0, .ref x0_ready, .ref x0_tape, .int 0, .ref x0_text, .int 0, .ref x0_out, .ref x0_src, .int 0, .int 0, .int 0, .int 0, .int 0, .int 0, .int 0, .int 0, .int 0, .int 0]))] := hD
  refine lv_if_eq (tgt := 12) hx hb d_MM_read_5 (by decide) (fun _ => ?_) (fun h9 => absurd h9 (by decide +kernel))
  refine lv_iconst (v := 1) hx hb d_MM_read_12 (by decide) ?_
  refine va_put (D := D) (ci := 9) (v := .int 1) (ty := .int) (C := "MailCharactersModel") (T := F_MM) (N := 23) hx hb hts i_MM t_MM t_MM_ok n_MM hown hK hP hD hS 0 rfl rfl 5 (by decide) (hts _ k_878) (fun _ h9 => h9) rfl (by decide +kernel) rfl rfl (Nat.le_of_ble_eq_true rfl) d_MM_read_13 (fun H locs hP hD hS => ?_)
  have hP : va_P D vwCl [(a0, .inr (9, [.ref x0_nameHead, .ref x0_nameTail, .ref x0_nameOf, .ref x0_windows, .ref x0_koi, .int 1, .ref x0_ready, .ref x0_tape, .int 0, .ref x0_text, .int 0, .ref x0_out, .ref x0_src, .int 0, .int 0, .int 0, .int 0, .int 0, .int 0, .int 0, .int 0, .int 0, .int 0]))] H := hP
  have hD : va_D A [(a0, .inr (9, [.ref x0_nameHead, .ref x0_nameTail, .ref x0_nameOf, .ref x0_windows, .ref x0_koi, .int 1, .ref x0_ready, .ref x0_tape, .int 0, .ref x0_text, .int 0, .ref x0_out, .ref x0_src, .int 0, .int 0, .int 0, .int 0, .int 0, .int 0, .int 0, .int 0, .int 0, .int 0]))] := hD
  refine lv_aload_n hx hb d_MM_read_16 rfl (lv_at hl 0 rfl) ?_
  refine va_get (D := D) (ci := 9) (v := .int 1) (C := "MailCharactersModel") (T := F_MM) (N := 23) hx hb hts i_MM hown hK hP 0 rfl rfl 5 (by decide) (hts _ k_878) (fun _ h9 => h9) rfl d_MM_read_17 ?_
  refine lv_if_le (tgt := 25) hx hb d_MM_read_20 (by decide) (fun h9 => absurd h9 (by decide +kernel)) (fun _ => ?_)
  refine lv_iconst (v := 0) hx hb d_MM_read_23 (by decide) ?_
  exact hret 0 () _ _ _ _ d_MM_read_24 rfl rfl hP hD hS
theorem cw_MM_read_11 {R : Room} {s : State} {args : Array Value} {own : String} {idx : Nat} (hts : ∀ w ∈ gW, w.before args s = true) (hl : Cond.methodLink own idx y_MM_read ∈ gW) (hR : rm_MM_read_11.frames + 1 ≤ R.frames ∧ 8 + (2 + 11) + rm_MM_read_11.locals ≤ R.locals) : CallW R s args own "MailCharactersModel" idx y_MM_read b_MM_read 2 (some .int) w_MM_read rm_MM_read_11 0 0 1 := cwV 1 hts (gW_V hl k_1028 k_1029 k_77 k_1030) rfl rfl rfl (by decide +kernel) hR
def rm_MM_write_0 : Room := { frames := 1, cells := 0, slots := 0, locals := 21 }
set_option maxHeartbeats 4000000 in
set_option maxRecDepth 100000 in
theorem c_MM_write_0 (l : Launch) (D : va_G) (Z : gZT) (kI : ClassId) (a0 : Nat) (x0_nameHead : Nat) (x0_nameTail : Nat) (x0_nameOf : Nat) (x0_windows : Nat) (x0_koi : Nat) (x0_ready : Nat) (x0_tape : Nat) (x0_text : Nat) (x0_out : Nat) (x0_src : Nat) (sz : Nat) : gMi l y_MM_write w_MM_write rm_MM_write_0 D Z kI [.ref a0, .int 0] sz [(a0, .inr (9, [.ref x0_nameHead, .ref x0_nameTail, .ref x0_nameOf, .ref x0_windows, .ref x0_koi, .int 0, .ref x0_ready, .ref x0_tape, .int 0, .ref x0_text, .int 0, .ref x0_out, .ref x0_src, .int 0, .int 0, .int 0, .int 0, .int 0, .int 0, .int 0, .int 0, .int 0, .int 0]))] (fun (r : Int32) (_u : Unit) => r = 0) (fun (_u : Unit) => ([(a0, .inr (9, [.ref x0_nameHead, .ref x0_nameTail, .ref x0_nameOf, .ref x0_windows, .ref x0_koi, .int 0, .ref x0_ready, .ref x0_tape, .int 0, .ref x0_text, .int 0, .ref x0_out, .ref x0_src, .int 0, .int 0, .int 0, .int 0, .int 0, .int 0, .int 0, .int 0, .int 0, .int 0]))] : va_W)) := by
  refine g_ofi (cc := b_MM_write) (maxL := 4) (ty := .int) (by decide) rfl (Nat.le_of_ble_eq_true rfl) ?_
  intro p e s m below meth c A Q H ls hx hb hml hown hts hA hK hZ hP hD hS hl hret
  have hown : s.vm.findClass "MailCharactersModel" = some m.cls := hown
  have hl : lv_has ls 4 [(0, .ref a0), (1, .int 0)] := hl
  refine lv_aload_n hx hb d_MM_write_0 rfl (lv_at hl 0 rfl) ?_
  refine lv_iload_n hx hb d_MM_write_1 rfl (lv_at hl 1 rfl) ?_
  refine g_Si (As := [.int 0]) (rest := [.ref a0]) (wr := [(a0, .inr (9, [.ref x0_nameHead, .ref x0_nameTail, .ref x0_nameOf, .ref x0_windows, .ref x0_koi, .int 0, .ref x0_ready, .ref x0_tape, .int 0, .ref x0_text, .int 0, .ref x0_out, .ref x0_src, .int 0, .int 0, .int 0, .int 0, .int 0, .int 0, .int 0, .int 0, .int 0, .int 0]))]) ⟨hx, hb, hml, hown, hts⟩ (c_MM_isCharset_0 l D Z kI H.size) (cw_MM_isCharset_0 hts k_1031 ⟨Nat.le_of_ble_eq_true rfl, Nat.le_of_ble_eq_true rfl⟩) hK hZ hP hD hS hA [] [0] rfl rfl (by decide) (by decide) (by decide) rfl hl.1 rfl (Nat.le_of_ble_eq_true rfl) d_MM_write_2 ⟨Nat.zero_le _, Nat.zero_le _⟩ (fun r_1 u_1 H locs hw hP hD hS => ?_)
  obtain rfl : r_1 = 1 := hw
  have hP : va_P D vwCl [(a0, .inr (9, [.ref x0_nameHead, .ref x0_nameTail, .ref x0_nameOf, .ref x0_windows, .ref x0_koi, .int 0, .ref x0_ready, .ref x0_tape, .int 0, .ref x0_text, .int 0, .ref x0_out, .ref x0_src, .int 0, .int 0, .int 0, .int 0, .int 0, .int 0, .int 0, .int 0, .int 0, .int 0]))] H := hP
  have hD : va_D A [(a0, .inr (9, [.ref x0_nameHead, .ref x0_nameTail, .ref x0_nameOf, .ref x0_windows, .ref x0_koi, .int 0, .ref x0_ready, .ref x0_tape, .int 0, .ref x0_text, .int 0, .ref x0_out, .ref x0_src, .int 0, .int 0, .int 0, .int 0, .int 0, .int 0, .int 0, .int 0, .int 0, .int 0]))] := hD
  refine lv_if_eq (tgt := 12) hx hb d_MM_write_5 (by decide) (fun h9 => absurd h9 (by decide +kernel)) (fun _ => ?_)
  refine lv_iconst (v := 0) hx hb d_MM_write_8 (by decide) ?_
  refine lv_goto (tgt := 13) hx hb d_MM_write_9 (by decide) ?_
  refine va_put (D := D) (ci := 9) (v := .int 0) (ty := .int) (C := "MailCharactersModel") (T := F_MM) (N := 23) hx hb hts i_MM t_MM t_MM_ok n_MM hown hK hP hD hS 0 rfl rfl 5 (by decide) (hts _ k_878) (fun _ h9 => h9) rfl (by decide +kernel) rfl rfl (Nat.le_of_ble_eq_true rfl) d_MM_write_13 (fun H locs hP hD hS => ?_)
  have hP : va_P D vwCl [(a0, .inr (9, [.ref x0_nameHead, .ref x0_nameTail, .ref x0_nameOf, .ref x0_windows, .ref x0_koi, .int 0, .ref x0_ready, .ref x0_tape, .int 0, .ref x0_text, .int 0, .ref x0_out, .ref x0_src, .int 0, .int 0, .int 0, .int 0, .int 0, .int 0, .int 0, .int 0, .int 0, .int 0]))] H := hP
  have hD : va_D A [(a0, .inr (9, [.ref x0_nameHead, .ref x0_nameTail, .ref x0_nameOf, .ref x0_windows, .ref x0_koi, .int 0, .ref x0_ready, .ref x0_tape, .int 0, .ref x0_text, .int 0, .ref x0_out, .ref x0_src, .int 0, .int 0, .int 0, .int 0, .int 0, .int 0, .int 0, .int 0, .int 0, .int 0]))] := hD
  refine lv_aload_n hx hb d_MM_write_16 rfl (lv_at hl 0 rfl) ?_
  refine va_get (D := D) (ci := 9) (v := .int 0) (C := "MailCharactersModel") (T := F_MM) (N := 23) hx hb hts i_MM hown hK hP 0 rfl rfl 5 (by decide) (hts _ k_878) (fun _ h9 => h9) rfl d_MM_write_17 ?_
  refine lv_if_le (tgt := 25) hx hb d_MM_write_20 (by decide) (fun _ => ?_) (fun h9 => absurd h9 (by decide +kernel))
  refine lv_aload_n hx hb d_MM_write_25 rfl (lv_at hl 0 rfl) ?_
  refine lv_iconst (v := 0) hx hb d_MM_write_26 (by decide) ?_
  refine va_put (D := D) (ci := 9) (v := .int 0) (ty := .int) (C := "MailCharactersModel") (T := F_MM) (N := 23) hx hb hts i_MM t_MM t_MM_ok n_MM hown hK hP hD hS 0 rfl rfl 13 (by decide) (hts _ k_886) (fun _ h9 => h9) rfl (by decide +kernel) rfl rfl (Nat.le_of_ble_eq_true rfl) d_MM_write_27 (fun H locs hP hD hS => ?_)
  have hP : va_P D vwCl [(a0, .inr (9, [.ref x0_nameHead, .ref x0_nameTail, .ref x0_nameOf, .ref x0_windows, .ref x0_koi, .int 0, .ref x0_ready, .ref x0_tape, .int 0, .ref x0_text, .int 0, .ref x0_out, .ref x0_src, .int 0, .int 0, .int 0, .int 0, .int 0, .int 0, .int 0, .int 0, .int 0, .int 0]))] H := hP
  have hD : va_D A [(a0, .inr (9, [.ref x0_nameHead, .ref x0_nameTail, .ref x0_nameOf, .ref x0_windows, .ref x0_koi, .int 0, .ref x0_ready, .ref x0_tape, .int 0, .ref x0_text, .int 0, .ref x0_out, .ref x0_src, .int 0, .int 0, .int 0, .int 0, .int 0, .int 0, .int 0, .int 0, .int 0, .int 0]))] := hD
  refine lv_iload_n hx hb d_MM_write_30 rfl (lv_at hl 1 rfl) ?_
  refine lv_iconst (v := 5) hx hb d_MM_write_31 (by decide) ?_
  refine lv_icmp_ne (tgt := 49) hx hb d_MM_write_32 (by decide) (fun _ => ?_) (fun h9 => absurd h9 (by decide +kernel))
  refine lv_iconst (v := 0) hx hb d_MM_write_49 (by decide) ?_
  refine lv_istore_n (lv' := [(2, .int 0), (0, .ref a0), (1, .int 0)]) hx hb d_MM_write_50 rfl hl (by decide) rfl (fun ls hl => ?_)
  refine lv_iload_n hx hb d_MM_write_51 rfl (lv_at hl 0 rfl) ?_
  refine lv_aload_n hx hb d_MM_write_52 rfl (lv_at hl 1 rfl) ?_
  refine va_get (D := D) (ci := 9) (v := .int 0) (C := "MailCharactersModel") (T := F_MM) (N := 23) hx hb hts i_MM hown hK hP 0 rfl rfl 10 (by decide) (hts _ k_883) (fun _ h9 => h9) rfl d_MM_write_53 ?_
  refine lv_icmp_ge (tgt := 94) hx hb d_MM_write_56 (by decide) (fun _ => ?_) (fun h9 => absurd h9 (by decide +kernel))
  refine lv_aload_n hx hb d_MM_write_94 rfl (lv_at hl 1 rfl) ?_
  refine g_Vv (As := []) (rest := []) (wr := []) ⟨hx, hb, hml, hown, hts⟩ (c_MM_outToTape_0 l D Z kI a0 x0_nameHead x0_nameTail x0_nameOf x0_windows x0_koi x0_ready x0_tape x0_text x0_out x0_src H.size) (cw_MM_outToTape_0 hts k_1023 ⟨Nat.le_of_ble_eq_true rfl, Nat.le_of_ble_eq_true rfl⟩) hK hZ hP hD hS hA [0] [] (g_recv hK hP (ci := 9) (q0 := 0) rfl rfl) rfl rfl (by decide) (by decide) (by decide) rfl hl.1 rfl (Nat.le_of_ble_eq_true rfl) d_MM_write_95 ⟨Nat.zero_le _, Nat.zero_le _⟩ (fun u_2 H locs hw hP hD hS => ?_)
  have hP : va_P D vwCl [(a0, .inr (9, [.ref x0_nameHead, .ref x0_nameTail, .ref x0_nameOf, .ref x0_windows, .ref x0_koi, .int 0, .ref x0_ready, .ref x0_tape, .int 0, .ref x0_text, .int 0, .ref x0_out, .ref x0_src, .int 0, .int 0, .int 0, .int 0, .int 0, .int 0, .int 0, .int 0, .int 0, .int 0]))] H := hP
  have hD : va_D A [(a0, .inr (9, [.ref x0_nameHead, .ref x0_nameTail, .ref x0_nameOf, .ref x0_windows, .ref x0_koi, .int 0, .ref x0_ready, .ref x0_tape, .int 0, .ref x0_text, .int 0, .ref x0_out, .ref x0_src, .int 0, .int 0, .int 0, .int 0, .int 0, .int 0, .int 0, .int 0, .int 0, .int 0]))] := hD
  refine lv_aload_n hx hb d_MM_write_98 rfl (lv_at hl 1 rfl) ?_
  refine va_get (D := D) (ci := 9) (v := .int 0) (C := "MailCharactersModel") (T := F_MM) (N := 23) hx hb hts i_MM hown hK hP 0 rfl rfl 8 (by decide) (hts _ k_881) (fun _ h9 => h9) rfl d_MM_write_99 ?_
  exact hret 0 () _ _ _ _ d_MM_write_102 rfl rfl hP hD hS
theorem cw_MM_write_0 {R : Room} {s : State} {args : Array Value} {own : String} {idx : Nat} (hts : ∀ w ∈ gW, w.before args s = true) (hl : Cond.methodLink own idx y_MM_write ∈ gW) (hR : rm_MM_write_0.frames + 1 ≤ R.frames ∧ 8 + (4 + 11) + rm_MM_write_0.locals ≤ R.locals) : CallW R s args own "MailCharactersModel" idx y_MM_write b_MM_write 4 (some .int) w_MM_write rm_MM_write_0 0 0 1 := cwV 1 hts (gW_V hl k_1121 k_1122 k_77 k_1123) rfl rfl rfl (by decide +kernel) hR
def rm_MM_write_1 : Room := { frames := 1, cells := 0, slots := 0, locals := 21 }
set_option maxHeartbeats 4000000 in
set_option maxRecDepth 100000 in
theorem c_MM_write_1 (l : Launch) (D : va_G) (Z : gZT) (kI : ClassId) (a0 : Nat) (x0_nameHead : Nat) (x0_nameTail : Nat) (x0_nameOf : Nat) (x0_windows : Nat) (x0_koi : Nat) (x0_ready : Nat) (x0_tape : Nat) (x0_text : Nat) (x0_out : Nat) (x0_src : Nat) (sz : Nat) : gMi l y_MM_write w_MM_write rm_MM_write_1 D Z kI [.ref a0, .int 1] sz [(a0, .inr (9, [.ref x0_nameHead, .ref x0_nameTail, .ref x0_nameOf, .ref x0_windows, .ref x0_koi, .int 0, .ref x0_ready, .ref x0_tape, .int 0, .ref x0_text, .int 0, .ref x0_out, .ref x0_src, .int 0, .int 0, .int 0, .int 0, .int 0, .int 0, .int 0, .int 0, .int 0, .int 0]))] (fun (r : Int32) (_u : Unit) => r = 0) (fun (_u : Unit) => ([(a0, .inr (9, [.ref x0_nameHead, .ref x0_nameTail, .ref x0_nameOf, .ref x0_windows, .ref x0_koi, .int 0, .ref x0_ready, .ref x0_tape, .int 0, .ref x0_text, .int 0, .ref x0_out, .ref x0_src, .int 0, .int 0, .int 0, .int 0, .int 0, .int 0, .int 0, .int 0, .int 0, .int 0]))] : va_W)) := by
  refine g_ofi (cc := b_MM_write) (maxL := 4) (ty := .int) (by decide) rfl (Nat.le_of_ble_eq_true rfl) ?_
  intro p e s m below meth c A Q H ls hx hb hml hown hts hA hK hZ hP hD hS hl hret
  have hown : s.vm.findClass "MailCharactersModel" = some m.cls := hown
  have hl : lv_has ls 4 [(0, .ref a0), (1, .int 1)] := hl
  refine lv_aload_n hx hb d_MM_write_0 rfl (lv_at hl 0 rfl) ?_
  refine lv_iload_n hx hb d_MM_write_1 rfl (lv_at hl 1 rfl) ?_
  refine g_Si (As := [.int 1]) (rest := [.ref a0]) (wr := [(a0, .inr (9, [.ref x0_nameHead, .ref x0_nameTail, .ref x0_nameOf, .ref x0_windows, .ref x0_koi, .int 0, .ref x0_ready, .ref x0_tape, .int 0, .ref x0_text, .int 0, .ref x0_out, .ref x0_src, .int 0, .int 0, .int 0, .int 0, .int 0, .int 0, .int 0, .int 0, .int 0, .int 0]))]) ⟨hx, hb, hml, hown, hts⟩ (c_MM_isCharset_1 l D Z kI H.size) (cw_MM_isCharset_1 hts k_1031 ⟨Nat.le_of_ble_eq_true rfl, Nat.le_of_ble_eq_true rfl⟩) hK hZ hP hD hS hA [] [0] rfl rfl (by decide) (by decide) (by decide) rfl hl.1 rfl (Nat.le_of_ble_eq_true rfl) d_MM_write_2 ⟨Nat.zero_le _, Nat.zero_le _⟩ (fun r_1 u_1 H locs hw hP hD hS => ?_)
  obtain rfl : r_1 = 1 := hw
  have hP : va_P D vwCl [(a0, .inr (9, [.ref x0_nameHead, .ref x0_nameTail, .ref x0_nameOf, .ref x0_windows, .ref x0_koi, .int 0, .ref x0_ready, .ref x0_tape, .int 0, .ref x0_text, .int 0, .ref x0_out, .ref x0_src, .int 0, .int 0, .int 0, .int 0, .int 0, .int 0, .int 0, .int 0, .int 0, .int 0]))] H := hP
  have hD : va_D A [(a0, .inr (9, [.ref x0_nameHead, .ref x0_nameTail, .ref x0_nameOf, .ref x0_windows, .ref x0_koi, .int 0, .ref x0_ready, .ref x0_tape, .int 0, .ref x0_text, .int 0, .ref x0_out, .ref x0_src, .int 0, .int 0, .int 0, .int 0, .int 0, .int 0, .int 0, .int 0, .int 0, .int 0]))] := hD
  refine lv_if_eq (tgt := 12) hx hb d_MM_write_5 (by decide) (fun h9 => absurd h9 (by decide +kernel)) (fun _ => ?_)
  refine lv_iconst (v := 0) hx hb d_MM_write_8 (by decide) ?_
  refine lv_goto (tgt := 13) hx hb d_MM_write_9 (by decide) ?_
  refine va_put (D := D) (ci := 9) (v := .int 0) (ty := .int) (C := "MailCharactersModel") (T := F_MM) (N := 23) hx hb hts i_MM t_MM t_MM_ok n_MM hown hK hP hD hS 0 rfl rfl 5 (by decide) (hts _ k_878) (fun _ h9 => h9) rfl (by decide +kernel) rfl rfl (Nat.le_of_ble_eq_true rfl) d_MM_write_13 (fun H locs hP hD hS => ?_)
  have hP : va_P D vwCl [(a0, .inr (9, [.ref x0_nameHead, .ref x0_nameTail, .ref x0_nameOf, .ref x0_windows, .ref x0_koi, .int 0, .ref x0_ready, .ref x0_tape, .int 0, .ref x0_text, .int 0, .ref x0_out, .ref x0_src, .int 0, .int 0, .int 0, .int 0, .int 0, .int 0, .int 0, .int 0, .int 0, .int 0]))] H := hP
  have hD : va_D A [(a0, .inr (9, [.ref x0_nameHead, .ref x0_nameTail, .ref x0_nameOf, .ref x0_windows, .ref x0_koi, .int 0, .ref x0_ready, .ref x0_tape, .int 0, .ref x0_text, .int 0, .ref x0_out, .ref x0_src, .int 0, .int 0, .int 0, .int 0, .int 0, .int 0, .int 0, .int 0, .int 0, .int 0]))] := hD
  refine lv_aload_n hx hb d_MM_write_16 rfl (lv_at hl 0 rfl) ?_
  refine va_get (D := D) (ci := 9) (v := .int 0) (C := "MailCharactersModel") (T := F_MM) (N := 23) hx hb hts i_MM hown hK hP 0 rfl rfl 5 (by decide) (hts _ k_878) (fun _ h9 => h9) rfl d_MM_write_17 ?_
  refine lv_if_le (tgt := 25) hx hb d_MM_write_20 (by decide) (fun _ => ?_) (fun h9 => absurd h9 (by decide +kernel))
  refine lv_aload_n hx hb d_MM_write_25 rfl (lv_at hl 0 rfl) ?_
  refine lv_iconst (v := 0) hx hb d_MM_write_26 (by decide) ?_
  refine va_put (D := D) (ci := 9) (v := .int 0) (ty := .int) (C := "MailCharactersModel") (T := F_MM) (N := 23) hx hb hts i_MM t_MM t_MM_ok n_MM hown hK hP hD hS 0 rfl rfl 13 (by decide) (hts _ k_886) (fun _ h9 => h9) rfl (by decide +kernel) rfl rfl (Nat.le_of_ble_eq_true rfl) d_MM_write_27 (fun H locs hP hD hS => ?_)
  have hP : va_P D vwCl [(a0, .inr (9, [.ref x0_nameHead, .ref x0_nameTail, .ref x0_nameOf, .ref x0_windows, .ref x0_koi, .int 0, .ref x0_ready, .ref x0_tape, .int 0, .ref x0_text, .int 0, .ref x0_out, .ref x0_src, .int 0, .int 0, .int 0, .int 0, .int 0, .int 0, .int 0, .int 0, .int 0, .int 0]))] H := hP
  have hD : va_D A [(a0, .inr (9, [.ref x0_nameHead, .ref x0_nameTail, .ref x0_nameOf, .ref x0_windows, .ref x0_koi, .int 0, .ref x0_ready, .ref x0_tape, .int 0, .ref x0_text, .int 0, .ref x0_out, .ref x0_src, .int 0, .int 0, .int 0, .int 0, .int 0, .int 0, .int 0, .int 0, .int 0, .int 0]))] := hD
  refine lv_iload_n hx hb d_MM_write_30 rfl (lv_at hl 1 rfl) ?_
  refine lv_iconst (v := 5) hx hb d_MM_write_31 (by decide) ?_
  refine lv_icmp_ne (tgt := 49) hx hb d_MM_write_32 (by decide) (fun _ => ?_) (fun h9 => absurd h9 (by decide +kernel))
  refine lv_iconst (v := 0) hx hb d_MM_write_49 (by decide) ?_
  refine lv_istore_n (lv' := [(2, .int 0), (0, .ref a0), (1, .int 1)]) hx hb d_MM_write_50 rfl hl (by decide) rfl (fun ls hl => ?_)
  refine lv_iload_n hx hb d_MM_write_51 rfl (lv_at hl 0 rfl) ?_
  refine lv_aload_n hx hb d_MM_write_52 rfl (lv_at hl 1 rfl) ?_
  refine va_get (D := D) (ci := 9) (v := .int 0) (C := "MailCharactersModel") (T := F_MM) (N := 23) hx hb hts i_MM hown hK hP 0 rfl rfl 10 (by decide) (hts _ k_883) (fun _ h9 => h9) rfl d_MM_write_53 ?_
  refine lv_icmp_ge (tgt := 94) hx hb d_MM_write_56 (by decide) (fun _ => ?_) (fun h9 => absurd h9 (by decide +kernel))
  refine lv_aload_n hx hb d_MM_write_94 rfl (lv_at hl 1 rfl) ?_
  refine g_Vv (As := []) (rest := []) (wr := []) ⟨hx, hb, hml, hown, hts⟩ (c_MM_outToTape_0 l D Z kI a0 x0_nameHead x0_nameTail x0_nameOf x0_windows x0_koi x0_ready x0_tape x0_text x0_out x0_src H.size) (cw_MM_outToTape_0 hts k_1023 ⟨Nat.le_of_ble_eq_true rfl, Nat.le_of_ble_eq_true rfl⟩) hK hZ hP hD hS hA [0] [] (g_recv hK hP (ci := 9) (q0 := 0) rfl rfl) rfl rfl (by decide) (by decide) (by decide) rfl hl.1 rfl (Nat.le_of_ble_eq_true rfl) d_MM_write_95 ⟨Nat.zero_le _, Nat.zero_le _⟩ (fun u_2 H locs hw hP hD hS => ?_)
  have hP : va_P D vwCl [(a0, .inr (9, [.ref x0_nameHead, .ref x0_nameTail, .ref x0_nameOf, .ref x0_windows, .ref x0_koi, .int 0, .ref x0_ready, .ref x0_tape, .int 0, .ref x0_text, .int 0, .ref x0_out, .ref x0_src, .int 0, .int 0, .int 0, .int 0, .int 0, .int 0, .int 0, .int 0, .int 0, .int 0]))] H := hP
  have hD : va_D A [(a0, .inr (9, [.ref x0_nameHead, .ref x0_nameTail, .ref x0_nameOf, .ref x0_windows, .ref x0_koi, .int 0, .ref x0_ready, .ref x0_tape, .int 0, .ref x0_text, .int 0, .ref x0_out, .ref x0_src, .int 0, .int 0, .int 0, .int 0, .int 0, .int 0, .int 0, .int 0, .int 0, .int 0]))] := hD
  refine lv_aload_n hx hb d_MM_write_98 rfl (lv_at hl 1 rfl) ?_
  refine va_get (D := D) (ci := 9) (v := .int 0) (C := "MailCharactersModel") (T := F_MM) (N := 23) hx hb hts i_MM hown hK hP 0 rfl rfl 8 (by decide) (hts _ k_881) (fun _ h9 => h9) rfl d_MM_write_99 ?_
  exact hret 0 () _ _ _ _ d_MM_write_102 rfl rfl hP hD hS
theorem cw_MM_write_1 {R : Room} {s : State} {args : Array Value} {own : String} {idx : Nat} (hts : ∀ w ∈ gW, w.before args s = true) (hl : Cond.methodLink own idx y_MM_write ∈ gW) (hR : rm_MM_write_1.frames + 1 ≤ R.frames ∧ 8 + (4 + 11) + rm_MM_write_1.locals ≤ R.locals) : CallW R s args own "MailCharactersModel" idx y_MM_write b_MM_write 4 (some .int) w_MM_write rm_MM_write_1 0 0 1 := cwV 1 hts (gW_V hl k_1121 k_1122 k_77 k_1123) rfl rfl rfl (by decide +kernel) hR
def rm_MM_write_2 : Room := { frames := 1, cells := 0, slots := 0, locals := 21 }
set_option maxHeartbeats 4000000 in
set_option maxRecDepth 100000 in
theorem c_MM_write_2 (l : Launch) (D : va_G) (Z : gZT) (kI : ClassId) (a0 : Nat) (x0_nameHead : Nat) (x0_nameTail : Nat) (x0_nameOf : Nat) (x0_windows : Nat) (x0_koi : Nat) (x0_ready : Nat) (x0_tape : Nat) (x0_text : Nat) (x0_out : Nat) (x0_src : Nat) (sz : Nat) : gMi l y_MM_write w_MM_write rm_MM_write_2 D Z kI [.ref a0, .int 2] sz [(a0, .inr (9, [.ref x0_nameHead, .ref x0_nameTail, .ref x0_nameOf, .ref x0_windows, .ref x0_koi, .int 0, .ref x0_ready, .ref x0_tape, .int 0, .ref x0_text, .int 0, .ref x0_out, .ref x0_src, .int 0, .int 0, .int 0, .int 0, .int 0, .int 0, .int 0, .int 0, .int 0, .int 0]))] (fun (r : Int32) (_u : Unit) => r = 0) (fun (_u : Unit) => ([(a0, .inr (9, [.ref x0_nameHead, .ref x0_nameTail, .ref x0_nameOf, .ref x0_windows, .ref x0_koi, .int 0, .ref x0_ready, .ref x0_tape, .int 0, .ref x0_text, .int 0, .ref x0_out, .ref x0_src, .int 0, .int 0, .int 0, .int 0, .int 0, .int 0, .int 0, .int 0, .int 0, .int 0]))] : va_W)) := by
  refine g_ofi (cc := b_MM_write) (maxL := 4) (ty := .int) (by decide) rfl (Nat.le_of_ble_eq_true rfl) ?_
  intro p e s m below meth c A Q H ls hx hb hml hown hts hA hK hZ hP hD hS hl hret
  have hown : s.vm.findClass "MailCharactersModel" = some m.cls := hown
  have hl : lv_has ls 4 [(0, .ref a0), (1, .int 2)] := hl
  refine lv_aload_n hx hb d_MM_write_0 rfl (lv_at hl 0 rfl) ?_
  refine lv_iload_n hx hb d_MM_write_1 rfl (lv_at hl 1 rfl) ?_
  refine g_Si (As := [.int 2]) (rest := [.ref a0]) (wr := [(a0, .inr (9, [.ref x0_nameHead, .ref x0_nameTail, .ref x0_nameOf, .ref x0_windows, .ref x0_koi, .int 0, .ref x0_ready, .ref x0_tape, .int 0, .ref x0_text, .int 0, .ref x0_out, .ref x0_src, .int 0, .int 0, .int 0, .int 0, .int 0, .int 0, .int 0, .int 0, .int 0, .int 0]))]) ⟨hx, hb, hml, hown, hts⟩ (c_MM_isCharset_2 l D Z kI H.size) (cw_MM_isCharset_2 hts k_1031 ⟨Nat.le_of_ble_eq_true rfl, Nat.le_of_ble_eq_true rfl⟩) hK hZ hP hD hS hA [] [0] rfl rfl (by decide) (by decide) (by decide) rfl hl.1 rfl (Nat.le_of_ble_eq_true rfl) d_MM_write_2 ⟨Nat.zero_le _, Nat.zero_le _⟩ (fun r_1 u_1 H locs hw hP hD hS => ?_)
  obtain rfl : r_1 = 1 := hw
  have hP : va_P D vwCl [(a0, .inr (9, [.ref x0_nameHead, .ref x0_nameTail, .ref x0_nameOf, .ref x0_windows, .ref x0_koi, .int 0, .ref x0_ready, .ref x0_tape, .int 0, .ref x0_text, .int 0, .ref x0_out, .ref x0_src, .int 0, .int 0, .int 0, .int 0, .int 0, .int 0, .int 0, .int 0, .int 0, .int 0]))] H := hP
  have hD : va_D A [(a0, .inr (9, [.ref x0_nameHead, .ref x0_nameTail, .ref x0_nameOf, .ref x0_windows, .ref x0_koi, .int 0, .ref x0_ready, .ref x0_tape, .int 0, .ref x0_text, .int 0, .ref x0_out, .ref x0_src, .int 0, .int 0, .int 0, .int 0, .int 0, .int 0, .int 0, .int 0, .int 0, .int 0]))] := hD
  refine lv_if_eq (tgt := 12) hx hb d_MM_write_5 (by decide) (fun h9 => absurd h9 (by decide +kernel)) (fun _ => ?_)
  refine lv_iconst (v := 0) hx hb d_MM_write_8 (by decide) ?_
  refine lv_goto (tgt := 13) hx hb d_MM_write_9 (by decide) ?_
  refine va_put (D := D) (ci := 9) (v := .int 0) (ty := .int) (C := "MailCharactersModel") (T := F_MM) (N := 23) hx hb hts i_MM t_MM t_MM_ok n_MM hown hK hP hD hS 0 rfl rfl 5 (by decide) (hts _ k_878) (fun _ h9 => h9) rfl (by decide +kernel) rfl rfl (Nat.le_of_ble_eq_true rfl) d_MM_write_13 (fun H locs hP hD hS => ?_)
  have hP : va_P D vwCl [(a0, .inr (9, [.ref x0_nameHead, .ref x0_nameTail, .ref x0_nameOf, .ref x0_windows, .ref x0_koi, .int 0, .ref x0_ready, .ref x0_tape, .int 0, .ref x0_text, .int 0, .ref x0_out, .ref x0_src, .int 0, .int 0, .int 0, .int 0, .int 0, .int 0, .int 0, .int 0, .int 0, .int 0]))] H := hP
  have hD : va_D A [(a0, .inr (9, [.ref x0_nameHead, .ref x0_nameTail, .ref x0_nameOf, .ref x0_windows, .ref x0_koi, .int 0, .ref x0_ready, .ref x0_tape, .int 0, .ref x0_text, .int 0, .ref x0_out, .ref x0_src, .int 0, .int 0, .int 0, .int 0, .int 0, .int 0, .int 0, .int 0, .int 0, .int 0]))] := hD
  refine lv_aload_n hx hb d_MM_write_16 rfl (lv_at hl 0 rfl) ?_
  refine va_get (D := D) (ci := 9) (v := .int 0) (C := "MailCharactersModel") (T := F_MM) (N := 23) hx hb hts i_MM hown hK hP 0 rfl rfl 5 (by decide) (hts _ k_878) (fun _ h9 => h9) rfl d_MM_write_17 ?_
  refine lv_if_le (tgt := 25) hx hb d_MM_write_20 (by decide) (fun _ => ?_) (fun h9 => absurd h9 (by decide +kernel))
  refine lv_aload_n hx hb d_MM_write_25 rfl (lv_at hl 0 rfl) ?_
  refine lv_iconst (v := 0) hx hb d_MM_write_26 (by decide) ?_
  refine va_put (D := D) (ci := 9) (v := .int 0) (ty := .int) (C := "MailCharactersModel") (T := F_MM) (N := 23) hx hb hts i_MM t_MM t_MM_ok n_MM hown hK hP hD hS 0 rfl rfl 13 (by decide) (hts _ k_886) (fun _ h9 => h9) rfl (by decide +kernel) rfl rfl (Nat.le_of_ble_eq_true rfl) d_MM_write_27 (fun H locs hP hD hS => ?_)
  have hP : va_P D vwCl [(a0, .inr (9, [.ref x0_nameHead, .ref x0_nameTail, .ref x0_nameOf, .ref x0_windows, .ref x0_koi, .int 0, .ref x0_ready, .ref x0_tape, .int 0, .ref x0_text, .int 0, .ref x0_out, .ref x0_src, .int 0, .int 0, .int 0, .int 0, .int 0, .int 0, .int 0, .int 0, .int 0, .int 0]))] H := hP
  have hD : va_D A [(a0, .inr (9, [.ref x0_nameHead, .ref x0_nameTail, .ref x0_nameOf, .ref x0_windows, .ref x0_koi, .int 0, .ref x0_ready, .ref x0_tape, .int 0, .ref x0_text, .int 0, .ref x0_out, .ref x0_src, .int 0, .int 0, .int 0, .int 0, .int 0, .int 0, .int 0, .int 0, .int 0, .int 0]))] := hD
  refine lv_iload_n hx hb d_MM_write_30 rfl (lv_at hl 1 rfl) ?_
  refine lv_iconst (v := 5) hx hb d_MM_write_31 (by decide) ?_
  refine lv_icmp_ne (tgt := 49) hx hb d_MM_write_32 (by decide) (fun _ => ?_) (fun h9 => absurd h9 (by decide +kernel))
  refine lv_iconst (v := 0) hx hb d_MM_write_49 (by decide) ?_
  refine lv_istore_n (lv' := [(2, .int 0), (0, .ref a0), (1, .int 2)]) hx hb d_MM_write_50 rfl hl (by decide) rfl (fun ls hl => ?_)
  refine lv_iload_n hx hb d_MM_write_51 rfl (lv_at hl 0 rfl) ?_
  refine lv_aload_n hx hb d_MM_write_52 rfl (lv_at hl 1 rfl) ?_
  refine va_get (D := D) (ci := 9) (v := .int 0) (C := "MailCharactersModel") (T := F_MM) (N := 23) hx hb hts i_MM hown hK hP 0 rfl rfl 10 (by decide) (hts _ k_883) (fun _ h9 => h9) rfl d_MM_write_53 ?_
  refine lv_icmp_ge (tgt := 94) hx hb d_MM_write_56 (by decide) (fun _ => ?_) (fun h9 => absurd h9 (by decide +kernel))
  refine lv_aload_n hx hb d_MM_write_94 rfl (lv_at hl 1 rfl) ?_
  refine g_Vv (As := []) (rest := []) (wr := []) ⟨hx, hb, hml, hown, hts⟩ (c_MM_outToTape_0 l D Z kI a0 x0_nameHead x0_nameTail x0_nameOf x0_windows x0_koi x0_ready x0_tape x0_text x0_out x0_src H.size) (cw_MM_outToTape_0 hts k_1023 ⟨Nat.le_of_ble_eq_true rfl, Nat.le_of_ble_eq_true rfl⟩) hK hZ hP hD hS hA [0] [] (g_recv hK hP (ci := 9) (q0 := 0) rfl rfl) rfl rfl (by decide) (by decide) (by decide) rfl hl.1 rfl (Nat.le_of_ble_eq_true rfl) d_MM_write_95 ⟨Nat.zero_le _, Nat.zero_le _⟩ (fun u_2 H locs hw hP hD hS => ?_)
  have hP : va_P D vwCl [(a0, .inr (9, [.ref x0_nameHead, .ref x0_nameTail, .ref x0_nameOf, .ref x0_windows, .ref x0_koi, .int 0, .ref x0_ready, .ref x0_tape, .int 0, .ref x0_text, .int 0, .ref x0_out, .ref x0_src, .int 0, .int 0, .int 0, .int 0, .int 0, .int 0, .int 0, .int 0, .int 0, .int 0]))] H := hP
  have hD : va_D A [(a0, .inr (9, [.ref x0_nameHead, .ref x0_nameTail, .ref x0_nameOf, .ref x0_windows, .ref x0_koi, .int 0, .ref x0_ready, .ref x0_tape, .int 0, .ref x0_text, .int 0, .ref x0_out, .ref x0_src, .int 0, .int 0, .int 0, .int 0, .int 0, .int 0, .int 0, .int 0, .int 0, .int 0]))] := hD
  refine lv_aload_n hx hb d_MM_write_98 rfl (lv_at hl 1 rfl) ?_
  refine va_get (D := D) (ci := 9) (v := .int 0) (C := "MailCharactersModel") (T := F_MM) (N := 23) hx hb hts i_MM hown hK hP 0 rfl rfl 8 (by decide) (hts _ k_881) (fun _ h9 => h9) rfl d_MM_write_99 ?_
  exact hret 0 () _ _ _ _ d_MM_write_102 rfl rfl hP hD hS
theorem cw_MM_write_2 {R : Room} {s : State} {args : Array Value} {own : String} {idx : Nat} (hts : ∀ w ∈ gW, w.before args s = true) (hl : Cond.methodLink own idx y_MM_write ∈ gW) (hR : rm_MM_write_2.frames + 1 ≤ R.frames ∧ 8 + (4 + 11) + rm_MM_write_2.locals ≤ R.locals) : CallW R s args own "MailCharactersModel" idx y_MM_write b_MM_write 4 (some .int) w_MM_write rm_MM_write_2 0 0 1 := cwV 1 hts (gW_V hl k_1121 k_1122 k_77 k_1123) rfl rfl rfl (by decide +kernel) hR
def rm_MM_write_3 : Room := { frames := 1, cells := 0, slots := 0, locals := 21 }
set_option maxHeartbeats 4000000 in
set_option maxRecDepth 100000 in
theorem c_MM_write_3 (l : Launch) (D : va_G) (Z : gZT) (kI : ClassId) (a0 : Nat) (x0_nameHead : Nat) (x0_nameTail : Nat) (x0_nameOf : Nat) (x0_windows : Nat) (x0_koi : Nat) (x0_ready : Nat) (x0_tape : Nat) (x0_text : Nat) (x0_out : Nat) (x0_src : Nat) (sz : Nat) : gMi l y_MM_write w_MM_write rm_MM_write_3 D Z kI [.ref a0, .int 3] sz [(a0, .inr (9, [.ref x0_nameHead, .ref x0_nameTail, .ref x0_nameOf, .ref x0_windows, .ref x0_koi, .int 0, .ref x0_ready, .ref x0_tape, .int 0, .ref x0_text, .int 0, .ref x0_out, .ref x0_src, .int 0, .int 0, .int 0, .int 0, .int 0, .int 0, .int 0, .int 0, .int 0, .int 0]))] (fun (r : Int32) (_u : Unit) => r = 0) (fun (_u : Unit) => ([(a0, .inr (9, [.ref x0_nameHead, .ref x0_nameTail, .ref x0_nameOf, .ref x0_windows, .ref x0_koi, .int 0, .ref x0_ready, .ref x0_tape, .int 0, .ref x0_text, .int 0, .ref x0_out, .ref x0_src, .int 0, .int 0, .int 0, .int 0, .int 0, .int 0, .int 0, .int 0, .int 0, .int 0]))] : va_W)) := by
  refine g_ofi (cc := b_MM_write) (maxL := 4) (ty := .int) (by decide) rfl (Nat.le_of_ble_eq_true rfl) ?_
  intro p e s m below meth c A Q H ls hx hb hml hown hts hA hK hZ hP hD hS hl hret
  have hown : s.vm.findClass "MailCharactersModel" = some m.cls := hown
  have hl : lv_has ls 4 [(0, .ref a0), (1, .int 3)] := hl
  refine lv_aload_n hx hb d_MM_write_0 rfl (lv_at hl 0 rfl) ?_
  refine lv_iload_n hx hb d_MM_write_1 rfl (lv_at hl 1 rfl) ?_
  refine g_Si (As := [.int 3]) (rest := [.ref a0]) (wr := [(a0, .inr (9, [.ref x0_nameHead, .ref x0_nameTail, .ref x0_nameOf, .ref x0_windows, .ref x0_koi, .int 0, .ref x0_ready, .ref x0_tape, .int 0, .ref x0_text, .int 0, .ref x0_out, .ref x0_src, .int 0, .int 0, .int 0, .int 0, .int 0, .int 0, .int 0, .int 0, .int 0, .int 0]))]) ⟨hx, hb, hml, hown, hts⟩ (c_MM_isCharset_3 l D Z kI H.size) (cw_MM_isCharset_3 hts k_1031 ⟨Nat.le_of_ble_eq_true rfl, Nat.le_of_ble_eq_true rfl⟩) hK hZ hP hD hS hA [] [0] rfl rfl (by decide) (by decide) (by decide) rfl hl.1 rfl (Nat.le_of_ble_eq_true rfl) d_MM_write_2 ⟨Nat.zero_le _, Nat.zero_le _⟩ (fun r_1 u_1 H locs hw hP hD hS => ?_)
  obtain rfl : r_1 = 1 := hw
  have hP : va_P D vwCl [(a0, .inr (9, [.ref x0_nameHead, .ref x0_nameTail, .ref x0_nameOf, .ref x0_windows, .ref x0_koi, .int 0, .ref x0_ready, .ref x0_tape, .int 0, .ref x0_text, .int 0, .ref x0_out, .ref x0_src, .int 0, .int 0, .int 0, .int 0, .int 0, .int 0, .int 0, .int 0, .int 0, .int 0]))] H := hP
  have hD : va_D A [(a0, .inr (9, [.ref x0_nameHead, .ref x0_nameTail, .ref x0_nameOf, .ref x0_windows, .ref x0_koi, .int 0, .ref x0_ready, .ref x0_tape, .int 0, .ref x0_text, .int 0, .ref x0_out, .ref x0_src, .int 0, .int 0, .int 0, .int 0, .int 0, .int 0, .int 0, .int 0, .int 0, .int 0]))] := hD
  refine lv_if_eq (tgt := 12) hx hb d_MM_write_5 (by decide) (fun h9 => absurd h9 (by decide +kernel)) (fun _ => ?_)
  refine lv_iconst (v := 0) hx hb d_MM_write_8 (by decide) ?_
  refine lv_goto (tgt := 13) hx hb d_MM_write_9 (by decide) ?_
  refine va_put (D := D) (ci := 9) (v := .int 0) (ty := .int) (C := "MailCharactersModel") (T := F_MM) (N := 23) hx hb hts i_MM t_MM t_MM_ok n_MM hown hK hP hD hS 0 rfl rfl 5 (by decide) (hts _ k_878) (fun _ h9 => h9) rfl (by decide +kernel) rfl rfl (Nat.le_of_ble_eq_true rfl) d_MM_write_13 (fun H locs hP hD hS => ?_)
  have hP : va_P D vwCl [(a0, .inr (9, [.ref x0_nameHead, .ref x0_nameTail, .ref x0_nameOf, .ref x0_windows, .ref x0_koi, .int 0, .ref x0_ready, .ref x0_tape, .int 0, .ref x0_text, .int 0, .ref x0_out, .ref x0_src, .int 0, .int 0, .int 0, .int 0, .int 0, .int 0, .int 0, .int 0, .int 0, .int 0]))] H := hP
  have hD : va_D A [(a0, .inr (9, [.ref x0_nameHead, .ref x0_nameTail, .ref x0_nameOf, .ref x0_windows, .ref x0_koi, .int 0, .ref x0_ready, .ref x0_tape, .int 0, .ref x0_text, .int 0, .ref x0_out, .ref x0_src, .int 0, .int 0, .int 0, .int 0, .int 0, .int 0, .int 0, .int 0, .int 0, .int 0]))] := hD
  refine lv_aload_n hx hb d_MM_write_16 rfl (lv_at hl 0 rfl) ?_
  refine va_get (D := D) (ci := 9) (v := .int 0) (C := "MailCharactersModel") (T := F_MM) (N := 23) hx hb hts i_MM hown hK hP 0 rfl rfl 5 (by decide) (hts _ k_878) (fun _ h9 => h9) rfl d_MM_write_17 ?_
  refine lv_if_le (tgt := 25) hx hb d_MM_write_20 (by decide) (fun _ => ?_) (fun h9 => absurd h9 (by decide +kernel))
  refine lv_aload_n hx hb d_MM_write_25 rfl (lv_at hl 0 rfl) ?_
  refine lv_iconst (v := 0) hx hb d_MM_write_26 (by decide) ?_
  refine va_put (D := D) (ci := 9) (v := .int 0) (ty := .int) (C := "MailCharactersModel") (T := F_MM) (N := 23) hx hb hts i_MM t_MM t_MM_ok n_MM hown hK hP hD hS 0 rfl rfl 13 (by decide) (hts _ k_886) (fun _ h9 => h9) rfl (by decide +kernel) rfl rfl (Nat.le_of_ble_eq_true rfl) d_MM_write_27 (fun H locs hP hD hS => ?_)
  have hP : va_P D vwCl [(a0, .inr (9, [.ref x0_nameHead, .ref x0_nameTail, .ref x0_nameOf, .ref x0_windows, .ref x0_koi, .int 0, .ref x0_ready, .ref x0_tape, .int 0, .ref x0_text, .int 0, .ref x0_out, .ref x0_src, .int 0, .int 0, .int 0, .int 0, .int 0, .int 0, .int 0, .int 0, .int 0, .int 0]))] H := hP
  have hD : va_D A [(a0, .inr (9, [.ref x0_nameHead, .ref x0_nameTail, .ref x0_nameOf, .ref x0_windows, .ref x0_koi, .int 0, .ref x0_ready, .ref x0_tape, .int 0, .ref x0_text, .int 0, .ref x0_out, .ref x0_src, .int 0, .int 0, .int 0, .int 0, .int 0, .int 0, .int 0, .int 0, .int 0, .int 0]))] := hD
  refine lv_iload_n hx hb d_MM_write_30 rfl (lv_at hl 1 rfl) ?_
  refine lv_iconst (v := 5) hx hb d_MM_write_31 (by decide) ?_
  refine lv_icmp_ne (tgt := 49) hx hb d_MM_write_32 (by decide) (fun _ => ?_) (fun h9 => absurd h9 (by decide +kernel))
  refine lv_iconst (v := 0) hx hb d_MM_write_49 (by decide) ?_
  refine lv_istore_n (lv' := [(2, .int 0), (0, .ref a0), (1, .int 3)]) hx hb d_MM_write_50 rfl hl (by decide) rfl (fun ls hl => ?_)
  refine lv_iload_n hx hb d_MM_write_51 rfl (lv_at hl 0 rfl) ?_
  refine lv_aload_n hx hb d_MM_write_52 rfl (lv_at hl 1 rfl) ?_
  refine va_get (D := D) (ci := 9) (v := .int 0) (C := "MailCharactersModel") (T := F_MM) (N := 23) hx hb hts i_MM hown hK hP 0 rfl rfl 10 (by decide) (hts _ k_883) (fun _ h9 => h9) rfl d_MM_write_53 ?_
  refine lv_icmp_ge (tgt := 94) hx hb d_MM_write_56 (by decide) (fun _ => ?_) (fun h9 => absurd h9 (by decide +kernel))
  refine lv_aload_n hx hb d_MM_write_94 rfl (lv_at hl 1 rfl) ?_
  refine g_Vv (As := []) (rest := []) (wr := []) ⟨hx, hb, hml, hown, hts⟩ (c_MM_outToTape_0 l D Z kI a0 x0_nameHead x0_nameTail x0_nameOf x0_windows x0_koi x0_ready x0_tape x0_text x0_out x0_src H.size) (cw_MM_outToTape_0 hts k_1023 ⟨Nat.le_of_ble_eq_true rfl, Nat.le_of_ble_eq_true rfl⟩) hK hZ hP hD hS hA [0] [] (g_recv hK hP (ci := 9) (q0 := 0) rfl rfl) rfl rfl (by decide) (by decide) (by decide) rfl hl.1 rfl (Nat.le_of_ble_eq_true rfl) d_MM_write_95 ⟨Nat.zero_le _, Nat.zero_le _⟩ (fun u_2 H locs hw hP hD hS => ?_)
  have hP : va_P D vwCl [(a0, .inr (9, [.ref x0_nameHead, .ref x0_nameTail, .ref x0_nameOf, .ref x0_windows, .ref x0_koi, .int 0, .ref x0_ready, .ref x0_tape, .int 0, .ref x0_text, .int 0, .ref x0_out, .ref x0_src, .int 0, .int 0, .int 0, .int 0, .int 0, .int 0, .int 0, .int 0, .int 0, .int 0]))] H := hP
  have hD : va_D A [(a0, .inr (9, [.ref x0_nameHead, .ref x0_nameTail, .ref x0_nameOf, .ref x0_windows, .ref x0_koi, .int 0, .ref x0_ready, .ref x0_tape, .int 0, .ref x0_text, .int 0, .ref x0_out, .ref x0_src, .int 0, .int 0, .int 0, .int 0, .int 0, .int 0, .int 0, .int 0, .int 0, .int 0]))] := hD
  refine lv_aload_n hx hb d_MM_write_98 rfl (lv_at hl 1 rfl) ?_
  refine va_get (D := D) (ci := 9) (v := .int 0) (C := "MailCharactersModel") (T := F_MM) (N := 23) hx hb hts i_MM hown hK hP 0 rfl rfl 8 (by decide) (hts _ k_881) (fun _ h9 => h9) rfl d_MM_write_99 ?_
  exact hret 0 () _ _ _ _ d_MM_write_102 rfl rfl hP hD hS
theorem cw_MM_write_3 {R : Room} {s : State} {args : Array Value} {own : String} {idx : Nat} (hts : ∀ w ∈ gW, w.before args s = true) (hl : Cond.methodLink own idx y_MM_write ∈ gW) (hR : rm_MM_write_3.frames + 1 ≤ R.frames ∧ 8 + (4 + 11) + rm_MM_write_3.locals ≤ R.locals) : CallW R s args own "MailCharactersModel" idx y_MM_write b_MM_write 4 (some .int) w_MM_write rm_MM_write_3 0 0 1 := cwV 1 hts (gW_V hl k_1121 k_1122 k_77 k_1123) rfl rfl rfl (by decide +kernel) hR
def rm_MM_write_4 : Room := { frames := 1, cells := 0, slots := 0, locals := 21 }
set_option maxHeartbeats 4000000 in
set_option maxRecDepth 100000 in
theorem c_MM_write_4 (l : Launch) (D : va_G) (Z : gZT) (kI : ClassId) (a0 : Nat) (x0_nameHead : Nat) (x0_nameTail : Nat) (x0_nameOf : Nat) (x0_windows : Nat) (x0_koi : Nat) (x0_ready : Nat) (x0_tape : Nat) (x0_text : Nat) (x0_out : Nat) (x0_src : Nat) (sz : Nat) : gMi l y_MM_write w_MM_write rm_MM_write_4 D Z kI [.ref a0, .int 4] sz [(a0, .inr (9, [.ref x0_nameHead, .ref x0_nameTail, .ref x0_nameOf, .ref x0_windows, .ref x0_koi, .int 0, .ref x0_ready, .ref x0_tape, .int 0, .ref x0_text, .int 0, .ref x0_out, .ref x0_src, .int 0, .int 0, .int 0, .int 0, .int 0, .int 0, .int 0, .int 0, .int 0, .int 0]))] (fun (r : Int32) (_u : Unit) => r = 0) (fun (_u : Unit) => ([(a0, .inr (9, [.ref x0_nameHead, .ref x0_nameTail, .ref x0_nameOf, .ref x0_windows, .ref x0_koi, .int 0, .ref x0_ready, .ref x0_tape, .int 0, .ref x0_text, .int 0, .ref x0_out, .ref x0_src, .int 0, .int 0, .int 0, .int 0, .int 0, .int 0, .int 0, .int 0, .int 0, .int 0]))] : va_W)) := by
  refine g_ofi (cc := b_MM_write) (maxL := 4) (ty := .int) (by decide) rfl (Nat.le_of_ble_eq_true rfl) ?_
  intro p e s m below meth c A Q H ls hx hb hml hown hts hA hK hZ hP hD hS hl hret
  have hown : s.vm.findClass "MailCharactersModel" = some m.cls := hown
  have hl : lv_has ls 4 [(0, .ref a0), (1, .int 4)] := hl
  refine lv_aload_n hx hb d_MM_write_0 rfl (lv_at hl 0 rfl) ?_
  refine lv_iload_n hx hb d_MM_write_1 rfl (lv_at hl 1 rfl) ?_
  refine g_Si (As := [.int 4]) (rest := [.ref a0]) (wr := [(a0, .inr (9, [.ref x0_nameHead, .ref x0_nameTail, .ref x0_nameOf, .ref x0_windows, .ref x0_koi, .int 0, .ref x0_ready, .ref x0_tape, .int 0, .ref x0_text, .int 0, .ref x0_out, .ref x0_src, .int 0, .int 0, .int 0, .int 0, .int 0, .int 0, .int 0, .int 0, .int 0, .int 0]))]) ⟨hx, hb, hml, hown, hts⟩ (c_MM_isCharset_4 l D Z kI H.size) (cw_MM_isCharset_4 hts k_1031 ⟨Nat.le_of_ble_eq_true rfl, Nat.le_of_ble_eq_true rfl⟩) hK hZ hP hD hS hA [] [0] rfl rfl (by decide) (by decide) (by decide) rfl hl.1 rfl (Nat.le_of_ble_eq_true rfl) d_MM_write_2 ⟨Nat.zero_le _, Nat.zero_le _⟩ (fun r_1 u_1 H locs hw hP hD hS => ?_)
  obtain rfl : r_1 = 1 := hw
  have hP : va_P D vwCl [(a0, .inr (9, [.ref x0_nameHead, .ref x0_nameTail, .ref x0_nameOf, .ref x0_windows, .ref x0_koi, .int 0, .ref x0_ready, .ref x0_tape, .int 0, .ref x0_text, .int 0, .ref x0_out, .ref x0_src, .int 0, .int 0, .int 0, .int 0, .int 0, .int 0, .int 0, .int 0, .int 0, .int 0]))] H := hP
  have hD : va_D A [(a0, .inr (9, [.ref x0_nameHead, .ref x0_nameTail, .ref x0_nameOf, .ref x0_windows, .ref x0_koi, .int 0, .ref x0_ready, .ref x0_tape, .int 0, .ref x0_text, .int 0, .ref x0_out, .ref x0_src, .int 0, .int 0, .int 0, .int 0, .int 0, .int 0, .int 0, .int 0, .int 0, .int 0]))] := hD
  refine lv_if_eq (tgt := 12) hx hb d_MM_write_5 (by decide) (fun h9 => absurd h9 (by decide +kernel)) (fun _ => ?_)
  refine lv_iconst (v := 0) hx hb d_MM_write_8 (by decide) ?_
  refine lv_goto (tgt := 13) hx hb d_MM_write_9 (by decide) ?_
  refine va_put (D := D) (ci := 9) (v := .int 0) (ty := .int) (C := "MailCharactersModel") (T := F_MM) (N := 23) hx hb hts i_MM t_MM t_MM_ok n_MM hown hK hP hD hS 0 rfl rfl 5 (by decide) (hts _ k_878) (fun _ h9 => h9) rfl (by decide +kernel) rfl rfl (Nat.le_of_ble_eq_true rfl) d_MM_write_13 (fun H locs hP hD hS => ?_)
  have hP : va_P D vwCl [(a0, .inr (9, [.ref x0_nameHead, .ref x0_nameTail, .ref x0_nameOf, .ref x0_windows, .ref x0_koi, .int 0, .ref x0_ready, .ref x0_tape, .int 0, .ref x0_text, .int 0, .ref x0_out, .ref x0_src, .int 0, .int 0, .int 0, .int 0, .int 0, .int 0, .int 0, .int 0, .int 0, .int 0]))] H := hP
  have hD : va_D A [(a0, .inr (9, [.ref x0_nameHead, .ref x0_nameTail, .ref x0_nameOf, .ref x0_windows, .ref x0_koi, .int 0, .ref x0_ready, .ref x0_tape, .int 0, .ref x0_text, .int 0, .ref x0_out, .ref x0_src, .int 0, .int 0, .int 0, .int 0, .int 0, .int 0, .int 0, .int 0, .int 0, .int 0]))] := hD
  refine lv_aload_n hx hb d_MM_write_16 rfl (lv_at hl 0 rfl) ?_
  refine va_get (D := D) (ci := 9) (v := .int 0) (C := "MailCharactersModel") (T := F_MM) (N := 23) hx hb hts i_MM hown hK hP 0 rfl rfl 5 (by decide) (hts _ k_878) (fun _ h9 => h9) rfl d_MM_write_17 ?_
  refine lv_if_le (tgt := 25) hx hb d_MM_write_20 (by decide) (fun _ => ?_) (fun h9 => absurd h9 (by decide +kernel))
  refine lv_aload_n hx hb d_MM_write_25 rfl (lv_at hl 0 rfl) ?_
  refine lv_iconst (v := 0) hx hb d_MM_write_26 (by decide) ?_
  refine va_put (D := D) (ci := 9) (v := .int 0) (ty := .int) (C := "MailCharactersModel") (T := F_MM) (N := 23) hx hb hts i_MM t_MM t_MM_ok n_MM hown hK hP hD hS 0 rfl rfl 13 (by decide) (hts _ k_886) (fun _ h9 => h9) rfl (by decide +kernel) rfl rfl (Nat.le_of_ble_eq_true rfl) d_MM_write_27 (fun H locs hP hD hS => ?_)
  have hP : va_P D vwCl [(a0, .inr (9, [.ref x0_nameHead, .ref x0_nameTail, .ref x0_nameOf, .ref x0_windows, .ref x0_koi, .int 0, .ref x0_ready, .ref x0_tape, .int 0, .ref x0_text, .int 0, .ref x0_out, .ref x0_src, .int 0, .int 0, .int 0, .int 0, .int 0, .int 0, .int 0, .int 0, .int 0, .int 0]))] H := hP
  have hD : va_D A [(a0, .inr (9, [.ref x0_nameHead, .ref x0_nameTail, .ref x0_nameOf, .ref x0_windows, .ref x0_koi, .int 0, .ref x0_ready, .ref x0_tape, .int 0, .ref x0_text, .int 0, .ref x0_out, .ref x0_src, .int 0, .int 0, .int 0, .int 0, .int 0, .int 0, .int 0, .int 0, .int 0, .int 0]))] := hD
  refine lv_iload_n hx hb d_MM_write_30 rfl (lv_at hl 1 rfl) ?_
  refine lv_iconst (v := 5) hx hb d_MM_write_31 (by decide) ?_
  refine lv_icmp_ne (tgt := 49) hx hb d_MM_write_32 (by decide) (fun _ => ?_) (fun h9 => absurd h9 (by decide +kernel))
  refine lv_iconst (v := 0) hx hb d_MM_write_49 (by decide) ?_
  refine lv_istore_n (lv' := [(2, .int 0), (0, .ref a0), (1, .int 4)]) hx hb d_MM_write_50 rfl hl (by decide) rfl (fun ls hl => ?_)
  refine lv_iload_n hx hb d_MM_write_51 rfl (lv_at hl 0 rfl) ?_
  refine lv_aload_n hx hb d_MM_write_52 rfl (lv_at hl 1 rfl) ?_
  refine va_get (D := D) (ci := 9) (v := .int 0) (C := "MailCharactersModel") (T := F_MM) (N := 23) hx hb hts i_MM hown hK hP 0 rfl rfl 10 (by decide) (hts _ k_883) (fun _ h9 => h9) rfl d_MM_write_53 ?_
  refine lv_icmp_ge (tgt := 94) hx hb d_MM_write_56 (by decide) (fun _ => ?_) (fun h9 => absurd h9 (by decide +kernel))
  refine lv_aload_n hx hb d_MM_write_94 rfl (lv_at hl 1 rfl) ?_
  refine g_Vv (As := []) (rest := []) (wr := []) ⟨hx, hb, hml, hown, hts⟩ (c_MM_outToTape_0 l D Z kI a0 x0_nameHead x0_nameTail x0_nameOf x0_windows x0_koi x0_ready x0_tape x0_text x0_out x0_src H.size) (cw_MM_outToTape_0 hts k_1023 ⟨Nat.le_of_ble_eq_true rfl, Nat.le_of_ble_eq_true rfl⟩) hK hZ hP hD hS hA [0] [] (g_recv hK hP (ci := 9) (q0 := 0) rfl rfl) rfl rfl (by decide) (by decide) (by decide) rfl hl.1 rfl (Nat.le_of_ble_eq_true rfl) d_MM_write_95 ⟨Nat.zero_le _, Nat.zero_le _⟩ (fun u_2 H locs hw hP hD hS => ?_)
  have hP : va_P D vwCl [(a0, .inr (9, [.ref x0_nameHead, .ref x0_nameTail, .ref x0_nameOf, .ref x0_windows, .ref x0_koi, .int 0, .ref x0_ready, .ref x0_tape, .int 0, .ref x0_text, .int 0, .ref x0_out, .ref x0_src, .int 0, .int 0, .int 0, .int 0, .int 0, .int 0, .int 0, .int 0, .int 0, .int 0]))] H := hP
  have hD : va_D A [(a0, .inr (9, [.ref x0_nameHead, .ref x0_nameTail, .ref x0_nameOf, .ref x0_windows, .ref x0_koi, .int 0, .ref x0_ready, .ref x0_tape, .int 0, .ref x0_text, .int 0, .ref x0_out, .ref x0_src, .int 0, .int 0, .int 0, .int 0, .int 0, .int 0, .int 0, .int 0, .int 0, .int 0]))] := hD
  refine lv_aload_n hx hb d_MM_write_98 rfl (lv_at hl 1 rfl) ?_
  refine va_get (D := D) (ci := 9) (v := .int 0) (C := "MailCharactersModel") (T := F_MM) (N := 23) hx hb hts i_MM hown hK hP 0 rfl rfl 8 (by decide) (hts _ k_881) (fun _ h9 => h9) rfl d_MM_write_99 ?_
  exact hret 0 () _ _ _ _ d_MM_write_102 rfl rfl hP hD hS
theorem cw_MM_write_4 {R : Room} {s : State} {args : Array Value} {own : String} {idx : Nat} (hts : ∀ w ∈ gW, w.before args s = true) (hl : Cond.methodLink own idx y_MM_write ∈ gW) (hR : rm_MM_write_4.frames + 1 ≤ R.frames ∧ 8 + (4 + 11) + rm_MM_write_4.locals ≤ R.locals) : CallW R s args own "MailCharactersModel" idx y_MM_write b_MM_write 4 (some .int) w_MM_write rm_MM_write_4 0 0 1 := cwV 1 hts (gW_V hl k_1121 k_1122 k_77 k_1123) rfl rfl rfl (by decide +kernel) hR
def rm_MM_put_0 : Room := { frames := 0, cells := 0, slots := 0, locals := 0 }
set_option maxHeartbeats 4000000 in
set_option maxRecDepth 100000 in
theorem c_MM_put_0 (l : Launch) (D : va_G) (Z : gZT) (kI : ClassId) (a0 : Nat) (a1 : Nat) (x0_nameHead : Nat) (x0_nameTail : Nat) (x0_nameOf : Nat) (x0_windows : Nat) (x0_koi : Nat) (x0_ready : Nat) (x0_tape : Nat) (x0_text : Nat) (x0_src : Nat) (sz : Nat) (f1 : Nat → Int32) : gMv l y_MM_put w_MM_put rm_MM_put_0 D Z kI [.ref a0, .int 254] sz [(a0, .inr (9, [.ref x0_nameHead, .ref x0_nameTail, .ref x0_nameOf, .ref x0_windows, .ref x0_koi, .int 0, .ref x0_ready, .ref x0_tape, .int 0, .ref x0_text, .int 0, .ref a1, .ref x0_src, .int 0, .int 0, .int 0, .int 0, .int 0, .int 0, .int 0, .int 0, .int 0, .int 0])), (a1, .inl ((D.1 100), 6000, .inl f1))] (fun (_u : (Nat → Int32)) => True) (fun (u : (Nat → Int32)) => ([(a0, .inr (9, [.ref x0_nameHead, .ref x0_nameTail, .ref x0_nameOf, .ref x0_windows, .ref x0_koi, .int 0, .ref x0_ready, .ref x0_tape, .int 0, .ref x0_text, .int 0, .ref a1, .ref x0_src, .int 1, .int 0, .int 0, .int 0, .int 0, .int 0, .int 0, .int 0, .int 0, .int 0])), (a1, .inl ((D.1 100), 6000, .inl u))] : va_W)) := by
  refine g_ofv (cc := b_MM_put) (maxL := 2) (by decide) rfl (Nat.le_of_ble_eq_true rfl) ?_
  intro p e s m below meth c A Q H ls hx hb hml hown hts hA hK hZ hP hD hS hl hret
  have hown : s.vm.findClass "MailCharactersModel" = some m.cls := hown
  have hl : lv_has ls 2 [(0, .ref a0), (1, .int 254)] := hl
  refine lv_aload_n hx hb d_MM_put_0 rfl (lv_at hl 0 rfl) ?_
  refine va_get (D := D) (ci := 9) (v := .ref a1) (C := "MailCharactersModel") (T := F_MM) (N := 23) hx hb hts i_MM hown hK hP 0 rfl rfl 11 (by decide) (hts _ k_884) (fun _ h9 => h9) rfl d_MM_put_1 ?_
  refine lv_aload_n hx hb d_MM_put_4 rfl (lv_at hl 0 rfl) ?_
  refine va_get (D := D) (ci := 9) (v := .int 0) (C := "MailCharactersModel") (T := F_MM) (N := 23) hx hb hts i_MM hown hK hP 0 rfl rfl 13 (by decide) (hts _ k_886) (fun _ h9 => h9) rfl d_MM_put_5 ?_
  refine lv_iload_n hx hb d_MM_put_8 rfl (lv_at hl 1 rfl) ?_
  refine lv_i2b hx hb d_MM_put_9 rfl ?_
  refine va_bast hx hb hK hP hD hS 1 1 rfl rfl (by unfold vp_in; decide +kernel) d_MM_put_10 (fun H locs hP hD hS => ?_)
  obtain ⟨f1z, hP, hD⟩ : ∃ f1z : Nat → Int32, va_P D vwCl [(a0, .inr (9, [.ref x0_nameHead, .ref x0_nameTail, .ref x0_nameOf, .ref x0_windows, .ref x0_koi, .int 0, .ref x0_ready, .ref x0_tape, .int 0, .ref x0_text, .int 0, .ref a1, .ref x0_src, .int 0, .int 0, .int 0, .int 0, .int 0, .int 0, .int 0, .int 0, .int 0, .int 0])), (a1, .inl ((D.1 100), 6000, .inl f1z))] H ∧ va_D A [(a0, .inr (9, [.ref x0_nameHead, .ref x0_nameTail, .ref x0_nameOf, .ref x0_windows, .ref x0_koi, .int 0, .ref x0_ready, .ref x0_tape, .int 0, .ref x0_text, .int 0, .ref a1, .ref x0_src, .int 0, .int 0, .int 0, .int 0, .int 0, .int 0, .int 0, .int 0, .int 0, .int 0])), (a1, .inl ((D.1 100), 6000, .inl f1z))] := ⟨_, hP, hD⟩
  refine lv_aload_n hx hb d_MM_put_11 rfl (lv_at hl 0 rfl) ?_
  refine lv_dup hx hb d_MM_put_12 rfl ?_
  refine va_get (D := D) (ci := 9) (v := .int 0) (C := "MailCharactersModel") (T := F_MM) (N := 23) hx hb hts i_MM hown hK hP 0 rfl rfl 13 (by decide) (hts _ k_886) (fun _ h9 => h9) rfl d_MM_put_13 ?_
  refine lv_iconst (v := 1) hx hb d_MM_put_16 (by decide) ?_
  refine lv_iadd hx hb d_MM_put_17 ?_
  refine lv_topi (fun x_2 ex_2 => ?_)
  obtain rfl : x_2 = 1 := ex_2.trans (by decide)
  refine va_put (D := D) (ci := 9) (v := .int 1) (ty := .int) (C := "MailCharactersModel") (T := F_MM) (N := 23) hx hb hts i_MM t_MM t_MM_ok n_MM hown hK hP hD hS 0 rfl rfl 13 (by decide) (hts _ k_886) (fun _ h9 => h9) rfl (by decide +kernel) rfl rfl (Nat.le_of_ble_eq_true rfl) d_MM_put_18 (fun H locs hP hD hS => ?_)
  have hP : va_P D vwCl [(a0, .inr (9, [.ref x0_nameHead, .ref x0_nameTail, .ref x0_nameOf, .ref x0_windows, .ref x0_koi, .int 0, .ref x0_ready, .ref x0_tape, .int 0, .ref x0_text, .int 0, .ref a1, .ref x0_src, .int 1, .int 0, .int 0, .int 0, .int 0, .int 0, .int 0, .int 0, .int 0, .int 0])), (a1, .inl ((D.1 100), 6000, .inl f1z))] H := hP
  have hD : va_D A [(a0, .inr (9, [.ref x0_nameHead, .ref x0_nameTail, .ref x0_nameOf, .ref x0_windows, .ref x0_koi, .int 0, .ref x0_ready, .ref x0_tape, .int 0, .ref x0_text, .int 0, .ref a1, .ref x0_src, .int 1, .int 0, .int 0, .int 0, .int 0, .int 0, .int 0, .int 0, .int 0, .int 0])), (a1, .inl ((D.1 100), 6000, .inl f1z))] := hD
  exact hret f1z _ _ _ _ d_MM_put_21 trivial hP hD hS
theorem cw_MM_put_0 {R : Room} {s : State} {args : Array Value} {own : String} {idx : Nat} (hts : ∀ w ∈ gW, w.before args s = true) (hl : Cond.methodLink own idx y_MM_put ∈ gW) (hR : rm_MM_put_0.frames + 1 ≤ R.frames ∧ 8 + (2 + 11) + rm_MM_put_0.locals ≤ R.locals) : CallW R s args own "MailCharactersModel" idx y_MM_put b_MM_put 2 none w_MM_put rm_MM_put_0 0 0 1 := cwV 1 hts (gW_V hl k_982 k_27 k_77 k_983) rfl rfl rfl (by decide +kernel) hR
def rm_MM_put_1 : Room := { frames := 0, cells := 0, slots := 0, locals := 0 }
set_option maxHeartbeats 4000000 in
set_option maxRecDepth 100000 in
theorem c_MM_put_1 (l : Launch) (D : va_G) (Z : gZT) (kI : ClassId) (a0 : Nat) (a1 : Nat) (x0_nameHead : Nat) (x0_nameTail : Nat) (x0_nameOf : Nat) (x0_windows : Nat) (x0_koi : Nat) (x0_ready : Nat) (x0_tape : Nat) (x0_text : Nat) (x0_src : Nat) (sz : Nat) (f1 : Nat → Int32) : gMv l y_MM_put w_MM_put rm_MM_put_1 D Z kI [.ref a0, .int 255] sz [(a0, .inr (9, [.ref x0_nameHead, .ref x0_nameTail, .ref x0_nameOf, .ref x0_windows, .ref x0_koi, .int 0, .ref x0_ready, .ref x0_tape, .int 0, .ref x0_text, .int 0, .ref a1, .ref x0_src, .int 1, .int 0, .int 0, .int 0, .int 0, .int 0, .int 0, .int 0, .int 0, .int 0])), (a1, .inl ((D.1 100), 6000, .inl f1))] (fun (_u : (Nat → Int32)) => True) (fun (u : (Nat → Int32)) => ([(a0, .inr (9, [.ref x0_nameHead, .ref x0_nameTail, .ref x0_nameOf, .ref x0_windows, .ref x0_koi, .int 0, .ref x0_ready, .ref x0_tape, .int 0, .ref x0_text, .int 0, .ref a1, .ref x0_src, .int 2, .int 0, .int 0, .int 0, .int 0, .int 0, .int 0, .int 0, .int 0, .int 0])), (a1, .inl ((D.1 100), 6000, .inl u))] : va_W)) := by
  refine g_ofv (cc := b_MM_put) (maxL := 2) (by decide) rfl (Nat.le_of_ble_eq_true rfl) ?_
  intro p e s m below meth c A Q H ls hx hb hml hown hts hA hK hZ hP hD hS hl hret
  have hown : s.vm.findClass "MailCharactersModel" = some m.cls := hown
  have hl : lv_has ls 2 [(0, .ref a0), (1, .int 255)] := hl
  refine lv_aload_n hx hb d_MM_put_0 rfl (lv_at hl 0 rfl) ?_
  refine va_get (D := D) (ci := 9) (v := .ref a1) (C := "MailCharactersModel") (T := F_MM) (N := 23) hx hb hts i_MM hown hK hP 0 rfl rfl 11 (by decide) (hts _ k_884) (fun _ h9 => h9) rfl d_MM_put_1 ?_
  refine lv_aload_n hx hb d_MM_put_4 rfl (lv_at hl 0 rfl) ?_
  refine va_get (D := D) (ci := 9) (v := .int 1) (C := "MailCharactersModel") (T := F_MM) (N := 23) hx hb hts i_MM hown hK hP 0 rfl rfl 13 (by decide) (hts _ k_886) (fun _ h9 => h9) rfl d_MM_put_5 ?_
  refine lv_iload_n hx hb d_MM_put_8 rfl (lv_at hl 1 rfl) ?_
  refine lv_i2b hx hb d_MM_put_9 rfl ?_
  refine va_bast hx hb hK hP hD hS 1 1 rfl rfl (by unfold vp_in; decide +kernel) d_MM_put_10 (fun H locs hP hD hS => ?_)
  obtain ⟨f1z, hP, hD⟩ : ∃ f1z : Nat → Int32, va_P D vwCl [(a0, .inr (9, [.ref x0_nameHead, .ref x0_nameTail, .ref x0_nameOf, .ref x0_windows, .ref x0_koi, .int 0, .ref x0_ready, .ref x0_tape, .int 0, .ref x0_text, .int 0, .ref a1, .ref x0_src, .int 1, .int 0, .int 0, .int 0, .int 0, .int 0, .int 0, .int 0, .int 0, .int 0])), (a1, .inl ((D.1 100), 6000, .inl f1z))] H ∧ va_D A [(a0, .inr (9, [.ref x0_nameHead, .ref x0_nameTail, .ref x0_nameOf, .ref x0_windows, .ref x0_koi, .int 0, .ref x0_ready, .ref x0_tape, .int 0, .ref x0_text, .int 0, .ref a1, .ref x0_src, .int 1, .int 0, .int 0, .int 0, .int 0, .int 0, .int 0, .int 0, .int 0, .int 0])), (a1, .inl ((D.1 100), 6000, .inl f1z))] := ⟨_, hP, hD⟩
  refine lv_aload_n hx hb d_MM_put_11 rfl (lv_at hl 0 rfl) ?_
  refine lv_dup hx hb d_MM_put_12 rfl ?_
  refine va_get (D := D) (ci := 9) (v := .int 1) (C := "MailCharactersModel") (T := F_MM) (N := 23) hx hb hts i_MM hown hK hP 0 rfl rfl 13 (by decide) (hts _ k_886) (fun _ h9 => h9) rfl d_MM_put_13 ?_
  refine lv_iconst (v := 1) hx hb d_MM_put_16 (by decide) ?_
  refine lv_iadd hx hb d_MM_put_17 ?_
  refine lv_topi (fun x_2 ex_2 => ?_)
  obtain rfl : x_2 = 2 := ex_2.trans (by decide)
  refine va_put (D := D) (ci := 9) (v := .int 2) (ty := .int) (C := "MailCharactersModel") (T := F_MM) (N := 23) hx hb hts i_MM t_MM t_MM_ok n_MM hown hK hP hD hS 0 rfl rfl 13 (by decide) (hts _ k_886) (fun _ h9 => h9) rfl (by decide +kernel) rfl rfl (Nat.le_of_ble_eq_true rfl) d_MM_put_18 (fun H locs hP hD hS => ?_)
  have hP : va_P D vwCl [(a0, .inr (9, [.ref x0_nameHead, .ref x0_nameTail, .ref x0_nameOf, .ref x0_windows, .ref x0_koi, .int 0, .ref x0_ready, .ref x0_tape, .int 0, .ref x0_text, .int 0, .ref a1, .ref x0_src, .int 2, .int 0, .int 0, .int 0, .int 0, .int 0, .int 0, .int 0, .int 0, .int 0])), (a1, .inl ((D.1 100), 6000, .inl f1z))] H := hP
  have hD : va_D A [(a0, .inr (9, [.ref x0_nameHead, .ref x0_nameTail, .ref x0_nameOf, .ref x0_windows, .ref x0_koi, .int 0, .ref x0_ready, .ref x0_tape, .int 0, .ref x0_text, .int 0, .ref a1, .ref x0_src, .int 2, .int 0, .int 0, .int 0, .int 0, .int 0, .int 0, .int 0, .int 0, .int 0])), (a1, .inl ((D.1 100), 6000, .inl f1z))] := hD
  exact hret f1z _ _ _ _ d_MM_put_21 trivial hP hD hS
theorem cw_MM_put_1 {R : Room} {s : State} {args : Array Value} {own : String} {idx : Nat} (hts : ∀ w ∈ gW, w.before args s = true) (hl : Cond.methodLink own idx y_MM_put ∈ gW) (hR : rm_MM_put_1.frames + 1 ≤ R.frames ∧ 8 + (2 + 11) + rm_MM_put_1.locals ≤ R.locals) : CallW R s args own "MailCharactersModel" idx y_MM_put b_MM_put 2 none w_MM_put rm_MM_put_1 0 0 1 := cwV 1 hts (gW_V hl k_982 k_27 k_77 k_983) rfl rfl rfl (by decide +kernel) hR
def rm_MM_outToTape_1 : Room := { frames := 0, cells := 0, slots := 0, locals := 0 }
set_option maxHeartbeats 4000000 in
set_option maxRecDepth 100000 in
theorem c_MM_outToTape_1 (l : Launch) (D : va_G) (Z : gZT) (kI : ClassId) (a0 : Nat) (a1 : Nat) (a2 : Nat) (x0_nameHead : Nat) (x0_nameTail : Nat) (x0_nameOf : Nat) (x0_windows : Nat) (x0_koi : Nat) (x0_ready : Nat) (x0_text : Nat) (x0_src : Nat) (sz : Nat) (f1 : Nat → Int32) (f2 : Nat → Int32) : gMv l y_MM_outToTape w_MM_outToTape rm_MM_outToTape_1 D Z kI [.ref a0] sz [(a0, .inr (9, [.ref x0_nameHead, .ref x0_nameTail, .ref x0_nameOf, .ref x0_windows, .ref x0_koi, .int 0, .ref x0_ready, .ref a2, .int 0, .ref x0_text, .int 0, .ref a1, .ref x0_src, .int 2, .int 0, .int 0, .int 0, .int 0, .int 0, .int 0, .int 0, .int 0, .int 0])), (a1, .inl ((D.1 100), 6000, .inl f1)), (a2, .inl ((D.1 100), 1500, .inl f2))] (fun (_u : (Nat → Int32)) => True) (fun (u : (Nat → Int32)) => ([(a0, .inr (9, [.ref x0_nameHead, .ref x0_nameTail, .ref x0_nameOf, .ref x0_windows, .ref x0_koi, .int 0, .ref x0_ready, .ref a2, .int 2, .ref x0_text, .int 0, .ref a1, .ref x0_src, .int 2, .int 0, .int 0, .int 0, .int 0, .int 0, .int 0, .int 0, .int 0, .int 0])), (a1, .inl ((D.1 100), 6000, .inl f1)), (a2, .inl ((D.1 100), 1500, .inl u))] : va_W)) := by
  refine g_ofv (cc := b_MM_outToTape) (maxL := 2) (by decide) rfl (Nat.le_of_ble_eq_true rfl) ?_
  intro p e s m below meth c A Q H ls hx hb hml hown hts hA hK hZ hP hD hS hl hret
  have hown : s.vm.findClass "MailCharactersModel" = some m.cls := hown
  have hl : lv_has ls 2 [(0, .ref a0)] := hl
  refine lv_aload_n hx hb d_MM_outToTape_0 rfl (lv_at hl 0 rfl) ?_
  refine lv_aload_n hx hb d_MM_outToTape_1 rfl (lv_at hl 0 rfl) ?_
  refine va_get (D := D) (ci := 9) (v := .int 2) (C := "MailCharactersModel") (T := F_MM) (N := 23) hx hb hts i_MM hown hK hP 0 rfl rfl 13 (by decide) (hts _ k_886) (fun _ h9 => h9) rfl d_MM_outToTape_2 ?_
  refine lv_sipush (v := 1500) hx hb d_MM_outToTape_5 (by decide) ?_
  refine lv_icmp_ge (tgt := 18) hx hb d_MM_outToTape_8 (by decide) (fun h9 => absurd h9 (by decide +kernel)) (fun _ => ?_)
  refine lv_aload_n hx hb d_MM_outToTape_11 rfl (lv_at hl 0 rfl) ?_
  refine va_get (D := D) (ci := 9) (v := .int 2) (C := "MailCharactersModel") (T := F_MM) (N := 23) hx hb hts i_MM hown hK hP 0 rfl rfl 13 (by decide) (hts _ k_886) (fun _ h9 => h9) rfl d_MM_outToTape_12 ?_
  refine lv_goto (tgt := 21) hx hb d_MM_outToTape_15 (by decide) ?_
  refine va_put (D := D) (ci := 9) (v := .int 2) (ty := .int) (C := "MailCharactersModel") (T := F_MM) (N := 23) hx hb hts i_MM t_MM t_MM_ok n_MM hown hK hP hD hS 0 rfl rfl 8 (by decide) (hts _ k_881) (fun _ h9 => h9) rfl (by decide +kernel) rfl rfl (Nat.le_of_ble_eq_true rfl) d_MM_outToTape_21 (fun H locs hP hD hS => ?_)
  have hP : va_P D vwCl [(a0, .inr (9, [.ref x0_nameHead, .ref x0_nameTail, .ref x0_nameOf, .ref x0_windows, .ref x0_koi, .int 0, .ref x0_ready, .ref a2, .int 2, .ref x0_text, .int 0, .ref a1, .ref x0_src, .int 2, .int 0, .int 0, .int 0, .int 0, .int 0, .int 0, .int 0, .int 0, .int 0])), (a1, .inl ((D.1 100), 6000, .inl f1)), (a2, .inl ((D.1 100), 1500, .inl f2))] H := hP
  have hD : va_D A [(a0, .inr (9, [.ref x0_nameHead, .ref x0_nameTail, .ref x0_nameOf, .ref x0_windows, .ref x0_koi, .int 0, .ref x0_ready, .ref a2, .int 2, .ref x0_text, .int 0, .ref a1, .ref x0_src, .int 2, .int 0, .int 0, .int 0, .int 0, .int 0, .int 0, .int 0, .int 0, .int 0])), (a1, .inl ((D.1 100), 6000, .inl f1)), (a2, .inl ((D.1 100), 1500, .inl f2))] := hD
  refine lv_iconst (v := 0) hx hb d_MM_outToTape_24 (by decide) ?_
  refine lv_istore_n (lv' := [(1, .int 0), (0, .ref a0)]) hx hb d_MM_outToTape_25 rfl hl (by decide) rfl (fun ls hl => ?_)
  refine lv_iload_n hx hb d_MM_outToTape_26 rfl (lv_at hl 0 rfl) ?_
  refine lv_aload_n hx hb d_MM_outToTape_27 rfl (lv_at hl 1 rfl) ?_
  refine va_get (D := D) (ci := 9) (v := .int 2) (C := "MailCharactersModel") (T := F_MM) (N := 23) hx hb hts i_MM hown hK hP 0 rfl rfl 8 (by decide) (hts _ k_881) (fun _ h9 => h9) rfl d_MM_outToTape_28 ?_
  refine lv_icmp_ge (tgt := 52) hx hb d_MM_outToTape_31 (by decide) (fun h9 => absurd h9 (by decide +kernel)) (fun _ => ?_)
  refine lv_aload_n hx hb d_MM_outToTape_34 rfl (lv_at hl 1 rfl) ?_
  refine va_get (D := D) (ci := 9) (v := .ref a2) (C := "MailCharactersModel") (T := F_MM) (N := 23) hx hb hts i_MM hown hK hP 0 rfl rfl 7 (by decide) (hts _ k_880) (fun _ h9 => h9) rfl d_MM_outToTape_35 ?_
  refine lv_iload_n hx hb d_MM_outToTape_38 rfl (lv_at hl 0 rfl) ?_
  refine lv_aload_n hx hb d_MM_outToTape_39 rfl (lv_at hl 1 rfl) ?_
  refine va_get (D := D) (ci := 9) (v := .ref a1) (C := "MailCharactersModel") (T := F_MM) (N := 23) hx hb hts i_MM hown hK hP 0 rfl rfl 11 (by decide) (hts _ k_884) (fun _ h9 => h9) rfl d_MM_outToTape_40 ?_
  refine lv_iload_n hx hb d_MM_outToTape_43 rfl (lv_at hl 0 rfl) ?_
  refine va_bald hx hb hK hP 1 1 rfl rfl (by unfold vp_in; decide +kernel) d_MM_outToTape_44 ?_
  refine va_bast hx hb hK hP hD hS 2 1 rfl rfl (by unfold vp_in; decide +kernel) d_MM_outToTape_45 (fun H locs hP hD hS => ?_)
  obtain ⟨f1z, hP, hD⟩ : ∃ f1z : Nat → Int32, va_P D vwCl [(a0, .inr (9, [.ref x0_nameHead, .ref x0_nameTail, .ref x0_nameOf, .ref x0_windows, .ref x0_koi, .int 0, .ref x0_ready, .ref a2, .int 2, .ref x0_text, .int 0, .ref a1, .ref x0_src, .int 2, .int 0, .int 0, .int 0, .int 0, .int 0, .int 0, .int 0, .int 0, .int 0])), (a1, .inl ((D.1 100), 6000, .inl f1)), (a2, .inl ((D.1 100), 1500, .inl f1z))] H ∧ va_D A [(a0, .inr (9, [.ref x0_nameHead, .ref x0_nameTail, .ref x0_nameOf, .ref x0_windows, .ref x0_koi, .int 0, .ref x0_ready, .ref a2, .int 2, .ref x0_text, .int 0, .ref a1, .ref x0_src, .int 2, .int 0, .int 0, .int 0, .int 0, .int 0, .int 0, .int 0, .int 0, .int 0])), (a1, .inl ((D.1 100), 6000, .inl f1)), (a2, .inl ((D.1 100), 1500, .inl f1z))] := ⟨_, hP, hD⟩
  refine lv_iinc (v := 1) (lv' := [(1, .int 1), (0, .ref a0)]) hx hb d_MM_outToTape_46 hl (k := 0) rfl (by decide) (by decide) rfl (fun ls hl => ?_)
  refine lv_goto (tgt := 26) hx hb d_MM_outToTape_49 (by decide) ?_
  refine lv_iload_n hx hb d_MM_outToTape_26 rfl (lv_at hl 0 rfl) ?_
  refine lv_aload_n hx hb d_MM_outToTape_27 rfl (lv_at hl 1 rfl) ?_
  refine va_get (D := D) (ci := 9) (v := .int 2) (C := "MailCharactersModel") (T := F_MM) (N := 23) hx hb hts i_MM hown hK hP 0 rfl rfl 8 (by decide) (hts _ k_881) (fun _ h9 => h9) rfl d_MM_outToTape_28 ?_
  refine lv_icmp_ge (tgt := 52) hx hb d_MM_outToTape_31 (by decide) (fun h9 => absurd h9 (by decide +kernel)) (fun _ => ?_)
  refine lv_aload_n hx hb d_MM_outToTape_34 rfl (lv_at hl 1 rfl) ?_
  refine va_get (D := D) (ci := 9) (v := .ref a2) (C := "MailCharactersModel") (T := F_MM) (N := 23) hx hb hts i_MM hown hK hP 0 rfl rfl 7 (by decide) (hts _ k_880) (fun _ h9 => h9) rfl d_MM_outToTape_35 ?_
  refine lv_iload_n hx hb d_MM_outToTape_38 rfl (lv_at hl 0 rfl) ?_
  refine lv_aload_n hx hb d_MM_outToTape_39 rfl (lv_at hl 1 rfl) ?_
  refine va_get (D := D) (ci := 9) (v := .ref a1) (C := "MailCharactersModel") (T := F_MM) (N := 23) hx hb hts i_MM hown hK hP 0 rfl rfl 11 (by decide) (hts _ k_884) (fun _ h9 => h9) rfl d_MM_outToTape_40 ?_
  refine lv_iload_n hx hb d_MM_outToTape_43 rfl (lv_at hl 0 rfl) ?_
  refine va_bald hx hb hK hP 1 1 rfl rfl (by unfold vp_in; decide +kernel) d_MM_outToTape_44 ?_
  refine va_bast hx hb hK hP hD hS 2 1 rfl rfl (by unfold vp_in; decide +kernel) d_MM_outToTape_45 (fun H locs hP hD hS => ?_)
  obtain ⟨f2z, hP, hD⟩ : ∃ f2z : Nat → Int32, va_P D vwCl [(a0, .inr (9, [.ref x0_nameHead, .ref x0_nameTail, .ref x0_nameOf, .ref x0_windows, .ref x0_koi, .int 0, .ref x0_ready, .ref a2, .int 2, .ref x0_text, .int 0, .ref a1, .ref x0_src, .int 2, .int 0, .int 0, .int 0, .int 0, .int 0, .int 0, .int 0, .int 0, .int 0])), (a1, .inl ((D.1 100), 6000, .inl f1)), (a2, .inl ((D.1 100), 1500, .inl f2z))] H ∧ va_D A [(a0, .inr (9, [.ref x0_nameHead, .ref x0_nameTail, .ref x0_nameOf, .ref x0_windows, .ref x0_koi, .int 0, .ref x0_ready, .ref a2, .int 2, .ref x0_text, .int 0, .ref a1, .ref x0_src, .int 2, .int 0, .int 0, .int 0, .int 0, .int 0, .int 0, .int 0, .int 0, .int 0])), (a1, .inl ((D.1 100), 6000, .inl f1)), (a2, .inl ((D.1 100), 1500, .inl f2z))] := ⟨_, hP, hD⟩
  refine lv_iinc (v := 2) (lv' := [(1, .int 2), (0, .ref a0)]) hx hb d_MM_outToTape_46 hl (k := 0) rfl (by decide) (by decide) rfl (fun ls hl => ?_)
  refine lv_goto (tgt := 26) hx hb d_MM_outToTape_49 (by decide) ?_
  refine lv_iload_n hx hb d_MM_outToTape_26 rfl (lv_at hl 0 rfl) ?_
  refine lv_aload_n hx hb d_MM_outToTape_27 rfl (lv_at hl 1 rfl) ?_
  refine va_get (D := D) (ci := 9) (v := .int 2) (C := "MailCharactersModel") (T := F_MM) (N := 23) hx hb hts i_MM hown hK hP 0 rfl rfl 8 (by decide) (hts _ k_881) (fun _ h9 => h9) rfl d_MM_outToTape_28 ?_
  refine lv_icmp_ge (tgt := 52) hx hb d_MM_outToTape_31 (by decide) (fun _ => ?_) (fun h9 => absurd h9 (by decide +kernel))
  exact hret f2z _ _ _ _ d_MM_outToTape_52 trivial hP hD hS
theorem cw_MM_outToTape_1 {R : Room} {s : State} {args : Array Value} {own : String} {idx : Nat} (hts : ∀ w ∈ gW, w.before args s = true) (hl : Cond.methodLink own idx y_MM_outToTape ∈ gW) (hR : rm_MM_outToTape_1.frames + 1 ≤ R.frames ∧ 8 + (2 + 11) + rm_MM_outToTape_1.locals ≤ R.locals) : CallW R s args own "MailCharactersModel" idx y_MM_outToTape b_MM_outToTape 2 none w_MM_outToTape rm_MM_outToTape_1 0 0 0 := cwV 0 hts (gW_V hl k_1025 k_37 k_77 k_1026) rfl rfl rfl (by decide +kernel) hR
def rm_MM_write_5 : Room := { frames := 1, cells := 0, slots := 0, locals := 21 }
set_option maxHeartbeats 4000000 in
set_option maxRecDepth 100000 in
theorem c_MM_write_5 (l : Launch) (D : va_G) (Z : gZT) (kI : ClassId) (a0 : Nat) (a1 : Nat) (a2 : Nat) (x0_nameHead : Nat) (x0_nameTail : Nat) (x0_nameOf : Nat) (x0_windows : Nat) (x0_koi : Nat) (x0_ready : Nat) (x0_text : Nat) (x0_src : Nat) (sz : Nat) (f1 : Nat → Int32) (f2 : Nat → Int32) : gMi l y_MM_write w_MM_write rm_MM_write_5 D Z kI [.ref a0, .int 5] sz [(a0, .inr (9, [.ref x0_nameHead, .ref x0_nameTail, .ref x0_nameOf, .ref x0_windows, .ref x0_koi, .int 0, .ref x0_ready, .ref a2, .int 0, .ref x0_text, .int 0, .ref a1, .ref x0_src, .int 0, .int 0, .int 0, .int 0, .int 0, .int 0, .int 0, .int 0, .int 0, .int 0])), (a1, .inl ((D.1 100), 6000, .inl f1)), (a2, .inl ((D.1 100), 1500, .inl f2))] (fun (r : Int32) (_u : (Nat → Int32) × (Nat → Int32)) => r = 2) (fun (u : (Nat → Int32) × (Nat → Int32)) => ([(a0, .inr (9, [.ref x0_nameHead, .ref x0_nameTail, .ref x0_nameOf, .ref x0_windows, .ref x0_koi, .int 0, .ref x0_ready, .ref a2, .int 2, .ref x0_text, .int 0, .ref a1, .ref x0_src, .int 2, .int 0, .int 0, .int 0, .int 0, .int 0, .int 0, .int 0, .int 0, .int 0])), (a1, .inl ((D.1 100), 6000, .inl u.1)), (a2, .inl ((D.1 100), 1500, .inl u.2))] : va_W)) := by
  refine g_ofi (cc := b_MM_write) (maxL := 4) (ty := .int) (by decide) rfl (Nat.le_of_ble_eq_true rfl) ?_
  intro p e s m below meth c A Q H ls hx hb hml hown hts hA hK hZ hP hD hS hl hret
  have hown : s.vm.findClass "MailCharactersModel" = some m.cls := hown
  have hl : lv_has ls 4 [(0, .ref a0), (1, .int 5)] := hl
  refine lv_aload_n hx hb d_MM_write_0 rfl (lv_at hl 0 rfl) ?_
  refine lv_iload_n hx hb d_MM_write_1 rfl (lv_at hl 1 rfl) ?_
  refine g_Si (As := [.int 5]) (rest := [.ref a0]) (wr := [(a0, .inr (9, [.ref x0_nameHead, .ref x0_nameTail, .ref x0_nameOf, .ref x0_windows, .ref x0_koi, .int 0, .ref x0_ready, .ref a2, .int 0, .ref x0_text, .int 0, .ref a1, .ref x0_src, .int 0, .int 0, .int 0, .int 0, .int 0, .int 0, .int 0, .int 0, .int 0, .int 0])), (a1, .inl ((D.1 100), 6000, .inl f1)), (a2, .inl ((D.1 100), 1500, .inl f2))]) ⟨hx, hb, hml, hown, hts⟩ (c_MM_isCharset_5 l D Z kI H.size) (cw_MM_isCharset_5 hts k_1031 ⟨Nat.le_of_ble_eq_true rfl, Nat.le_of_ble_eq_true rfl⟩) hK hZ hP hD hS hA [] [0, 1, 2] rfl rfl (by decide) (by decide) (by decide) rfl hl.1 rfl (Nat.le_of_ble_eq_true rfl) d_MM_write_2 ⟨Nat.zero_le _, Nat.zero_le _⟩ (fun r_1 u_1 H locs hw hP hD hS => ?_)
  obtain rfl : r_1 = 1 := hw
  have hP : va_P D vwCl [(a0, .inr (9, [.ref x0_nameHead, .ref x0_nameTail, .ref x0_nameOf, .ref x0_windows, .ref x0_koi, .int 0, .ref x0_ready, .ref a2, .int 0, .ref x0_text, .int 0, .ref a1, .ref x0_src, .int 0, .int 0, .int 0, .int 0, .int 0, .int 0, .int 0, .int 0, .int 0, .int 0])), (a1, .inl ((D.1 100), 6000, .inl f1)), (a2, .inl ((D.1 100), 1500, .inl f2))] H := hP
  have hD : va_D A [(a0, .inr (9, [.ref x0_nameHead, .ref x0_nameTail, .ref x0_nameOf, .ref x0_windows, .ref x0_koi, .int 0, .ref x0_ready, .ref a2, .int 0, .ref x0_text, .int 0, .ref a1, .ref x0_src, .int 0, .int 0, .int 0, .int 0, .int 0, .int 0, .int 0, .int 0, .int 0, .int 0])), (a1, .inl ((D.1 100), 6000, .inl f1)), (a2, .inl ((D.1 100), 1500, .inl f2))] := hD
  refine lv_if_eq (tgt := 12) hx hb d_MM_write_5 (by decide) (fun h9 => absurd h9 (by decide +kernel)) (fun _ => ?_)
  refine lv_iconst (v := 0) hx hb d_MM_write_8 (by decide) ?_
  refine lv_goto (tgt := 13) hx hb d_MM_write_9 (by decide) ?_
  refine va_put (D := D) (ci := 9) (v := .int 0) (ty := .int) (C := "MailCharactersModel") (T := F_MM) (N := 23) hx hb hts i_MM t_MM t_MM_ok n_MM hown hK hP hD hS 0 rfl rfl 5 (by decide) (hts _ k_878) (fun _ h9 => h9) rfl (by decide +kernel) rfl rfl (Nat.le_of_ble_eq_true rfl) d_MM_write_13 (fun H locs hP hD hS => ?_)
  have hP : va_P D vwCl [(a0, .inr (9, [.ref x0_nameHead, .ref x0_nameTail, .ref x0_nameOf, .ref x0_windows, .ref x0_koi, .int 0, .ref x0_ready, .ref a2, .int 0, .ref x0_text, .int 0, .ref a1, .ref x0_src, .int 0, .int 0, .int 0, .int 0, .int 0, .int 0, .int 0, .int 0, .int 0, .int 0])), (a1, .inl ((D.1 100), 6000, .inl f1)), (a2, .inl ((D.1 100), 1500, .inl f2))] H := hP
  have hD : va_D A [(a0, .inr (9, [.ref x0_nameHead, .ref x0_nameTail, .ref x0_nameOf, .ref x0_windows, .ref x0_koi, .int 0, .ref x0_ready, .ref a2, .int 0, .ref x0_text, .int 0, .ref a1, .ref x0_src, .int 0, .int 0, .int 0, .int 0, .int 0, .int 0, .int 0, .int 0, .int 0, .int 0])), (a1, .inl ((D.1 100), 6000, .inl f1)), (a2, .inl ((D.1 100), 1500, .inl f2))] := hD
  refine lv_aload_n hx hb d_MM_write_16 rfl (lv_at hl 0 rfl) ?_
  refine va_get (D := D) (ci := 9) (v := .int 0) (C := "MailCharactersModel") (T := F_MM) (N := 23) hx hb hts i_MM hown hK hP 0 rfl rfl 5 (by decide) (hts _ k_878) (fun _ h9 => h9) rfl d_MM_write_17 ?_
  refine lv_if_le (tgt := 25) hx hb d_MM_write_20 (by decide) (fun _ => ?_) (fun h9 => absurd h9 (by decide +kernel))
  refine lv_aload_n hx hb d_MM_write_25 rfl (lv_at hl 0 rfl) ?_
  refine lv_iconst (v := 0) hx hb d_MM_write_26 (by decide) ?_
  refine va_put (D := D) (ci := 9) (v := .int 0) (ty := .int) (C := "MailCharactersModel") (T := F_MM) (N := 23) hx hb hts i_MM t_MM t_MM_ok n_MM hown hK hP hD hS 0 rfl rfl 13 (by decide) (hts _ k_886) (fun _ h9 => h9) rfl (by decide +kernel) rfl rfl (Nat.le_of_ble_eq_true rfl) d_MM_write_27 (fun H locs hP hD hS => ?_)
  have hP : va_P D vwCl [(a0, .inr (9, [.ref x0_nameHead, .ref x0_nameTail, .ref x0_nameOf, .ref x0_windows, .ref x0_koi, .int 0, .ref x0_ready, .ref a2, .int 0, .ref x0_text, .int 0, .ref a1, .ref x0_src, .int 0, .int 0, .int 0, .int 0, .int 0, .int 0, .int 0, .int 0, .int 0, .int 0])), (a1, .inl ((D.1 100), 6000, .inl f1)), (a2, .inl ((D.1 100), 1500, .inl f2))] H := hP
  have hD : va_D A [(a0, .inr (9, [.ref x0_nameHead, .ref x0_nameTail, .ref x0_nameOf, .ref x0_windows, .ref x0_koi, .int 0, .ref x0_ready, .ref a2, .int 0, .ref x0_text, .int 0, .ref a1, .ref x0_src, .int 0, .int 0, .int 0, .int 0, .int 0, .int 0, .int 0, .int 0, .int 0, .int 0])), (a1, .inl ((D.1 100), 6000, .inl f1)), (a2, .inl ((D.1 100), 1500, .inl f2))] := hD
  refine lv_iload_n hx hb d_MM_write_30 rfl (lv_at hl 1 rfl) ?_
  refine lv_iconst (v := 5) hx hb d_MM_write_31 (by decide) ?_
  refine lv_icmp_ne (tgt := 49) hx hb d_MM_write_32 (by decide) (fun h9 => absurd h9 (by decide +kernel)) (fun _ => ?_)
  refine lv_aload_n hx hb d_MM_write_35 rfl (lv_at hl 0 rfl) ?_
  refine lv_sipush (v := 254) hx hb d_MM_write_36 (by decide) ?_
  refine g_Vv (As := [.int 254]) (rest := []) (wr := [(a2, .inl ((D.1 100), 1500, .inl f2))]) ⟨hx, hb, hml, hown, hts⟩ (c_MM_put_0 l D Z kI a0 a1 x0_nameHead x0_nameTail x0_nameOf x0_windows x0_koi x0_ready a2 x0_text x0_src H.size f1) (cw_MM_put_0 hts k_980 ⟨Nat.le_of_ble_eq_true rfl, Nat.le_of_ble_eq_true rfl⟩) hK hZ hP hD hS hA [0, 1] [2] (g_recv hK hP (ci := 9) (q0 := 0) rfl rfl) rfl rfl (by decide) (by decide) (by decide) rfl hl.1 rfl (Nat.le_of_ble_eq_true rfl) d_MM_write_39 ⟨Nat.zero_le _, Nat.zero_le _⟩ (fun u_2 H locs hw hP hD hS => ?_)
  obtain ⟨f2z0, eu_2⟩ : ∃ z, z = u_2 := ⟨_, rfl⟩
  subst eu_2
  have hP : va_P D vwCl [(a2, .inl ((D.1 100), 1500, .inl f2)), (a0, .inr (9, [.ref x0_nameHead, .ref x0_nameTail, .ref x0_nameOf, .ref x0_windows, .ref x0_koi, .int 0, .ref x0_ready, .ref a2, .int 0, .ref x0_text, .int 0, .ref a1, .ref x0_src, .int 1, .int 0, .int 0, .int 0, .int 0, .int 0, .int 0, .int 0, .int 0, .int 0])), (a1, .inl ((D.1 100), 6000, .inl f2z0))] H := hP
  have hD : va_D A [(a2, .inl ((D.1 100), 1500, .inl f2)), (a0, .inr (9, [.ref x0_nameHead, .ref x0_nameTail, .ref x0_nameOf, .ref x0_windows, .ref x0_koi, .int 0, .ref x0_ready, .ref a2, .int 0, .ref x0_text, .int 0, .ref a1, .ref x0_src, .int 1, .int 0, .int 0, .int 0, .int 0, .int 0, .int 0, .int 0, .int 0, .int 0])), (a1, .inl ((D.1 100), 6000, .inl f2z0))] := hD
  refine lv_aload_n hx hb d_MM_write_42 rfl (lv_at hl 0 rfl) ?_
  refine lv_sipush (v := 255) hx hb d_MM_write_43 (by decide) ?_
  refine g_Vv (As := [.int 255]) (rest := []) (wr := [(a2, .inl ((D.1 100), 1500, .inl f2))]) ⟨hx, hb, hml, hown, hts⟩ (c_MM_put_1 l D Z kI a0 a1 x0_nameHead x0_nameTail x0_nameOf x0_windows x0_koi x0_ready a2 x0_text x0_src H.size f2z0) (cw_MM_put_1 hts k_980 ⟨Nat.le_of_ble_eq_true rfl, Nat.le_of_ble_eq_true rfl⟩) hK hZ hP hD hS hA [1, 2] [0] (g_recv hK hP (ci := 9) (q0 := 1) rfl rfl) rfl rfl (by decide) (by decide) (by decide) rfl hl.1 rfl (Nat.le_of_ble_eq_true rfl) d_MM_write_46 ⟨Nat.zero_le _, Nat.zero_le _⟩ (fun u_3 H locs hw hP hD hS => ?_)
  obtain ⟨f3z0, eu_3⟩ : ∃ z, z = u_3 := ⟨_, rfl⟩
  subst eu_3
  have hP : va_P D vwCl [(a2, .inl ((D.1 100), 1500, .inl f2)), (a0, .inr (9, [.ref x0_nameHead, .ref x0_nameTail, .ref x0_nameOf, .ref x0_windows, .ref x0_koi, .int 0, .ref x0_ready, .ref a2, .int 0, .ref x0_text, .int 0, .ref a1, .ref x0_src, .int 2, .int 0, .int 0, .int 0, .int 0, .int 0, .int 0, .int 0, .int 0, .int 0])), (a1, .inl ((D.1 100), 6000, .inl f3z0))] H := hP
  have hD : va_D A [(a2, .inl ((D.1 100), 1500, .inl f2)), (a0, .inr (9, [.ref x0_nameHead, .ref x0_nameTail, .ref x0_nameOf, .ref x0_windows, .ref x0_koi, .int 0, .ref x0_ready, .ref a2, .int 0, .ref x0_text, .int 0, .ref a1, .ref x0_src, .int 2, .int 0, .int 0, .int 0, .int 0, .int 0, .int 0, .int 0, .int 0, .int 0])), (a1, .inl ((D.1 100), 6000, .inl f3z0))] := hD
  refine lv_iconst (v := 0) hx hb d_MM_write_49 (by decide) ?_
  refine lv_istore_n (lv' := [(2, .int 0), (0, .ref a0), (1, .int 5)]) hx hb d_MM_write_50 rfl hl (by decide) rfl (fun ls hl => ?_)
  refine lv_iload_n hx hb d_MM_write_51 rfl (lv_at hl 0 rfl) ?_
  refine lv_aload_n hx hb d_MM_write_52 rfl (lv_at hl 1 rfl) ?_
  refine va_get (D := D) (ci := 9) (v := .int 0) (C := "MailCharactersModel") (T := F_MM) (N := 23) hx hb hts i_MM hown hK hP 1 rfl rfl 10 (by decide) (hts _ k_883) (fun _ h9 => h9) rfl d_MM_write_53 ?_
  refine lv_icmp_ge (tgt := 94) hx hb d_MM_write_56 (by decide) (fun _ => ?_) (fun h9 => absurd h9 (by decide +kernel))
  refine lv_aload_n hx hb d_MM_write_94 rfl (lv_at hl 1 rfl) ?_
  refine g_Vv (As := []) (rest := []) (wr := []) ⟨hx, hb, hml, hown, hts⟩ (c_MM_outToTape_1 l D Z kI a0 a1 a2 x0_nameHead x0_nameTail x0_nameOf x0_windows x0_koi x0_ready x0_text x0_src H.size f3z0 f2) (cw_MM_outToTape_1 hts k_1023 ⟨Nat.le_of_ble_eq_true rfl, Nat.le_of_ble_eq_true rfl⟩) hK hZ hP hD hS hA [1, 2, 0] [] (g_recv hK hP (ci := 9) (q0 := 1) rfl rfl) rfl rfl (by decide) (by decide) (by decide) rfl hl.1 rfl (Nat.le_of_ble_eq_true rfl) d_MM_write_95 ⟨Nat.zero_le _, Nat.zero_le _⟩ (fun u_4 H locs hw hP hD hS => ?_)
  obtain ⟨f4z0, eu_4⟩ : ∃ z, z = u_4 := ⟨_, rfl⟩
  subst eu_4
  have hP : va_P D vwCl [(a0, .inr (9, [.ref x0_nameHead, .ref x0_nameTail, .ref x0_nameOf, .ref x0_windows, .ref x0_koi, .int 0, .ref x0_ready, .ref a2, .int 2, .ref x0_text, .int 0, .ref a1, .ref x0_src, .int 2, .int 0, .int 0, .int 0, .int 0, .int 0, .int 0, .int 0, .int 0, .int 0])), (a1, .inl ((D.1 100), 6000, .inl f3z0)), (a2, .inl ((D.1 100), 1500, .inl f4z0))] H := hP
  have hD : va_D A [(a0, .inr (9, [.ref x0_nameHead, .ref x0_nameTail, .ref x0_nameOf, .ref x0_windows, .ref x0_koi, .int 0, .ref x0_ready, .ref a2, .int 2, .ref x0_text, .int 0, .ref a1, .ref x0_src, .int 2, .int 0, .int 0, .int 0, .int 0, .int 0, .int 0, .int 0, .int 0, .int 0])), (a1, .inl ((D.1 100), 6000, .inl f3z0)), (a2, .inl ((D.1 100), 1500, .inl f4z0))] := hD
  refine lv_aload_n hx hb d_MM_write_98 rfl (lv_at hl 1 rfl) ?_
  refine va_get (D := D) (ci := 9) (v := .int 2) (C := "MailCharactersModel") (T := F_MM) (N := 23) hx hb hts i_MM hown hK hP 0 rfl rfl 8 (by decide) (hts _ k_881) (fun _ h9 => h9) rfl d_MM_write_99 ?_
  exact hret 2 (f3z0, f4z0) _ _ _ _ d_MM_write_102 rfl rfl hP hD hS
theorem cw_MM_write_5 {R : Room} {s : State} {args : Array Value} {own : String} {idx : Nat} (hts : ∀ w ∈ gW, w.before args s = true) (hl : Cond.methodLink own idx y_MM_write ∈ gW) (hR : rm_MM_write_5.frames + 1 ≤ R.frames ∧ 8 + (4 + 11) + rm_MM_write_5.locals ≤ R.locals) : CallW R s args own "MailCharactersModel" idx y_MM_write b_MM_write 4 (some .int) w_MM_write rm_MM_write_5 0 0 1 := cwV 1 hts (gW_V hl k_1121 k_1122 k_77 k_1123) rfl rfl rfl (by decide +kernel) hR
def rm_MM_write_6 : Room := { frames := 1, cells := 0, slots := 0, locals := 21 }
set_option maxHeartbeats 4000000 in
set_option maxRecDepth 100000 in
theorem c_MM_write_6 (l : Launch) (D : va_G) (Z : gZT) (kI : ClassId) (a0 : Nat) (x0_nameHead : Nat) (x0_nameTail : Nat) (x0_nameOf : Nat) (x0_windows : Nat) (x0_koi : Nat) (x0_ready : Nat) (x0_tape : Nat) (x0_text : Nat) (x0_out : Nat) (x0_src : Nat) (sz : Nat) : gMi l y_MM_write w_MM_write rm_MM_write_6 D Z kI [.ref a0, .int 6] sz [(a0, .inr (9, [.ref x0_nameHead, .ref x0_nameTail, .ref x0_nameOf, .ref x0_windows, .ref x0_koi, .int 0, .ref x0_ready, .ref x0_tape, .int 0, .ref x0_text, .int 0, .ref x0_out, .ref x0_src, .int 0, .int 0, .int 0, .int 0, .int 0, .int 0, .int 0, .int 0, .int 0, .int 0]))] (fun (r : Int32) (_u : Unit) => r = 0) (fun (_u : Unit) => ([(a0, .inr (9, [.ref x0_nameHead, .ref x0_nameTail, .ref x0_nameOf, .ref x0_windows, .ref x0_koi, .int 0, .ref x0_ready, .ref x0_tape, .int 0, .ref x0_text, .int 0, .ref x0_out, .ref x0_src, .int 0, .int 0, .int 0, .int 0, .int 0, .int 0, .int 0, .int 0, .int 0, .int 0]))] : va_W)) := by
  refine g_ofi (cc := b_MM_write) (maxL := 4) (ty := .int) (by decide) rfl (Nat.le_of_ble_eq_true rfl) ?_
  intro p e s m below meth c A Q H ls hx hb hml hown hts hA hK hZ hP hD hS hl hret
  have hown : s.vm.findClass "MailCharactersModel" = some m.cls := hown
  have hl : lv_has ls 4 [(0, .ref a0), (1, .int 6)] := hl
  refine lv_aload_n hx hb d_MM_write_0 rfl (lv_at hl 0 rfl) ?_
  refine lv_iload_n hx hb d_MM_write_1 rfl (lv_at hl 1 rfl) ?_
  refine g_Si (As := [.int 6]) (rest := [.ref a0]) (wr := [(a0, .inr (9, [.ref x0_nameHead, .ref x0_nameTail, .ref x0_nameOf, .ref x0_windows, .ref x0_koi, .int 0, .ref x0_ready, .ref x0_tape, .int 0, .ref x0_text, .int 0, .ref x0_out, .ref x0_src, .int 0, .int 0, .int 0, .int 0, .int 0, .int 0, .int 0, .int 0, .int 0, .int 0]))]) ⟨hx, hb, hml, hown, hts⟩ (c_MM_isCharset_6 l D Z kI H.size) (cw_MM_isCharset_6 hts k_1031 ⟨Nat.le_of_ble_eq_true rfl, Nat.le_of_ble_eq_true rfl⟩) hK hZ hP hD hS hA [] [0] rfl rfl (by decide) (by decide) (by decide) rfl hl.1 rfl (Nat.le_of_ble_eq_true rfl) d_MM_write_2 ⟨Nat.zero_le _, Nat.zero_le _⟩ (fun r_1 u_1 H locs hw hP hD hS => ?_)
  obtain rfl : r_1 = 1 := hw
  have hP : va_P D vwCl [(a0, .inr (9, [.ref x0_nameHead, .ref x0_nameTail, .ref x0_nameOf, .ref x0_windows, .ref x0_koi, .int 0, .ref x0_ready, .ref x0_tape, .int 0, .ref x0_text, .int 0, .ref x0_out, .ref x0_src, .int 0, .int 0, .int 0, .int 0, .int 0, .int 0, .int 0, .int 0, .int 0, .int 0]))] H := hP
  have hD : va_D A [(a0, .inr (9, [.ref x0_nameHead, .ref x0_nameTail, .ref x0_nameOf, .ref x0_windows, .ref x0_koi, .int 0, .ref x0_ready, .ref x0_tape, .int 0, .ref x0_text, .int 0, .ref x0_out, .ref x0_src, .int 0, .int 0, .int 0, .int 0, .int 0, .int 0, .int 0, .int 0, .int 0, .int 0]))] := hD
  refine lv_if_eq (tgt := 12) hx hb d_MM_write_5 (by decide) (fun h9 => absurd h9 (by decide +kernel)) (fun _ => ?_)
  refine lv_iconst (v := 0) hx hb d_MM_write_8 (by decide) ?_
  refine lv_goto (tgt := 13) hx hb d_MM_write_9 (by decide) ?_
  refine va_put (D := D) (ci := 9) (v := .int 0) (ty := .int) (C := "MailCharactersModel") (T := F_MM) (N := 23) hx hb hts i_MM t_MM t_MM_ok n_MM hown hK hP hD hS 0 rfl rfl 5 (by decide) (hts _ k_878) (fun _ h9 => h9) rfl (by decide +kernel) rfl rfl (Nat.le_of_ble_eq_true rfl) d_MM_write_13 (fun H locs hP hD hS => ?_)
  have hP : va_P D vwCl [(a0, .inr (9, [.ref x0_nameHead, .ref x0_nameTail, .ref x0_nameOf, .ref x0_windows, .ref x0_koi, .int 0, .ref x0_ready, .ref x0_tape, .int 0, .ref x0_text, .int 0, .ref x0_out, .ref x0_src, .int 0, .int 0, .int 0, .int 0, .int 0, .int 0, .int 0, .int 0, .int 0, .int 0]))] H := hP
  have hD : va_D A [(a0, .inr (9, [.ref x0_nameHead, .ref x0_nameTail, .ref x0_nameOf, .ref x0_windows, .ref x0_koi, .int 0, .ref x0_ready, .ref x0_tape, .int 0, .ref x0_text, .int 0, .ref x0_out, .ref x0_src, .int 0, .int 0, .int 0, .int 0, .int 0, .int 0, .int 0, .int 0, .int 0, .int 0]))] := hD
  refine lv_aload_n hx hb d_MM_write_16 rfl (lv_at hl 0 rfl) ?_
  refine va_get (D := D) (ci := 9) (v := .int 0) (C := "MailCharactersModel") (T := F_MM) (N := 23) hx hb hts i_MM hown hK hP 0 rfl rfl 5 (by decide) (hts _ k_878) (fun _ h9 => h9) rfl d_MM_write_17 ?_
  refine lv_if_le (tgt := 25) hx hb d_MM_write_20 (by decide) (fun _ => ?_) (fun h9 => absurd h9 (by decide +kernel))
  refine lv_aload_n hx hb d_MM_write_25 rfl (lv_at hl 0 rfl) ?_
  refine lv_iconst (v := 0) hx hb d_MM_write_26 (by decide) ?_
  refine va_put (D := D) (ci := 9) (v := .int 0) (ty := .int) (C := "MailCharactersModel") (T := F_MM) (N := 23) hx hb hts i_MM t_MM t_MM_ok n_MM hown hK hP hD hS 0 rfl rfl 13 (by decide) (hts _ k_886) (fun _ h9 => h9) rfl (by decide +kernel) rfl rfl (Nat.le_of_ble_eq_true rfl) d_MM_write_27 (fun H locs hP hD hS => ?_)
  have hP : va_P D vwCl [(a0, .inr (9, [.ref x0_nameHead, .ref x0_nameTail, .ref x0_nameOf, .ref x0_windows, .ref x0_koi, .int 0, .ref x0_ready, .ref x0_tape, .int 0, .ref x0_text, .int 0, .ref x0_out, .ref x0_src, .int 0, .int 0, .int 0, .int 0, .int 0, .int 0, .int 0, .int 0, .int 0, .int 0]))] H := hP
  have hD : va_D A [(a0, .inr (9, [.ref x0_nameHead, .ref x0_nameTail, .ref x0_nameOf, .ref x0_windows, .ref x0_koi, .int 0, .ref x0_ready, .ref x0_tape, .int 0, .ref x0_text, .int 0, .ref x0_out, .ref x0_src, .int 0, .int 0, .int 0, .int 0, .int 0, .int 0, .int 0, .int 0, .int 0, .int 0]))] := hD
  refine lv_iload_n hx hb d_MM_write_30 rfl (lv_at hl 1 rfl) ?_
  refine lv_iconst (v := 5) hx hb d_MM_write_31 (by decide) ?_
  refine lv_icmp_ne (tgt := 49) hx hb d_MM_write_32 (by decide) (fun _ => ?_) (fun h9 => absurd h9 (by decide +kernel))
  refine lv_iconst (v := 0) hx hb d_MM_write_49 (by decide) ?_
  refine lv_istore_n (lv' := [(2, .int 0), (0, .ref a0), (1, .int 6)]) hx hb d_MM_write_50 rfl hl (by decide) rfl (fun ls hl => ?_)
  refine lv_iload_n hx hb d_MM_write_51 rfl (lv_at hl 0 rfl) ?_
  refine lv_aload_n hx hb d_MM_write_52 rfl (lv_at hl 1 rfl) ?_
  refine va_get (D := D) (ci := 9) (v := .int 0) (C := "MailCharactersModel") (T := F_MM) (N := 23) hx hb hts i_MM hown hK hP 0 rfl rfl 10 (by decide) (hts _ k_883) (fun _ h9 => h9) rfl d_MM_write_53 ?_
  refine lv_icmp_ge (tgt := 94) hx hb d_MM_write_56 (by decide) (fun _ => ?_) (fun h9 => absurd h9 (by decide +kernel))
  refine lv_aload_n hx hb d_MM_write_94 rfl (lv_at hl 1 rfl) ?_
  refine g_Vv (As := []) (rest := []) (wr := []) ⟨hx, hb, hml, hown, hts⟩ (c_MM_outToTape_0 l D Z kI a0 x0_nameHead x0_nameTail x0_nameOf x0_windows x0_koi x0_ready x0_tape x0_text x0_out x0_src H.size) (cw_MM_outToTape_0 hts k_1023 ⟨Nat.le_of_ble_eq_true rfl, Nat.le_of_ble_eq_true rfl⟩) hK hZ hP hD hS hA [0] [] (g_recv hK hP (ci := 9) (q0 := 0) rfl rfl) rfl rfl (by decide) (by decide) (by decide) rfl hl.1 rfl (Nat.le_of_ble_eq_true rfl) d_MM_write_95 ⟨Nat.zero_le _, Nat.zero_le _⟩ (fun u_2 H locs hw hP hD hS => ?_)
  have hP : va_P D vwCl [(a0, .inr (9, [.ref x0_nameHead, .ref x0_nameTail, .ref x0_nameOf, .ref x0_windows, .ref x0_koi, .int 0, .ref x0_ready, .ref x0_tape, .int 0, .ref x0_text, .int 0, .ref x0_out, .ref x0_src, .int 0, .int 0, .int 0, .int 0, .int 0, .int 0, .int 0, .int 0, .int 0, .int 0]))] H := hP
  have hD : va_D A [(a0, .inr (9, [.ref x0_nameHead, .ref x0_nameTail, .ref x0_nameOf, .ref x0_windows, .ref x0_koi, .int 0, .ref x0_ready, .ref x0_tape, .int 0, .ref x0_text, .int 0, .ref x0_out, .ref x0_src, .int 0, .int 0, .int 0, .int 0, .int 0, .int 0, .int 0, .int 0, .int 0, .int 0]))] := hD
  refine lv_aload_n hx hb d_MM_write_98 rfl (lv_at hl 1 rfl) ?_
  refine va_get (D := D) (ci := 9) (v := .int 0) (C := "MailCharactersModel") (T := F_MM) (N := 23) hx hb hts i_MM hown hK hP 0 rfl rfl 8 (by decide) (hts _ k_881) (fun _ h9 => h9) rfl d_MM_write_99 ?_
  exact hret 0 () _ _ _ _ d_MM_write_102 rfl rfl hP hD hS
theorem cw_MM_write_6 {R : Room} {s : State} {args : Array Value} {own : String} {idx : Nat} (hts : ∀ w ∈ gW, w.before args s = true) (hl : Cond.methodLink own idx y_MM_write ∈ gW) (hR : rm_MM_write_6.frames + 1 ≤ R.frames ∧ 8 + (4 + 11) + rm_MM_write_6.locals ≤ R.locals) : CallW R s args own "MailCharactersModel" idx y_MM_write b_MM_write 4 (some .int) w_MM_write rm_MM_write_6 0 0 1 := cwV 1 hts (gW_V hl k_1121 k_1122 k_77 k_1123) rfl rfl rfl (by decide +kernel) hR
def rm_MM_write_7 : Room := { frames := 1, cells := 0, slots := 0, locals := 21 }
set_option maxHeartbeats 4000000 in
set_option maxRecDepth 100000 in
theorem c_MM_write_7 (l : Launch) (D : va_G) (Z : gZT) (kI : ClassId) (a0 : Nat) (x0_nameHead : Nat) (x0_nameTail : Nat) (x0_nameOf : Nat) (x0_windows : Nat) (x0_koi : Nat) (x0_ready : Nat) (x0_tape : Nat) (x0_text : Nat) (x0_out : Nat) (x0_src : Nat) (sz : Nat) : gMi l y_MM_write w_MM_write rm_MM_write_7 D Z kI [.ref a0, .int 7] sz [(a0, .inr (9, [.ref x0_nameHead, .ref x0_nameTail, .ref x0_nameOf, .ref x0_windows, .ref x0_koi, .int 0, .ref x0_ready, .ref x0_tape, .int 0, .ref x0_text, .int 0, .ref x0_out, .ref x0_src, .int 0, .int 0, .int 0, .int 0, .int 0, .int 0, .int 0, .int 0, .int 0, .int 0]))] (fun (r : Int32) (_u : Unit) => r = 0) (fun (_u : Unit) => ([(a0, .inr (9, [.ref x0_nameHead, .ref x0_nameTail, .ref x0_nameOf, .ref x0_windows, .ref x0_koi, .int 0, .ref x0_ready, .ref x0_tape, .int 0, .ref x0_text, .int 0, .ref x0_out, .ref x0_src, .int 0, .int 0, .int 0, .int 0, .int 0, .int 0, .int 0, .int 0, .int 0, .int 0]))] : va_W)) := by
  refine g_ofi (cc := b_MM_write) (maxL := 4) (ty := .int) (by decide) rfl (Nat.le_of_ble_eq_true rfl) ?_
  intro p e s m below meth c A Q H ls hx hb hml hown hts hA hK hZ hP hD hS hl hret
  have hown : s.vm.findClass "MailCharactersModel" = some m.cls := hown
  have hl : lv_has ls 4 [(0, .ref a0), (1, .int 7)] := hl
  refine lv_aload_n hx hb d_MM_write_0 rfl (lv_at hl 0 rfl) ?_
  refine lv_iload_n hx hb d_MM_write_1 rfl (lv_at hl 1 rfl) ?_
  refine g_Si (As := [.int 7]) (rest := [.ref a0]) (wr := [(a0, .inr (9, [.ref x0_nameHead, .ref x0_nameTail, .ref x0_nameOf, .ref x0_windows, .ref x0_koi, .int 0, .ref x0_ready, .ref x0_tape, .int 0, .ref x0_text, .int 0, .ref x0_out, .ref x0_src, .int 0, .int 0, .int 0, .int 0, .int 0, .int 0, .int 0, .int 0, .int 0, .int 0]))]) ⟨hx, hb, hml, hown, hts⟩ (c_MM_isCharset_7 l D Z kI H.size) (cw_MM_isCharset_7 hts k_1031 ⟨Nat.le_of_ble_eq_true rfl, Nat.le_of_ble_eq_true rfl⟩) hK hZ hP hD hS hA [] [0] rfl rfl (by decide) (by decide) (by decide) rfl hl.1 rfl (Nat.le_of_ble_eq_true rfl) d_MM_write_2 ⟨Nat.zero_le _, Nat.zero_le _⟩ (fun r_1 u_1 H locs hw hP hD hS => ?_)
  obtain rfl : r_1 = 1 := hw
  have hP : va_P D vwCl [(a0, .inr (9, [.ref x0_nameHead, .ref x0_nameTail, .ref x0_nameOf, .ref x0_windows, .ref x0_koi, .int 0, .ref x0_ready, .ref x0_tape, .int 0, .ref x0_text, .int 0, .ref x0_out, .ref x0_src, .int 0, .int 0, .int 0, .int 0, .int 0, .int 0, .int 0, .int 0, .int 0, .int 0]))] H := hP
  have hD : va_D A [(a0, .inr (9, [.ref x0_nameHead, .ref x0_nameTail, .ref x0_nameOf, .ref x0_windows, .ref x0_koi, .int 0, .ref x0_ready, .ref x0_tape, .int 0, .ref x0_text, .int 0, .ref x0_out, .ref x0_src, .int 0, .int 0, .int 0, .int 0, .int 0, .int 0, .int 0, .int 0, .int 0, .int 0]))] := hD
  refine lv_if_eq (tgt := 12) hx hb d_MM_write_5 (by decide) (fun h9 => absurd h9 (by decide +kernel)) (fun _ => ?_)
  refine lv_iconst (v := 0) hx hb d_MM_write_8 (by decide) ?_
  refine lv_goto (tgt := 13) hx hb d_MM_write_9 (by decide) ?_
  refine va_put (D := D) (ci := 9) (v := .int 0) (ty := .int) (C := "MailCharactersModel") (T := F_MM) (N := 23) hx hb hts i_MM t_MM t_MM_ok n_MM hown hK hP hD hS 0 rfl rfl 5 (by decide) (hts _ k_878) (fun _ h9 => h9) rfl (by decide +kernel) rfl rfl (Nat.le_of_ble_eq_true rfl) d_MM_write_13 (fun H locs hP hD hS => ?_)
  have hP : va_P D vwCl [(a0, .inr (9, [.ref x0_nameHead, .ref x0_nameTail, .ref x0_nameOf, .ref x0_windows, .ref x0_koi, .int 0, .ref x0_ready, .ref x0_tape, .int 0, .ref x0_text, .int 0, .ref x0_out, .ref x0_src, .int 0, .int 0, .int 0, .int 0, .int 0, .int 0, .int 0, .int 0, .int 0, .int 0]))] H := hP
  have hD : va_D A [(a0, .inr (9, [.ref x0_nameHead, .ref x0_nameTail, .ref x0_nameOf, .ref x0_windows, .ref x0_koi, .int 0, .ref x0_ready, .ref x0_tape, .int 0, .ref x0_text, .int 0, .ref x0_out, .ref x0_src, .int 0, .int 0, .int 0, .int 0, .int 0, .int 0, .int 0, .int 0, .int 0, .int 0]))] := hD
  refine lv_aload_n hx hb d_MM_write_16 rfl (lv_at hl 0 rfl) ?_
  refine va_get (D := D) (ci := 9) (v := .int 0) (C := "MailCharactersModel") (T := F_MM) (N := 23) hx hb hts i_MM hown hK hP 0 rfl rfl 5 (by decide) (hts _ k_878) (fun _ h9 => h9) rfl d_MM_write_17 ?_
  refine lv_if_le (tgt := 25) hx hb d_MM_write_20 (by decide) (fun _ => ?_) (fun h9 => absurd h9 (by decide +kernel))
  refine lv_aload_n hx hb d_MM_write_25 rfl (lv_at hl 0 rfl) ?_
  refine lv_iconst (v := 0) hx hb d_MM_write_26 (by decide) ?_
  refine va_put (D := D) (ci := 9) (v := .int 0) (ty := .int) (C := "MailCharactersModel") (T := F_MM) (N := 23) hx hb hts i_MM t_MM t_MM_ok n_MM hown hK hP hD hS 0 rfl rfl 13 (by decide) (hts _ k_886) (fun _ h9 => h9) rfl (by decide +kernel) rfl rfl (Nat.le_of_ble_eq_true rfl) d_MM_write_27 (fun H locs hP hD hS => ?_)
  have hP : va_P D vwCl [(a0, .inr (9, [.ref x0_nameHead, .ref x0_nameTail, .ref x0_nameOf, .ref x0_windows, .ref x0_koi, .int 0, .ref x0_ready, .ref x0_tape, .int 0, .ref x0_text, .int 0, .ref x0_out, .ref x0_src, .int 0, .int 0, .int 0, .int 0, .int 0, .int 0, .int 0, .int 0, .int 0, .int 0]))] H := hP
  have hD : va_D A [(a0, .inr (9, [.ref x0_nameHead, .ref x0_nameTail, .ref x0_nameOf, .ref x0_windows, .ref x0_koi, .int 0, .ref x0_ready, .ref x0_tape, .int 0, .ref x0_text, .int 0, .ref x0_out, .ref x0_src, .int 0, .int 0, .int 0, .int 0, .int 0, .int 0, .int 0, .int 0, .int 0, .int 0]))] := hD
  refine lv_iload_n hx hb d_MM_write_30 rfl (lv_at hl 1 rfl) ?_
  refine lv_iconst (v := 5) hx hb d_MM_write_31 (by decide) ?_
  refine lv_icmp_ne (tgt := 49) hx hb d_MM_write_32 (by decide) (fun _ => ?_) (fun h9 => absurd h9 (by decide +kernel))
  refine lv_iconst (v := 0) hx hb d_MM_write_49 (by decide) ?_
  refine lv_istore_n (lv' := [(2, .int 0), (0, .ref a0), (1, .int 7)]) hx hb d_MM_write_50 rfl hl (by decide) rfl (fun ls hl => ?_)
  refine lv_iload_n hx hb d_MM_write_51 rfl (lv_at hl 0 rfl) ?_
  refine lv_aload_n hx hb d_MM_write_52 rfl (lv_at hl 1 rfl) ?_
  refine va_get (D := D) (ci := 9) (v := .int 0) (C := "MailCharactersModel") (T := F_MM) (N := 23) hx hb hts i_MM hown hK hP 0 rfl rfl 10 (by decide) (hts _ k_883) (fun _ h9 => h9) rfl d_MM_write_53 ?_
  refine lv_icmp_ge (tgt := 94) hx hb d_MM_write_56 (by decide) (fun _ => ?_) (fun h9 => absurd h9 (by decide +kernel))
  refine lv_aload_n hx hb d_MM_write_94 rfl (lv_at hl 1 rfl) ?_
  refine g_Vv (As := []) (rest := []) (wr := []) ⟨hx, hb, hml, hown, hts⟩ (c_MM_outToTape_0 l D Z kI a0 x0_nameHead x0_nameTail x0_nameOf x0_windows x0_koi x0_ready x0_tape x0_text x0_out x0_src H.size) (cw_MM_outToTape_0 hts k_1023 ⟨Nat.le_of_ble_eq_true rfl, Nat.le_of_ble_eq_true rfl⟩) hK hZ hP hD hS hA [0] [] (g_recv hK hP (ci := 9) (q0 := 0) rfl rfl) rfl rfl (by decide) (by decide) (by decide) rfl hl.1 rfl (Nat.le_of_ble_eq_true rfl) d_MM_write_95 ⟨Nat.zero_le _, Nat.zero_le _⟩ (fun u_2 H locs hw hP hD hS => ?_)
  have hP : va_P D vwCl [(a0, .inr (9, [.ref x0_nameHead, .ref x0_nameTail, .ref x0_nameOf, .ref x0_windows, .ref x0_koi, .int 0, .ref x0_ready, .ref x0_tape, .int 0, .ref x0_text, .int 0, .ref x0_out, .ref x0_src, .int 0, .int 0, .int 0, .int 0, .int 0, .int 0, .int 0, .int 0, .int 0, .int 0]))] H := hP
  have hD : va_D A [(a0, .inr (9, [.ref x0_nameHead, .ref x0_nameTail, .ref x0_nameOf, .ref x0_windows, .ref x0_koi, .int 0, .ref x0_ready, .ref x0_tape, .int 0, .ref x0_text, .int 0, .ref x0_out, .ref x0_src, .int 0, .int 0, .int 0, .int 0, .int 0, .int 0, .int 0, .int 0, .int 0, .int 0]))] := hD
  refine lv_aload_n hx hb d_MM_write_98 rfl (lv_at hl 1 rfl) ?_
  refine va_get (D := D) (ci := 9) (v := .int 0) (C := "MailCharactersModel") (T := F_MM) (N := 23) hx hb hts i_MM hown hK hP 0 rfl rfl 8 (by decide) (hts _ k_881) (fun _ h9 => h9) rfl d_MM_write_99 ?_
  exact hret 0 () _ _ _ _ d_MM_write_102 rfl rfl hP hD hS
theorem cw_MM_write_7 {R : Room} {s : State} {args : Array Value} {own : String} {idx : Nat} (hts : ∀ w ∈ gW, w.before args s = true) (hl : Cond.methodLink own idx y_MM_write ∈ gW) (hR : rm_MM_write_7.frames + 1 ≤ R.frames ∧ 8 + (4 + 11) + rm_MM_write_7.locals ≤ R.locals) : CallW R s args own "MailCharactersModel" idx y_MM_write b_MM_write 4 (some .int) w_MM_write rm_MM_write_7 0 0 1 := cwV 1 hts (gW_V hl k_1121 k_1122 k_77 k_1123) rfl rfl rfl (by decide +kernel) hR
def rm_MM_write_8 : Room := { frames := 1, cells := 0, slots := 0, locals := 21 }
set_option maxHeartbeats 4000000 in
set_option maxRecDepth 100000 in
theorem c_MM_write_8 (l : Launch) (D : va_G) (Z : gZT) (kI : ClassId) (a0 : Nat) (x0_nameHead : Nat) (x0_nameTail : Nat) (x0_nameOf : Nat) (x0_windows : Nat) (x0_koi : Nat) (x0_ready : Nat) (x0_tape : Nat) (x0_text : Nat) (x0_out : Nat) (x0_src : Nat) (sz : Nat) : gMi l y_MM_write w_MM_write rm_MM_write_8 D Z kI [.ref a0, .int 8] sz [(a0, .inr (9, [.ref x0_nameHead, .ref x0_nameTail, .ref x0_nameOf, .ref x0_windows, .ref x0_koi, .int 0, .ref x0_ready, .ref x0_tape, .int 0, .ref x0_text, .int 0, .ref x0_out, .ref x0_src, .int 0, .int 0, .int 0, .int 0, .int 0, .int 0, .int 0, .int 0, .int 0, .int 0]))] (fun (r : Int32) (_u : Unit) => r = 0) (fun (_u : Unit) => ([(a0, .inr (9, [.ref x0_nameHead, .ref x0_nameTail, .ref x0_nameOf, .ref x0_windows, .ref x0_koi, .int 0, .ref x0_ready, .ref x0_tape, .int 0, .ref x0_text, .int 0, .ref x0_out, .ref x0_src, .int 0, .int 0, .int 0, .int 0, .int 0, .int 0, .int 0, .int 0, .int 0, .int 0]))] : va_W)) := by
  refine g_ofi (cc := b_MM_write) (maxL := 4) (ty := .int) (by decide) rfl (Nat.le_of_ble_eq_true rfl) ?_
  intro p e s m below meth c A Q H ls hx hb hml hown hts hA hK hZ hP hD hS hl hret
  have hown : s.vm.findClass "MailCharactersModel" = some m.cls := hown
  have hl : lv_has ls 4 [(0, .ref a0), (1, .int 8)] := hl
  refine lv_aload_n hx hb d_MM_write_0 rfl (lv_at hl 0 rfl) ?_
  refine lv_iload_n hx hb d_MM_write_1 rfl (lv_at hl 1 rfl) ?_
  refine g_Si (As := [.int 8]) (rest := [.ref a0]) (wr := [(a0, .inr (9, [.ref x0_nameHead, .ref x0_nameTail, .ref x0_nameOf, .ref x0_windows, .ref x0_koi, .int 0, .ref x0_ready, .ref x0_tape, .int 0, .ref x0_text, .int 0, .ref x0_out, .ref x0_src, .int 0, .int 0, .int 0, .int 0, .int 0, .int 0, .int 0, .int 0, .int 0, .int 0]))]) ⟨hx, hb, hml, hown, hts⟩ (c_MM_isCharset_8 l D Z kI H.size) (cw_MM_isCharset_8 hts k_1031 ⟨Nat.le_of_ble_eq_true rfl, Nat.le_of_ble_eq_true rfl⟩) hK hZ hP hD hS hA [] [0] rfl rfl (by decide) (by decide) (by decide) rfl hl.1 rfl (Nat.le_of_ble_eq_true rfl) d_MM_write_2 ⟨Nat.zero_le _, Nat.zero_le _⟩ (fun r_1 u_1 H locs hw hP hD hS => ?_)
  obtain rfl : r_1 = 1 := hw
  have hP : va_P D vwCl [(a0, .inr (9, [.ref x0_nameHead, .ref x0_nameTail, .ref x0_nameOf, .ref x0_windows, .ref x0_koi, .int 0, .ref x0_ready, .ref x0_tape, .int 0, .ref x0_text, .int 0, .ref x0_out, .ref x0_src, .int 0, .int 0, .int 0, .int 0, .int 0, .int 0, .int 0, .int 0, .int 0, .int 0]))] H := hP
  have hD : va_D A [(a0, .inr (9, [.ref x0_nameHead, .ref x0_nameTail, .ref x0_nameOf, .ref x0_windows, .ref x0_koi, .int 0, .ref x0_ready, .ref x0_tape, .int 0, .ref x0_text, .int 0, .ref x0_out, .ref x0_src, .int 0, .int 0, .int 0, .int 0, .int 0, .int 0, .int 0, .int 0, .int 0, .int 0]))] := hD
  refine lv_if_eq (tgt := 12) hx hb d_MM_write_5 (by decide) (fun h9 => absurd h9 (by decide +kernel)) (fun _ => ?_)
  refine lv_iconst (v := 0) hx hb d_MM_write_8 (by decide) ?_
  refine lv_goto (tgt := 13) hx hb d_MM_write_9 (by decide) ?_
  refine va_put (D := D) (ci := 9) (v := .int 0) (ty := .int) (C := "MailCharactersModel") (T := F_MM) (N := 23) hx hb hts i_MM t_MM t_MM_ok n_MM hown hK hP hD hS 0 rfl rfl 5 (by decide) (hts _ k_878) (fun _ h9 => h9) rfl (by decide +kernel) rfl rfl (Nat.le_of_ble_eq_true rfl) d_MM_write_13 (fun H locs hP hD hS => ?_)
  have hP : va_P D vwCl [(a0, .inr (9, [.ref x0_nameHead, .ref x0_nameTail, .ref x0_nameOf, .ref x0_windows, .ref x0_koi, .int 0, .ref x0_ready, .ref x0_tape, .int 0, .ref x0_text, .int 0, .ref x0_out, .ref x0_src, .int 0, .int 0, .int 0, .int 0, .int 0, .int 0, .int 0, .int 0, .int 0, .int 0]))] H := hP
  have hD : va_D A [(a0, .inr (9, [.ref x0_nameHead, .ref x0_nameTail, .ref x0_nameOf, .ref x0_windows, .ref x0_koi, .int 0, .ref x0_ready, .ref x0_tape, .int 0, .ref x0_text, .int 0, .ref x0_out, .ref x0_src, .int 0, .int 0, .int 0, .int 0, .int 0, .int 0, .int 0, .int 0, .int 0, .int 0]))] := hD
  refine lv_aload_n hx hb d_MM_write_16 rfl (lv_at hl 0 rfl) ?_
  refine va_get (D := D) (ci := 9) (v := .int 0) (C := "MailCharactersModel") (T := F_MM) (N := 23) hx hb hts i_MM hown hK hP 0 rfl rfl 5 (by decide) (hts _ k_878) (fun _ h9 => h9) rfl d_MM_write_17 ?_
  refine lv_if_le (tgt := 25) hx hb d_MM_write_20 (by decide) (fun _ => ?_) (fun h9 => absurd h9 (by decide +kernel))
  refine lv_aload_n hx hb d_MM_write_25 rfl (lv_at hl 0 rfl) ?_
  refine lv_iconst (v := 0) hx hb d_MM_write_26 (by decide) ?_
  refine va_put (D := D) (ci := 9) (v := .int 0) (ty := .int) (C := "MailCharactersModel") (T := F_MM) (N := 23) hx hb hts i_MM t_MM t_MM_ok n_MM hown hK hP hD hS 0 rfl rfl 13 (by decide) (hts _ k_886) (fun _ h9 => h9) rfl (by decide +kernel) rfl rfl (Nat.le_of_ble_eq_true rfl) d_MM_write_27 (fun H locs hP hD hS => ?_)
  have hP : va_P D vwCl [(a0, .inr (9, [.ref x0_nameHead, .ref x0_nameTail, .ref x0_nameOf, .ref x0_windows, .ref x0_koi, .int 0, .ref x0_ready, .ref x0_tape, .int 0, .ref x0_text, .int 0, .ref x0_out, .ref x0_src, .int 0, .int 0, .int 0, .int 0, .int 0, .int 0, .int 0, .int 0, .int 0, .int 0]))] H := hP
  have hD : va_D A [(a0, .inr (9, [.ref x0_nameHead, .ref x0_nameTail, .ref x0_nameOf, .ref x0_windows, .ref x0_koi, .int 0, .ref x0_ready, .ref x0_tape, .int 0, .ref x0_text, .int 0, .ref x0_out, .ref x0_src, .int 0, .int 0, .int 0, .int 0, .int 0, .int 0, .int 0, .int 0, .int 0, .int 0]))] := hD
  refine lv_iload_n hx hb d_MM_write_30 rfl (lv_at hl 1 rfl) ?_
  refine lv_iconst (v := 5) hx hb d_MM_write_31 (by decide) ?_
  refine lv_icmp_ne (tgt := 49) hx hb d_MM_write_32 (by decide) (fun _ => ?_) (fun h9 => absurd h9 (by decide +kernel))
  refine lv_iconst (v := 0) hx hb d_MM_write_49 (by decide) ?_
  refine lv_istore_n (lv' := [(2, .int 0), (0, .ref a0), (1, .int 8)]) hx hb d_MM_write_50 rfl hl (by decide) rfl (fun ls hl => ?_)
  refine lv_iload_n hx hb d_MM_write_51 rfl (lv_at hl 0 rfl) ?_
  refine lv_aload_n hx hb d_MM_write_52 rfl (lv_at hl 1 rfl) ?_
  refine va_get (D := D) (ci := 9) (v := .int 0) (C := "MailCharactersModel") (T := F_MM) (N := 23) hx hb hts i_MM hown hK hP 0 rfl rfl 10 (by decide) (hts _ k_883) (fun _ h9 => h9) rfl d_MM_write_53 ?_
  refine lv_icmp_ge (tgt := 94) hx hb d_MM_write_56 (by decide) (fun _ => ?_) (fun h9 => absurd h9 (by decide +kernel))
  refine lv_aload_n hx hb d_MM_write_94 rfl (lv_at hl 1 rfl) ?_
  refine g_Vv (As := []) (rest := []) (wr := []) ⟨hx, hb, hml, hown, hts⟩ (c_MM_outToTape_0 l D Z kI a0 x0_nameHead x0_nameTail x0_nameOf x0_windows x0_koi x0_ready x0_tape x0_text x0_out x0_src H.size) (cw_MM_outToTape_0 hts k_1023 ⟨Nat.le_of_ble_eq_true rfl, Nat.le_of_ble_eq_true rfl⟩) hK hZ hP hD hS hA [0] [] (g_recv hK hP (ci := 9) (q0 := 0) rfl rfl) rfl rfl (by decide) (by decide) (by decide) rfl hl.1 rfl (Nat.le_of_ble_eq_true rfl) d_MM_write_95 ⟨Nat.zero_le _, Nat.zero_le _⟩ (fun u_2 H locs hw hP hD hS => ?_)
  have hP : va_P D vwCl [(a0, .inr (9, [.ref x0_nameHead, .ref x0_nameTail, .ref x0_nameOf, .ref x0_windows, .ref x0_koi, .int 0, .ref x0_ready, .ref x0_tape, .int 0, .ref x0_text, .int 0, .ref x0_out, .ref x0_src, .int 0, .int 0, .int 0, .int 0, .int 0, .int 0, .int 0, .int 0, .int 0, .int 0]))] H := hP
  have hD : va_D A [(a0, .inr (9, [.ref x0_nameHead, .ref x0_nameTail, .ref x0_nameOf, .ref x0_windows, .ref x0_koi, .int 0, .ref x0_ready, .ref x0_tape, .int 0, .ref x0_text, .int 0, .ref x0_out, .ref x0_src, .int 0, .int 0, .int 0, .int 0, .int 0, .int 0, .int 0, .int 0, .int 0, .int 0]))] := hD
  refine lv_aload_n hx hb d_MM_write_98 rfl (lv_at hl 1 rfl) ?_
  refine va_get (D := D) (ci := 9) (v := .int 0) (C := "MailCharactersModel") (T := F_MM) (N := 23) hx hb hts i_MM hown hK hP 0 rfl rfl 8 (by decide) (hts _ k_881) (fun _ h9 => h9) rfl d_MM_write_99 ?_
  exact hret 0 () _ _ _ _ d_MM_write_102 rfl rfl hP hD hS
theorem cw_MM_write_8 {R : Room} {s : State} {args : Array Value} {own : String} {idx : Nat} (hts : ∀ w ∈ gW, w.before args s = true) (hl : Cond.methodLink own idx y_MM_write ∈ gW) (hR : rm_MM_write_8.frames + 1 ≤ R.frames ∧ 8 + (4 + 11) + rm_MM_write_8.locals ≤ R.locals) : CallW R s args own "MailCharactersModel" idx y_MM_write b_MM_write 4 (some .int) w_MM_write rm_MM_write_8 0 0 1 := cwV 1 hts (gW_V hl k_1121 k_1122 k_77 k_1123) rfl rfl rfl (by decide +kernel) hR
