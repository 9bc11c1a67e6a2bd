def rm_MM_lay_0 : Room := { frames := 0, cells := 0, slots := 0, locals := 0 }
set_option maxHeartbeats 4000000 in
set_option maxRecDepth 100000 in
theorem c_MM_lay_0 (l : Launch) (D : va_G) (Z : gZT) (kI : ClassId) (a0 : Nat) (a1 : Nat) (x0_nameHead : Nat) (x0_nameTail : Nat) (x0_nameOf : Nat) (x0_windows : Nat) (x0_koi : Nat) (x0_tape : Nat) (x0_text : Nat) (x0_out : Nat) (x0_src : Nat) (sz : Nat) (f1 : Nat → Int32) (p2 : Int32) : gMv l y_MM_lay w_MM_lay rm_MM_lay_0 D Z kI [.ref a0, .int 0, .int p2] sz [(a0, .inr (9, [.ref x0_nameHead, .ref x0_nameTail, .ref x0_nameOf, .ref x0_windows, .ref x0_koi, .int 0, .ref a1, .ref x0_tape, .int 0, .ref x0_text, .int 0, .ref x0_out, .ref x0_src, .int 0, .int 0, .int 0, .int 0, .int 0, .int 0, .int 0, .int 0, .int 0, .int 0])), (a1, .inl ((D.1 100), 20, .inl f1))] (fun (_u : (Nat → Int32)) => True) (fun (u : (Nat → Int32)) => ([(a0, .inr (9, [.ref x0_nameHead, .ref x0_nameTail, .ref x0_nameOf, .ref x0_windows, .ref x0_koi, .int 0, .ref a1, .ref x0_tape, .int 0, .ref x0_text, .int 0, .ref x0_out, .ref x0_src, .int 0, .int 0, .int 0, .int 0, .int 0, .int 0, .int 0, .int 0, .int 0, .int 0])), (a1, .inl ((D.1 100), 20, .inl u))] : va_W)) := by
  refine g_ofv (cc := b_MM_lay) (maxL := 4) (by decide) rfl (Nat.le_of_ble_eq_true rfl) ?_
  intro p e s m below meth c A Q H ls hx hb hml hown hts hA hK hZ hP hD hS hl hret
  have hown : s.vm.findClass "MailCharactersModel" = some m.cls := hown
  have hl : lv_has ls 4 [(0, .ref a0), (1, .int 0), (2, .int p2)] := hl
  refine lv_iconst (v := 0) hx hb d_MM_lay_0 (by decide) ?_
  refine lv_istore_n (lv' := [(3, .int 0), (0, .ref a0), (1, .int 0), (2, .int p2)]) hx hb d_MM_lay_1 rfl hl (by decide) rfl (fun ls hl => ?_)
  refine lv_iload_n hx hb d_MM_lay_2 rfl (lv_at hl 0 rfl) ?_
  refine lv_iconst (v := 4) hx hb d_MM_lay_3 (by decide) ?_
  refine lv_icmp_ge (tgt := 31) hx hb d_MM_lay_4 (by decide) (fun h9 => absurd h9 (by decide +kernel)) (fun _ => ?_)
  refine lv_aload_n hx hb d_MM_lay_7 rfl (lv_at hl 1 rfl) ?_
  refine va_get (D := D) (ci := 9) (v := .ref a1) (C := "MailCharactersModel") (T := F_MM) (N := 23) hx hb hts i_MM hown hK hP 0 rfl rfl 6 (by decide) (hts _ k_879) (fun _ h9 => h9) rfl d_MM_lay_8 ?_
  refine lv_iload_n hx hb d_MM_lay_11 rfl (lv_at hl 2 rfl) ?_
  refine lv_iload_n hx hb d_MM_lay_12 rfl (lv_at hl 0 rfl) ?_
  refine lv_iadd hx hb d_MM_lay_13 ?_
  refine lv_topi (fun x_1 ex_1 => ?_)
  obtain rfl : x_1 = 0 := ex_1.trans (by decide)
  refine lv_iload_n hx hb d_MM_lay_14 rfl (lv_at hl 3 rfl) ?_
  refine lv_bipush (v := 24) hx hb d_MM_lay_15 (by decide) ?_
  refine lv_bipush (v := 8) hx hb d_MM_lay_17 (by decide) ?_
  refine lv_iload_n hx hb d_MM_lay_19 rfl (lv_at hl 0 rfl) ?_
  refine lv_imul hx hb d_MM_lay_20 ?_
  refine lv_topi (fun x_2 ex_2 => ?_)
  obtain rfl : x_2 = 0 := ex_2.trans (by decide)
  refine lv_isub hx hb d_MM_lay_21 ?_
  refine lv_topi (fun x_3 ex_3 => ?_)
  obtain rfl : x_3 = 24 := ex_3.trans (by decide)
  refine lv_ishr hx hb d_MM_lay_22 ?_
  refine lv_i2b hx hb d_MM_lay_23 rfl ?_
  refine va_bast hx hb hK hP hD hS 1 1 rfl rfl (by unfold vp_in; decide +kernel) d_MM_lay_24 (fun H locs hP hD hS => ?_)
  obtain ⟨f4z, hP, hD⟩ : ∃ f4z : Nat → Int32, va_P D vwCl [(a0, .inr (9, [.ref x0_nameHead, .ref x0_nameTail, .ref x0_nameOf, .ref x0_windows, .ref x0_koi, .int 0, .ref a1, .ref x0_tape, .int 0, .ref x0_text, .int 0, .ref x0_out, .ref x0_src, .int 0, .int 0, .int 0, .int 0, .int 0, .int 0, .int 0, .int 0, .int 0, .int 0])), (a1, .inl ((D.1 100), 20, .inl f4z))] H ∧ va_D A [(a0, .inr (9, [.ref x0_nameHead, .ref x0_nameTail, .ref x0_nameOf, .ref x0_windows, .ref x0_koi, .int 0, .ref a1, .ref x0_tape, .int 0, .ref x0_text, .int 0, .ref x0_out, .ref x0_src, .int 0, .int 0, .int 0, .int 0, .int 0, .int 0, .int 0, .int 0, .int 0, .int 0])), (a1, .inl ((D.1 100), 20, .inl f4z))] := ⟨_, hP, hD⟩
  refine lv_iinc (v := 1) (lv' := [(3, .int 1), (0, .ref a0), (1, .int 0), (2, .int p2)]) hx hb d_MM_lay_25 hl (k := 0) rfl (by decide) (by decide) rfl (fun ls hl => ?_)
  refine lv_goto (tgt := 2) hx hb d_MM_lay_28 (by decide) ?_
  refine lv_iload_n hx hb d_MM_lay_2 rfl (lv_at hl 0 rfl) ?_
  refine lv_iconst (v := 4) hx hb d_MM_lay_3 (by decide) ?_
  refine lv_icmp_ge (tgt := 31) hx hb d_MM_lay_4 (by decide) (fun h9 => absurd h9 (by decide +kernel)) (fun _ => ?_)
  refine lv_aload_n hx hb d_MM_lay_7 rfl (lv_at hl 1 rfl) ?_
  refine va_get (D := D) (ci := 9) (v := .ref a1) (C := "MailCharactersModel") (T := F_MM) (N := 23) hx hb hts i_MM hown hK hP 0 rfl rfl 6 (by decide) (hts _ k_879) (fun _ h9 => h9) rfl d_MM_lay_8 ?_
  refine lv_iload_n hx hb d_MM_lay_11 rfl (lv_at hl 2 rfl) ?_
  refine lv_iload_n hx hb d_MM_lay_12 rfl (lv_at hl 0 rfl) ?_
  refine lv_iadd hx hb d_MM_lay_13 ?_
  refine lv_topi (fun x_5 ex_5 => ?_)
  obtain rfl : x_5 = 1 := ex_5.trans (by decide)
  refine lv_iload_n hx hb d_MM_lay_14 rfl (lv_at hl 3 rfl) ?_
  refine lv_bipush (v := 24) hx hb d_MM_lay_15 (by decide) ?_
  refine lv_bipush (v := 8) hx hb d_MM_lay_17 (by decide) ?_
  refine lv_iload_n hx hb d_MM_lay_19 rfl (lv_at hl 0 rfl) ?_
  refine lv_imul hx hb d_MM_lay_20 ?_
  refine lv_topi (fun x_6 ex_6 => ?_)
  obtain rfl : x_6 = 8 := ex_6.trans (by decide)
  refine lv_isub hx hb d_MM_lay_21 ?_
  refine lv_topi (fun x_7 ex_7 => ?_)
  obtain rfl : x_7 = 16 := ex_7.trans (by decide)
  refine lv_ishr hx hb d_MM_lay_22 ?_
  refine lv_i2b hx hb d_MM_lay_23 rfl ?_
  refine va_bast hx hb hK hP hD hS 1 1 rfl rfl (by unfold vp_in; decide +kernel) d_MM_lay_24 (fun H locs hP hD hS => ?_)
  obtain ⟨f8z, hP, hD⟩ : ∃ f8z : Nat → Int32, va_P D vwCl [(a0, .inr (9, [.ref x0_nameHead, .ref x0_nameTail, .ref x0_nameOf, .ref x0_windows, .ref x0_koi, .int 0, .ref a1, .ref x0_tape, .int 0, .ref x0_text, .int 0, .ref x0_out, .ref x0_src, .int 0, .int 0, .int 0, .int 0, .int 0, .int 0, .int 0, .int 0, .int 0, .int 0])), (a1, .inl ((D.1 100), 20, .inl f8z))] H ∧ va_D A [(a0, .inr (9, [.ref x0_nameHead, .ref x0_nameTail, .ref x0_nameOf, .ref x0_windows, .ref x0_koi, .int 0, .ref a1, .ref x0_tape, .int 0, .ref x0_text, .int 0, .ref x0_out, .ref x0_src, .int 0, .int 0, .int 0, .int 0, .int 0, .int 0, .int 0, .int 0, .int 0, .int 0])), (a1, .inl ((D.1 100), 20, .inl f8z))] := ⟨_, hP, hD⟩
  refine lv_iinc (v := 2) (lv' := [(3, .int 2), (0, .ref a0), (1, .int 0), (2, .int p2)]) hx hb d_MM_lay_25 hl (k := 0) rfl (by decide) (by decide) rfl (fun ls hl => ?_)
  refine lv_goto (tgt := 2) hx hb d_MM_lay_28 (by decide) ?_
  refine lv_iload_n hx hb d_MM_lay_2 rfl (lv_at hl 0 rfl) ?_
  refine lv_iconst (v := 4) hx hb d_MM_lay_3 (by decide) ?_
  refine lv_icmp_ge (tgt := 31) hx hb d_MM_lay_4 (by decide) (fun h9 => absurd h9 (by decide +kernel)) (fun _ => ?_)
  refine lv_aload_n hx hb d_MM_lay_7 rfl (lv_at hl 1 rfl) ?_
  refine va_get (D := D) (ci := 9) (v := .ref a1) (C := "MailCharactersModel") (T := F_MM) (N := 23) hx hb hts i_MM hown hK hP 0 rfl rfl 6 (by decide) (hts _ k_879) (fun _ h9 => h9) rfl d_MM_lay_8 ?_
  refine lv_iload_n hx hb d_MM_lay_11 rfl (lv_at hl 2 rfl) ?_
  refine lv_iload_n hx hb d_MM_lay_12 rfl (lv_at hl 0 rfl) ?_
  refine lv_iadd hx hb d_MM_lay_13 ?_
  refine lv_topi (fun x_9 ex_9 => ?_)
  obtain rfl : x_9 = 2 := ex_9.trans (by decide)
  refine lv_iload_n hx hb d_MM_lay_14 rfl (lv_at hl 3 rfl) ?_
  refine lv_bipush (v := 24) hx hb d_MM_lay_15 (by decide) ?_
  refine lv_bipush (v := 8) hx hb d_MM_lay_17 (by decide) ?_
  refine lv_iload_n hx hb d_MM_lay_19 rfl (lv_at hl 0 rfl) ?_
  refine lv_imul hx hb d_MM_lay_20 ?_
  refine lv_topi (fun x_10 ex_10 => ?_)
  obtain rfl : x_10 = 16 := ex_10.trans (by decide)
  refine lv_isub hx hb d_MM_lay_21 ?_
  refine lv_topi (fun x_11 ex_11 => ?_)
  obtain rfl : x_11 = 8 := ex_11.trans (by decide)
  refine lv_ishr hx hb d_MM_lay_22 ?_
  refine lv_i2b hx hb d_MM_lay_23 rfl ?_
  refine va_bast hx hb hK hP hD hS 1 1 rfl rfl (by unfold vp_in; decide +kernel) d_MM_lay_24 (fun H locs hP hD hS => ?_)
  obtain ⟨f12z, hP, hD⟩ : ∃ f12z : Nat → Int32, va_P D vwCl [(a0, .inr (9, [.ref x0_nameHead, .ref x0_nameTail, .ref x0_nameOf, .ref x0_windows, .ref x0_koi, .int 0, .ref a1, .ref x0_tape, .int 0, .ref x0_text, .int 0, .ref x0_out, .ref x0_src, .int 0, .int 0, .int 0, .int 0, .int 0, .int 0, .int 0, .int 0, .int 0, .int 0])), (a1, .inl ((D.1 100), 20, .inl f12z))] H ∧ va_D A [(a0, .inr (9, [.ref x0_nameHead, .ref x0_nameTail, .ref x0_nameOf, .ref x0_windows, .ref x0_koi, .int 0, .ref a1, .ref x0_tape, .int 0, .ref x0_text, .int 0, .ref x0_out, .ref x0_src, .int 0, .int 0, .int 0, .int 0, .int 0, .int 0, .int 0, .int 0, .int 0, .int 0])), (a1, .inl ((D.1 100), 20, .inl f12z))] := ⟨_, hP, hD⟩
  refine lv_iinc (v := 3) (lv' := [(3, .int 3), (0, .ref a0), (1, .int 0), (2, .int p2)]) hx hb d_MM_lay_25 hl (k := 0) rfl (by decide) (by decide) rfl (fun ls hl => ?_)
  refine lv_goto (tgt := 2) hx hb d_MM_lay_28 (by decide) ?_
  refine lv_iload_n hx hb d_MM_lay_2 rfl (lv_at hl 0 rfl) ?_
  refine lv_iconst (v := 4) hx hb d_MM_lay_3 (by decide) ?_
  refine lv_icmp_ge (tgt := 31) hx hb d_MM_lay_4 (by decide) (fun h9 => absurd h9 (by decide +kernel)) (fun _ => ?_)
  refine lv_aload_n hx hb d_MM_lay_7 rfl (lv_at hl 1 rfl) ?_
  refine va_get (D := D) (ci := 9) (v := .ref a1) (C := "MailCharactersModel") (T := F_MM) (N := 23) hx hb hts i_MM hown hK hP 0 rfl rfl 6 (by decide) (hts _ k_879) (fun _ h9 => h9) rfl d_MM_lay_8 ?_
  refine lv_iload_n hx hb d_MM_lay_11 rfl (lv_at hl 2 rfl) ?_
  refine lv_iload_n hx hb d_MM_lay_12 rfl (lv_at hl 0 rfl) ?_
  refine lv_iadd hx hb d_MM_lay_13 ?_
  refine lv_topi (fun x_13 ex_13 => ?_)
  obtain rfl : x_13 = 3 := ex_13.trans (by decide)
  refine lv_iload_n hx hb d_MM_lay_14 rfl (lv_at hl 3 rfl) ?_
  refine lv_bipush (v := 24) hx hb d_MM_lay_15 (by decide) ?_
  refine lv_bipush (v := 8) hx hb d_MM_lay_17 (by decide) ?_
  refine lv_iload_n hx hb d_MM_lay_19 rfl (lv_at hl 0 rfl) ?_
  refine lv_imul hx hb d_MM_lay_20 ?_
  refine lv_topi (fun x_14 ex_14 => ?_)
  obtain rfl : x_14 = 24 := ex_14.trans (by decide)
  refine lv_isub hx hb d_MM_lay_21 ?_
  refine lv_topi (fun x_15 ex_15 => ?_)
  obtain rfl : x_15 = 0 := ex_15.trans (by decide)
  refine lv_ishr hx hb d_MM_lay_22 ?_
  refine lv_i2b hx hb d_MM_lay_23 rfl ?_
  refine va_bast hx hb hK hP hD hS 1 1 rfl rfl (by unfold vp_in; decide +kernel) d_MM_lay_24 (fun H locs hP hD hS => ?_)
  obtain ⟨f16z, hP, hD⟩ : ∃ f16z : Nat → Int32, va_P D vwCl [(a0, .inr (9, [.ref x0_nameHead, .ref x0_nameTail, .ref x0_nameOf, .ref x0_windows, .ref x0_koi, .int 0, .ref a1, .ref x0_tape, .int 0, .ref x0_text, .int 0, .ref x0_out, .ref x0_src, .int 0, .int 0, .int 0, .int 0, .int 0, .int 0, .int 0, .int 0, .int 0, .int 0])), (a1, .inl ((D.1 100), 20, .inl f16z))] H ∧ va_D A [(a0, .inr (9, [.ref x0_nameHead, .ref x0_nameTail, .ref x0_nameOf, .ref x0_windows, .ref x0_koi, .int 0, .ref a1, .ref x0_tape, .int 0, .ref x0_text, .int 0, .ref x0_out, .ref x0_src, .int 0, .int 0, .int 0, .int 0, .int 0, .int 0, .int 0, .int 0, .int 0, .int 0])), (a1, .inl ((D.1 100), 20, .inl f16z))] := ⟨_, hP, hD⟩
  refine lv_iinc (v := 4) (lv' := [(3, .int 4), (0, .ref a0), (1, .int 0), (2, .int p2)]) hx hb d_MM_lay_25 hl (k := 0) rfl (by decide) (by decide) rfl (fun ls hl => ?_)
  refine lv_goto (tgt := 2) hx hb d_MM_lay_28 (by decide) ?_
  refine lv_iload_n hx hb d_MM_lay_2 rfl (lv_at hl 0 rfl) ?_
  refine lv_iconst (v := 4) hx hb d_MM_lay_3 (by decide) ?_
  refine lv_icmp_ge (tgt := 31) hx hb d_MM_lay_4 (by decide) (fun _ => ?_) (fun h9 => absurd h9 (by decide +kernel))
  exact hret f16z _ _ _ _ d_MM_lay_31 trivial hP hD hS
theorem cw_MM_lay_0 {R : Room} {s : State} {args : Array Value} {own : String} {idx : Nat} (hts : ∀ w ∈ gW, w.before args s = true) (hl : Cond.methodLink own idx y_MM_lay ∈ gW) (hR : rm_MM_lay_0.frames + 1 ≤ R.frames ∧ 8 + (4 + 11) + rm_MM_lay_0.locals ≤ R.locals) : CallW R s args own "MailCharactersModel" idx y_MM_lay b_MM_lay 4 none w_MM_lay rm_MM_lay_0 0 0 2 := cwV 2 hts (gW_V hl k_954 k_24 k_77 k_955) rfl rfl rfl (by decide +kernel) hR
def rm_MM_lay_1 : Room := { frames := 0, cells := 0, slots := 0, locals := 0 }
set_option maxHeartbeats 4000000 in
set_option maxRecDepth 100000 in
theorem c_MM_lay_1 (l : Launch) (D : va_G) (Z : gZT) (kI : ClassId) (a0 : Nat) (a1 : Nat) (x0_nameHead : Nat) (x0_nameTail : Nat) (x0_nameOf : Nat) (x0_windows : Nat) (x0_koi : Nat) (x0_tape : Nat) (x0_text : Nat) (x0_out : Nat) (x0_src : Nat) (sz : Nat) (f1 : Nat → Int32) (p2 : Int32) : gMv l y_MM_lay w_MM_lay rm_MM_lay_1 D Z kI [.ref a0, .int 4, .int p2] sz [(a0, .inr (9, [.ref x0_nameHead, .ref x0_nameTail, .ref x0_nameOf, .ref x0_windows, .ref x0_koi, .int 0, .ref a1, .ref x0_tape, .int 0, .ref x0_text, .int 0, .ref x0_out, .ref x0_src, .int 0, .int 0, .int 0, .int 0, .int 0, .int 0, .int 0, .int 0, .int 0, .int 0])), (a1, .inl ((D.1 100), 20, .inl f1))] (fun (_u : (Nat → Int32)) => True) (fun (u : (Nat → Int32)) => ([(a0, .inr (9, [.ref x0_nameHead, .ref x0_nameTail, .ref x0_nameOf, .ref x0_windows, .ref x0_koi, .int 0, .ref a1, .ref x0_tape, .int 0, .ref x0_text, .int 0, .ref x0_out, .ref x0_src, .int 0, .int 0, .int 0, .int 0, .int 0, .int 0, .int 0, .int 0, .int 0, .int 0])), (a1, .inl ((D.1 100), 20, .inl u))] : va_W)) := by
  refine g_ofv (cc := b_MM_lay) (maxL := 4) (by decide) rfl (Nat.le_of_ble_eq_true rfl) ?_
  intro p e s m below meth c A Q H ls hx hb hml hown hts hA hK hZ hP hD hS hl hret
  have hown : s.vm.findClass "MailCharactersModel" = some m.cls := hown
  have hl : lv_has ls 4 [(0, .ref a0), (1, .int 4), (2, .int p2)] := hl
  refine lv_iconst (v := 0) hx hb d_MM_lay_0 (by decide) ?_
  refine lv_istore_n (lv' := [(3, .int 0), (0, .ref a0), (1, .int 4), (2, .int p2)]) hx hb d_MM_lay_1 rfl hl (by decide) rfl (fun ls hl => ?_)
  refine lv_iload_n hx hb d_MM_lay_2 rfl (lv_at hl 0 rfl) ?_
  refine lv_iconst (v := 4) hx hb d_MM_lay_3 (by decide) ?_
  refine lv_icmp_ge (tgt := 31) hx hb d_MM_lay_4 (by decide) (fun h9 => absurd h9 (by decide +kernel)) (fun _ => ?_)
  refine lv_aload_n hx hb d_MM_lay_7 rfl (lv_at hl 1 rfl) ?_
  refine va_get (D := D) (ci := 9) (v := .ref a1) (C := "MailCharactersModel") (T := F_MM) (N := 23) hx hb hts i_MM hown hK hP 0 rfl rfl 6 (by decide) (hts _ k_879) (fun _ h9 => h9) rfl d_MM_lay_8 ?_
  refine lv_iload_n hx hb d_MM_lay_11 rfl (lv_at hl 2 rfl) ?_
  refine lv_iload_n hx hb d_MM_lay_12 rfl (lv_at hl 0 rfl) ?_
  refine lv_iadd hx hb d_MM_lay_13 ?_
  refine lv_topi (fun x_1 ex_1 => ?_)
  obtain rfl : x_1 = 4 := ex_1.trans (by decide)
  refine lv_iload_n hx hb d_MM_lay_14 rfl (lv_at hl 3 rfl) ?_
  refine lv_bipush (v := 24) hx hb d_MM_lay_15 (by decide) ?_
  refine lv_bipush (v := 8) hx hb d_MM_lay_17 (by decide) ?_
  refine lv_iload_n hx hb d_MM_lay_19 rfl (lv_at hl 0 rfl) ?_
  refine lv_imul hx hb d_MM_lay_20 ?_
  refine lv_topi (fun x_2 ex_2 => ?_)
  obtain rfl : x_2 = 0 := ex_2.trans (by decide)
  refine lv_isub hx hb d_MM_lay_21 ?_
  refine lv_topi (fun x_3 ex_3 => ?_)
  obtain rfl : x_3 = 24 := ex_3.trans (by decide)
  refine lv_ishr hx hb d_MM_lay_22 ?_
  refine lv_i2b hx hb d_MM_lay_23 rfl ?_
  refine va_bast hx hb hK hP hD hS 1 1 rfl rfl (by unfold vp_in; decide +kernel) d_MM_lay_24 (fun H locs hP hD hS => ?_)
  obtain ⟨f4z, hP, hD⟩ : ∃ f4z : Nat → Int32, va_P D vwCl [(a0, .inr (9, [.ref x0_nameHead, .ref x0_nameTail, .ref x0_nameOf, .ref x0_windows, .ref x0_koi, .int 0, .ref a1, .ref x0_tape, .int 0, .ref x0_text, .int 0, .ref x0_out, .ref x0_src, .int 0, .int 0, .int 0, .int 0, .int 0, .int 0, .int 0, .int 0, .int 0, .int 0])), (a1, .inl ((D.1 100), 20, .inl f4z))] H ∧ va_D A [(a0, .inr (9, [.ref x0_nameHead, .ref x0_nameTail, .ref x0_nameOf, .ref x0_windows, .ref x0_koi, .int 0, .ref a1, .ref x0_tape, .int 0, .ref x0_text, .int 0, .ref x0_out, .ref x0_src, .int 0, .int 0, .int 0, .int 0, .int 0, .int 0, .int 0, .int 0, .int 0, .int 0])), (a1, .inl ((D.1 100), 20, .inl f4z))] := ⟨_, hP, hD⟩
  refine lv_iinc (v := 1) (lv' := [(3, .int 1), (0, .ref a0), (1, .int 4), (2, .int p2)]) hx hb d_MM_lay_25 hl (k := 0) rfl (by decide) (by decide) rfl (fun ls hl => ?_)
  refine lv_goto (tgt := 2) hx hb d_MM_lay_28 (by decide) ?_
  refine lv_iload_n hx hb d_MM_lay_2 rfl (lv_at hl 0 rfl) ?_
  refine lv_iconst (v := 4) hx hb d_MM_lay_3 (by decide) ?_
  refine lv_icmp_ge (tgt := 31) hx hb d_MM_lay_4 (by decide) (fun h9 => absurd h9 (by decide +kernel)) (fun _ => ?_)
  refine lv_aload_n hx hb d_MM_lay_7 rfl (lv_at hl 1 rfl) ?_
  refine va_get (D := D) (ci := 9) (v := .ref a1) (C := "MailCharactersModel") (T := F_MM) (N := 23) hx hb hts i_MM hown hK hP 0 rfl rfl 6 (by decide) (hts _ k_879) (fun _ h9 => h9) rfl d_MM_lay_8 ?_
  refine lv_iload_n hx hb d_MM_lay_11 rfl (lv_at hl 2 rfl) ?_
  refine lv_iload_n hx hb d_MM_lay_12 rfl (lv_at hl 0 rfl) ?_
  refine lv_iadd hx hb d_MM_lay_13 ?_
  refine lv_topi (fun x_5 ex_5 => ?_)
  obtain rfl : x_5 = 5 := ex_5.trans (by decide)
  refine lv_iload_n hx hb d_MM_lay_14 rfl (lv_at hl 3 rfl) ?_
  refine lv_bipush (v := 24) hx hb d_MM_lay_15 (by decide) ?_
  refine lv_bipush (v := 8) hx hb d_MM_lay_17 (by decide) ?_
  refine lv_iload_n hx hb d_MM_lay_19 rfl (lv_at hl 0 rfl) ?_
  refine lv_imul hx hb d_MM_lay_20 ?_
  refine lv_topi (fun x_6 ex_6 => ?_)
  obtain rfl : x_6 = 8 := ex_6.trans (by decide)
  refine lv_isub hx hb d_MM_lay_21 ?_
  refine lv_topi (fun x_7 ex_7 => ?_)
  obtain rfl : x_7 = 16 := ex_7.trans (by decide)
  refine lv_ishr hx hb d_MM_lay_22 ?_
  refine lv_i2b hx hb d_MM_lay_23 rfl ?_
  refine va_bast hx hb hK hP hD hS 1 1 rfl rfl (by unfold vp_in; decide +kernel) d_MM_lay_24 (fun H locs hP hD hS => ?_)
  obtain ⟨f8z, hP, hD⟩ : ∃ f8z : Nat → Int32, va_P D vwCl [(a0, .inr (9, [.ref x0_nameHead, .ref x0_nameTail, .ref x0_nameOf, .ref x0_windows, .ref x0_koi, .int 0, .ref a1, .ref x0_tape, .int 0, .ref x0_text, .int 0, .ref x0_out, .ref x0_src, .int 0, .int 0, .int 0, .int 0, .int 0, .int 0, .int 0, .int 0, .int 0, .int 0])), (a1, .inl ((D.1 100), 20, .inl f8z))] H ∧ va_D A [(a0, .inr (9, [.ref x0_nameHead, .ref x0_nameTail, .ref x0_nameOf, .ref x0_windows, .ref x0_koi, .int 0, .ref a1, .ref x0_tape, .int 0, .ref x0_text, .int 0, .ref x0_out, .ref x0_src, .int 0, .int 0, .int 0, .int 0, .int 0, .int 0, .int 0, .int 0, .int 0, .int 0])), (a1, .inl ((D.1 100), 20, .inl f8z))] := ⟨_, hP, hD⟩
  refine lv_iinc (v := 2) (lv' := [(3, .int 2), (0, .ref a0), (1, .int 4), (2, .int p2)]) hx hb d_MM_lay_25 hl (k := 0) rfl (by decide) (by decide) rfl (fun ls hl => ?_)
  refine lv_goto (tgt := 2) hx hb d_MM_lay_28 (by decide) ?_
  refine lv_iload_n hx hb d_MM_lay_2 rfl (lv_at hl 0 rfl) ?_
  refine lv_iconst (v := 4) hx hb d_MM_lay_3 (by decide) ?_
  refine lv_icmp_ge (tgt := 31) hx hb d_MM_lay_4 (by decide) (fun h9 => absurd h9 (by decide +kernel)) (fun _ => ?_)
  refine lv_aload_n hx hb d_MM_lay_7 rfl (lv_at hl 1 rfl) ?_
  refine va_get (D := D) (ci := 9) (v := .ref a1) (C := "MailCharactersModel") (T := F_MM) (N := 23) hx hb hts i_MM hown hK hP 0 rfl rfl 6 (by decide) (hts _ k_879) (fun _ h9 => h9) rfl d_MM_lay_8 ?_
  refine lv_iload_n hx hb d_MM_lay_11 rfl (lv_at hl 2 rfl) ?_
  refine lv_iload_n hx hb d_MM_lay_12 rfl (lv_at hl 0 rfl) ?_
  refine lv_iadd hx hb d_MM_lay_13 ?_
  refine lv_topi (fun x_9 ex_9 => ?_)
  obtain rfl : x_9 = 6 := ex_9.trans (by decide)
  refine lv_iload_n hx hb d_MM_lay_14 rfl (lv_at hl 3 rfl) ?_
  refine lv_bipush (v := 24) hx hb d_MM_lay_15 (by decide) ?_
  refine lv_bipush (v := 8) hx hb d_MM_lay_17 (by decide) ?_
  refine lv_iload_n hx hb d_MM_lay_19 rfl (lv_at hl 0 rfl) ?_
  refine lv_imul hx hb d_MM_lay_20 ?_
  refine lv_topi (fun x_10 ex_10 => ?_)
  obtain rfl : x_10 = 16 := ex_10.trans (by decide)
  refine lv_isub hx hb d_MM_lay_21 ?_
  refine lv_topi (fun x_11 ex_11 => ?_)
  obtain rfl : x_11 = 8 := ex_11.trans (by decide)
  refine lv_ishr hx hb d_MM_lay_22 ?_
  refine lv_i2b hx hb d_MM_lay_23 rfl ?_
  refine va_bast hx hb hK hP hD hS 1 1 rfl rfl (by unfold vp_in; decide +kernel) d_MM_lay_24 (fun H locs hP hD hS => ?_)
  obtain ⟨f12z, hP, hD⟩ : ∃ f12z : Nat → Int32, va_P D vwCl [(a0, .inr (9, [.ref x0_nameHead, .ref x0_nameTail, .ref x0_nameOf, .ref x0_windows, .ref x0_koi, .int 0, .ref a1, .ref x0_tape, .int 0, .ref x0_text, .int 0, .ref x0_out, .ref x0_src, .int 0, .int 0, .int 0, .int 0, .int 0, .int 0, .int 0, .int 0, .int 0, .int 0])), (a1, .inl ((D.1 100), 20, .inl f12z))] H ∧ va_D A [(a0, .inr (9, [.ref x0_nameHead, .ref x0_nameTail, .ref x0_nameOf, .ref x0_windows, .ref x0_koi, .int 0, .ref a1, .ref x0_tape, .int 0, .ref x0_text, .int 0, .ref x0_out, .ref x0_src, .int 0, .int 0, .int 0, .int 0, .int 0, .int 0, .int 0, .int 0, .int 0, .int 0])), (a1, .inl ((D.1 100), 20, .inl f12z))] := ⟨_, hP, hD⟩
  refine lv_iinc (v := 3) (lv' := [(3, .int 3), (0, .ref a0), (1, .int 4), (2, .int p2)]) hx hb d_MM_lay_25 hl (k := 0) rfl (by decide) (by decide) rfl (fun ls hl => ?_)
  refine lv_goto (tgt := 2) hx hb d_MM_lay_28 (by decide) ?_
  refine lv_iload_n hx hb d_MM_lay_2 rfl (lv_at hl 0 rfl) ?_
  refine lv_iconst (v := 4) hx hb d_MM_lay_3 (by decide) ?_
  refine lv_icmp_ge (tgt := 31) hx hb d_MM_lay_4 (by decide) (fun h9 => absurd h9 (by decide +kernel)) (fun _ => ?_)
  refine lv_aload_n hx hb d_MM_lay_7 rfl (lv_at hl 1 rfl) ?_
  refine va_get (D := D) (ci := 9) (v := .ref a1) (C := "MailCharactersModel") (T := F_MM) (N := 23) hx hb hts i_MM hown hK hP 0 rfl rfl 6 (by decide) (hts _ k_879) (fun _ h9 => h9) rfl d_MM_lay_8 ?_
  refine lv_iload_n hx hb d_MM_lay_11 rfl (lv_at hl 2 rfl) ?_
  refine lv_iload_n hx hb d_MM_lay_12 rfl (lv_at hl 0 rfl) ?_
  refine lv_iadd hx hb d_MM_lay_13 ?_
  refine lv_topi (fun x_13 ex_13 => ?_)
  obtain rfl : x_13 = 7 := ex_13.trans (by decide)
  refine lv_iload_n hx hb d_MM_lay_14 rfl (lv_at hl 3 rfl) ?_
  refine lv_bipush (v := 24) hx hb d_MM_lay_15 (by decide) ?_
  refine lv_bipush (v := 8) hx hb d_MM_lay_17 (by decide) ?_
  refine lv_iload_n hx hb d_MM_lay_19 rfl (lv_at hl 0 rfl) ?_
  refine lv_imul hx hb d_MM_lay_20 ?_
  refine lv_topi (fun x_14 ex_14 => ?_)
  obtain rfl : x_14 = 24 := ex_14.trans (by decide)
  refine lv_isub hx hb d_MM_lay_21 ?_
  refine lv_topi (fun x_15 ex_15 => ?_)
  obtain rfl : x_15 = 0 := ex_15.trans (by decide)
  refine lv_ishr hx hb d_MM_lay_22 ?_
  refine lv_i2b hx hb d_MM_lay_23 rfl ?_
  refine va_bast hx hb hK hP hD hS 1 1 rfl rfl (by unfold vp_in; decide +kernel) d_MM_lay_24 (fun H locs hP hD hS => ?_)
  obtain ⟨f16z, hP, hD⟩ : ∃ f16z : Nat → Int32, va_P D vwCl [(a0, .inr (9, [.ref x0_nameHead, .ref x0_nameTail, .ref x0_nameOf, .ref x0_windows, .ref x0_koi, .int 0, .ref a1, .ref x0_tape, .int 0, .ref x0_text, .int 0, .ref x0_out, .ref x0_src, .int 0, .int 0, .int 0, .int 0, .int 0, .int 0, .int 0, .int 0, .int 0, .int 0])), (a1, .inl ((D.1 100), 20, .inl f16z))] H ∧ va_D A [(a0, .inr (9, [.ref x0_nameHead, .ref x0_nameTail, .ref x0_nameOf, .ref x0_windows, .ref x0_koi, .int 0, .ref a1, .ref x0_tape, .int 0, .ref x0_text, .int 0, .ref x0_out, .ref x0_src, .int 0, .int 0, .int 0, .int 0, .int 0, .int 0, .int 0, .int 0, .int 0, .int 0])), (a1, .inl ((D.1 100), 20, .inl f16z))] := ⟨_, hP, hD⟩
  refine lv_iinc (v := 4) (lv' := [(3, .int 4), (0, .ref a0), (1, .int 4), (2, .int p2)]) hx hb d_MM_lay_25 hl (k := 0) rfl (by decide) (by decide) rfl (fun ls hl => ?_)
  refine lv_goto (tgt := 2) hx hb d_MM_lay_28 (by decide) ?_
  refine lv_iload_n hx hb d_MM_lay_2 rfl (lv_at hl 0 rfl) ?_
  refine lv_iconst (v := 4) hx hb d_MM_lay_3 (by decide) ?_
  refine lv_icmp_ge (tgt := 31) hx hb d_MM_lay_4 (by decide) (fun _ => ?_) (fun h9 => absurd h9 (by decide +kernel))
  exact hret f16z _ _ _ _ d_MM_lay_31 trivial hP hD hS
theorem cw_MM_lay_1 {R : Room} {s : State} {args : Array Value} {own : String} {idx : Nat} (hts : ∀ w ∈ gW, w.before args s = true) (hl : Cond.methodLink own idx y_MM_lay ∈ gW) (hR : rm_MM_lay_1.frames + 1 ≤ R.frames ∧ 8 + (4 + 11) + rm_MM_lay_1.locals ≤ R.locals) : CallW R s args own "MailCharactersModel" idx y_MM_lay b_MM_lay 4 none w_MM_lay rm_MM_lay_1 0 0 2 := cwV 2 hts (gW_V hl k_954 k_24 k_77 k_955) rfl rfl rfl (by decide +kernel) hR
def rm_MM_lay_2 : Room := { frames := 0, cells := 0, slots := 0, locals := 0 }
set_option maxHeartbeats 4000000 in
set_option maxRecDepth 100000 in
theorem c_MM_lay_2 (l : Launch) (D : va_G) (Z : gZT) (kI : ClassId) (a0 : Nat) (a1 : Nat) (x0_nameHead : Nat) (x0_nameTail : Nat) (x0_nameOf : Nat) (x0_windows : Nat) (x0_koi : Nat) (x0_tape : Nat) (x0_text : Nat) (x0_out : Nat) (x0_src : Nat) (sz : Nat) (f1 : Nat → Int32) (p2 : Int32) : gMv l y_MM_lay w_MM_lay rm_MM_lay_2 D Z kI [.ref a0, .int 8, .int p2] sz [(a0, .inr (9, [.ref x0_nameHead, .ref x0_nameTail, .ref x0_nameOf, .ref x0_windows, .ref x0_koi, .int 0, .ref a1, .ref x0_tape, .int 0, .ref x0_text, .int 0, .ref x0_out, .ref x0_src, .int 0, .int 0, .int 0, .int 0, .int 0, .int 0, .int 0, .int 0, .int 0, .int 0])), (a1, .inl ((D.1 100), 20, .inl f1))] (fun (_u : (Nat → Int32)) => True) (fun (u : (Nat → Int32)) => ([(a0, .inr (9, [.ref x0_nameHead, .ref x0_nameTail, .ref x0_nameOf, .ref x0_windows, .ref x0_koi, .int 0, .ref a1, .ref x0_tape, .int 0, .ref x0_text, .int 0, .ref x0_out, .ref x0_src, .int 0, .int 0, .int 0, .int 0, .int 0, .int 0, .int 0, .int 0, .int 0, .int 0])), (a1, .inl ((D.1 100), 20, .inl u))] : va_W)) := by
  refine g_ofv (cc := b_MM_lay) (maxL := 4) (by decide) rfl (Nat.le_of_ble_eq_true rfl) ?_
  intro p e s m below meth c A Q H ls hx hb hml hown hts hA hK hZ hP hD hS hl hret
  have hown : s.vm.findClass "MailCharactersModel" = some m.cls := hown
  have hl : lv_has ls 4 [(0, .ref a0), (1, .int 8), (2, .int p2)] := hl
  refine lv_iconst (v := 0) hx hb d_MM_lay_0 (by decide) ?_
  refine lv_istore_n (lv' := [(3, .int 0), (0, .ref a0), (1, .int 8), (2, .int p2)]) hx hb d_MM_lay_1 rfl hl (by decide) rfl (fun ls hl => ?_)
  refine lv_iload_n hx hb d_MM_lay_2 rfl (lv_at hl 0 rfl) ?_
  refine lv_iconst (v := 4) hx hb d_MM_lay_3 (by decide) ?_
  refine lv_icmp_ge (tgt := 31) hx hb d_MM_lay_4 (by decide) (fun h9 => absurd h9 (by decide +kernel)) (fun _ => ?_)
  refine lv_aload_n hx hb d_MM_lay_7 rfl (lv_at hl 1 rfl) ?_
  refine va_get (D := D) (ci := 9) (v := .ref a1) (C := "MailCharactersModel") (T := F_MM) (N := 23) hx hb hts i_MM hown hK hP 0 rfl rfl 6 (by decide) (hts _ k_879) (fun _ h9 => h9) rfl d_MM_lay_8 ?_
  refine lv_iload_n hx hb d_MM_lay_11 rfl (lv_at hl 2 rfl) ?_
  refine lv_iload_n hx hb d_MM_lay_12 rfl (lv_at hl 0 rfl) ?_
  refine lv_iadd hx hb d_MM_lay_13 ?_
  refine lv_topi (fun x_1 ex_1 => ?_)
  obtain rfl : x_1 = 8 := ex_1.trans (by decide)
  refine lv_iload_n hx hb d_MM_lay_14 rfl (lv_at hl 3 rfl) ?_
  refine lv_bipush (v := 24) hx hb d_MM_lay_15 (by decide) ?_
  refine lv_bipush (v := 8) hx hb d_MM_lay_17 (by decide) ?_
  refine lv_iload_n hx hb d_MM_lay_19 rfl (lv_at hl 0 rfl) ?_
  refine lv_imul hx hb d_MM_lay_20 ?_
  refine lv_topi (fun x_2 ex_2 => ?_)
  obtain rfl : x_2 = 0 := ex_2.trans (by decide)
  refine lv_isub hx hb d_MM_lay_21 ?_
  refine lv_topi (fun x_3 ex_3 => ?_)
  obtain rfl : x_3 = 24 := ex_3.trans (by decide)
  refine lv_ishr hx hb d_MM_lay_22 ?_
  refine lv_i2b hx hb d_MM_lay_23 rfl ?_
  refine va_bast hx hb hK hP hD hS 1 1 rfl rfl (by unfold vp_in; decide +kernel) d_MM_lay_24 (fun H locs hP hD hS => ?_)
  obtain ⟨f4z, hP, hD⟩ : ∃ f4z : Nat → Int32, va_P D vwCl [(a0, .inr (9, [.ref x0_nameHead, .ref x0_nameTail, .ref x0_nameOf, .ref x0_windows, .ref x0_koi, .int 0, .ref a1, .ref x0_tape, .int 0, .ref x0_text, .int 0, .ref x0_out, .ref x0_src, .int 0, .int 0, .int 0, .int 0, .int 0, .int 0, .int 0, .int 0, .int 0, .int 0])), (a1, .inl ((D.1 100), 20, .inl f4z))] H ∧ va_D A [(a0, .inr (9, [.ref x0_nameHead, .ref x0_nameTail, .ref x0_nameOf, .ref x0_windows, .ref x0_koi, .int 0, .ref a1, .ref x0_tape, .int 0, .ref x0_text, .int 0, .ref x0_out, .ref x0_src, .int 0, .int 0, .int 0, .int 0, .int 0, .int 0, .int 0, .int 0, .int 0, .int 0])), (a1, .inl ((D.1 100), 20, .inl f4z))] := ⟨_, hP, hD⟩
  refine lv_iinc (v := 1) (lv' := [(3, .int 1), (0, .ref a0), (1, .int 8), (2, .int p2)]) hx hb d_MM_lay_25 hl (k := 0) rfl (by decide) (by decide) rfl (fun ls hl => ?_)
  refine lv_goto (tgt := 2) hx hb d_MM_lay_28 (by decide) ?_
  refine lv_iload_n hx hb d_MM_lay_2 rfl (lv_at hl 0 rfl) ?_
  refine lv_iconst (v := 4) hx hb d_MM_lay_3 (by decide) ?_
  refine lv_icmp_ge (tgt := 31) hx hb d_MM_lay_4 (by decide) (fun h9 => absurd h9 (by decide +kernel)) (fun _ => ?_)
  refine lv_aload_n hx hb d_MM_lay_7 rfl (lv_at hl 1 rfl) ?_
  refine va_get (D := D) (ci := 9) (v := .ref a1) (C := "MailCharactersModel") (T := F_MM) (N := 23) hx hb hts i_MM hown hK hP 0 rfl rfl 6 (by decide) (hts _ k_879) (fun _ h9 => h9) rfl d_MM_lay_8 ?_
  refine lv_iload_n hx hb d_MM_lay_11 rfl (lv_at hl 2 rfl) ?_
  refine lv_iload_n hx hb d_MM_lay_12 rfl (lv_at hl 0 rfl) ?_
  refine lv_iadd hx hb d_MM_lay_13 ?_
  refine lv_topi (fun x_5 ex_5 => ?_)
  obtain rfl : x_5 = 9 := ex_5.trans (by decide)
  refine lv_iload_n hx hb d_MM_lay_14 rfl (lv_at hl 3 rfl) ?_
  refine lv_bipush (v := 24) hx hb d_MM_lay_15 (by decide) ?_
  refine lv_bipush (v := 8) hx hb d_MM_lay_17 (by decide) ?_
  refine lv_iload_n hx hb d_MM_lay_19 rfl (lv_at hl 0 rfl) ?_
  refine lv_imul hx hb d_MM_lay_20 ?_
  refine lv_topi (fun x_6 ex_6 => ?_)
  obtain rfl : x_6 = 8 := ex_6.trans (by decide)
  refine lv_isub hx hb d_MM_lay_21 ?_
  refine lv_topi (fun x_7 ex_7 => ?_)
  obtain rfl : x_7 = 16 := ex_7.trans (by decide)
  refine lv_ishr hx hb d_MM_lay_22 ?_
  refine lv_i2b hx hb d_MM_lay_23 rfl ?_
  refine va_bast hx hb hK hP hD hS 1 1 rfl rfl (by unfold vp_in; decide +kernel) d_MM_lay_24 (fun H locs hP hD hS => ?_)
  obtain ⟨f8z, hP, hD⟩ : ∃ f8z : Nat → Int32, va_P D vwCl [(a0, .inr (9, [.ref x0_nameHead, .ref x0_nameTail, .ref x0_nameOf, .ref x0_windows, .ref x0_koi, .int 0, .ref a1, .ref x0_tape, .int 0, .ref x0_text, .int 0, .ref x0_out, .ref x0_src, .int 0, .int 0, .int 0, .int 0, .int 0, .int 0, .int 0, .int 0, .int 0, .int 0])), (a1, .inl ((D.1 100), 20, .inl f8z))] H ∧ va_D A [(a0, .inr (9, [.ref x0_nameHead, .ref x0_nameTail, .ref x0_nameOf, .ref x0_windows, .ref x0_koi, .int 0, .ref a1, .ref x0_tape, .int 0, .ref x0_text, .int 0, .ref x0_out, .ref x0_src, .int 0, .int 0, .int 0, .int 0, .int 0, .int 0, .int 0, .int 0, .int 0, .int 0])), (a1, .inl ((D.1 100), 20, .inl f8z))] := ⟨_, hP, hD⟩
  refine lv_iinc (v := 2) (lv' := [(3, .int 2), (0, .ref a0), (1, .int 8), (2, .int p2)]) hx hb d_MM_lay_25 hl (k := 0) rfl (by decide) (by decide) rfl (fun ls hl => ?_)
  refine lv_goto (tgt := 2) hx hb d_MM_lay_28 (by decide) ?_
  refine lv_iload_n hx hb d_MM_lay_2 rfl (lv_at hl 0 rfl) ?_
  refine lv_iconst (v := 4) hx hb d_MM_lay_3 (by decide) ?_
  refine lv_icmp_ge (tgt := 31) hx hb d_MM_lay_4 (by decide) (fun h9 => absurd h9 (by decide +kernel)) (fun _ => ?_)
  refine lv_aload_n hx hb d_MM_lay_7 rfl (lv_at hl 1 rfl) ?_
  refine va_get (D := D) (ci := 9) (v := .ref a1) (C := "MailCharactersModel") (T := F_MM) (N := 23) hx hb hts i_MM hown hK hP 0 rfl rfl 6 (by decide) (hts _ k_879) (fun _ h9 => h9) rfl d_MM_lay_8 ?_
  refine lv_iload_n hx hb d_MM_lay_11 rfl (lv_at hl 2 rfl) ?_
  refine lv_iload_n hx hb d_MM_lay_12 rfl (lv_at hl 0 rfl) ?_
  refine lv_iadd hx hb d_MM_lay_13 ?_
  refine lv_topi (fun x_9 ex_9 => ?_)
  obtain rfl : x_9 = 10 := ex_9.trans (by decide)
  refine lv_iload_n hx hb d_MM_lay_14 rfl (lv_at hl 3 rfl) ?_
  refine lv_bipush (v := 24) hx hb d_MM_lay_15 (by decide) ?_
  refine lv_bipush (v := 8) hx hb d_MM_lay_17 (by decide) ?_
  refine lv_iload_n hx hb d_MM_lay_19 rfl (lv_at hl 0 rfl) ?_
  refine lv_imul hx hb d_MM_lay_20 ?_
  refine lv_topi (fun x_10 ex_10 => ?_)
  obtain rfl : x_10 = 16 := ex_10.trans (by decide)
  refine lv_isub hx hb d_MM_lay_21 ?_
  refine lv_topi (fun x_11 ex_11 => ?_)
  obtain rfl : x_11 = 8 := ex_11.trans (by decide)
  refine lv_ishr hx hb d_MM_lay_22 ?_
  refine lv_i2b hx hb d_MM_lay_23 rfl ?_
  refine va_bast hx hb hK hP hD hS 1 1 rfl rfl (by unfold vp_in; decide +kernel) d_MM_lay_24 (fun H locs hP hD hS => ?_)
  obtain ⟨f12z, hP, hD⟩ : ∃ f12z : Nat → Int32, va_P D vwCl [(a0, .inr (9, [.ref x0_nameHead, .ref x0_nameTail, .ref x0_nameOf, .ref x0_windows, .ref x0_koi, .int 0, .ref a1, .ref x0_tape, .int 0, .ref x0_text, .int 0, .ref x0_out, .ref x0_src, .int 0, .int 0, .int 0, .int 0, .int 0, .int 0, .int 0, .int 0, .int 0, .int 0])), (a1, .inl ((D.1 100), 20, .inl f12z))] H ∧ va_D A [(a0, .inr (9, [.ref x0_nameHead, .ref x0_nameTail, .ref x0_nameOf, .ref x0_windows, .ref x0_koi, .int 0, .ref a1, .ref x0_tape, .int 0, .ref x0_text, .int 0, .ref x0_out, .ref x0_src, .int 0, .int 0, .int 0, .int 0, .int 0, .int 0, .int 0, .int 0, .int 0, .int 0])), (a1, .inl ((D.1 100), 20, .inl f12z))] := ⟨_, hP, hD⟩
  refine lv_iinc (v := 3) (lv' := [(3, .int 3), (0, .ref a0), (1, .int 8), (2, .int p2)]) hx hb d_MM_lay_25 hl (k := 0) rfl (by decide) (by decide) rfl (fun ls hl => ?_)
  refine lv_goto (tgt := 2) hx hb d_MM_lay_28 (by decide) ?_
  refine lv_iload_n hx hb d_MM_lay_2 rfl (lv_at hl 0 rfl) ?_
  refine lv_iconst (v := 4) hx hb d_MM_lay_3 (by decide) ?_
  refine lv_icmp_ge (tgt := 31) hx hb d_MM_lay_4 (by decide) (fun h9 => absurd h9 (by decide +kernel)) (fun _ => ?_)
  refine lv_aload_n hx hb d_MM_lay_7 rfl (lv_at hl 1 rfl) ?_
  refine va_get (D := D) (ci := 9) (v := .ref a1) (C := "MailCharactersModel") (T := F_MM) (N := 23) hx hb hts i_MM hown hK hP 0 rfl rfl 6 (by decide) (hts _ k_879) (fun _ h9 => h9) rfl d_MM_lay_8 ?_
  refine lv_iload_n hx hb d_MM_lay_11 rfl (lv_at hl 2 rfl) ?_
  refine lv_iload_n hx hb d_MM_lay_12 rfl (lv_at hl 0 rfl) ?_
  refine lv_iadd hx hb d_MM_lay_13 ?_
  refine lv_topi (fun x_13 ex_13 => ?_)
  obtain rfl : x_13 = 11 := ex_13.trans (by decide)
  refine lv_iload_n hx hb d_MM_lay_14 rfl (lv_at hl 3 rfl) ?_
  refine lv_bipush (v := 24) hx hb d_MM_lay_15 (by decide) ?_
  refine lv_bipush (v := 8) hx hb d_MM_lay_17 (by decide) ?_
  refine lv_iload_n hx hb d_MM_lay_19 rfl (lv_at hl 0 rfl) ?_
  refine lv_imul hx hb d_MM_lay_20 ?_
  refine lv_topi (fun x_14 ex_14 => ?_)
  obtain rfl : x_14 = 24 := ex_14.trans (by decide)
  refine lv_isub hx hb d_MM_lay_21 ?_
  refine lv_topi (fun x_15 ex_15 => ?_)
  obtain rfl : x_15 = 0 := ex_15.trans (by decide)
  refine lv_ishr hx hb d_MM_lay_22 ?_
  refine lv_i2b hx hb d_MM_lay_23 rfl ?_
  refine va_bast hx hb hK hP hD hS 1 1 rfl rfl (by unfold vp_in; decide +kernel) d_MM_lay_24 (fun H locs hP hD hS => ?_)
  obtain ⟨f16z, hP, hD⟩ : ∃ f16z : Nat → Int32, va_P D vwCl [(a0, .inr (9, [.ref x0_nameHead, .ref x0_nameTail, .ref x0_nameOf, .ref x0_windows, .ref x0_koi, .int 0, .ref a1, .ref x0_tape, .int 0, .ref x0_text, .int 0, .ref x0_out, .ref x0_src, .int 0, .int 0, .int 0, .int 0, .int 0, .int 0, .int 0, .int 0, .int 0, .int 0])), (a1, .inl ((D.1 100), 20, .inl f16z))] H ∧ va_D A [(a0, .inr (9, [.ref x0_nameHead, .ref x0_nameTail, .ref x0_nameOf, .ref x0_windows, .ref x0_koi, .int 0, .ref a1, .ref x0_tape, .int 0, .ref x0_text, .int 0, .ref x0_out, .ref x0_src, .int 0, .int 0, .int 0, .int 0, .int 0, .int 0, .int 0, .int 0, .int 0, .int 0])), (a1, .inl ((D.1 100), 20, .inl f16z))] := ⟨_, hP, hD⟩
  refine lv_iinc (v := 4) (lv' := [(3, .int 4), (0, .ref a0), (1, .int 8), (2, .int p2)]) hx hb d_MM_lay_25 hl (k := 0) rfl (by decide) (by decide) rfl (fun ls hl => ?_)
  refine lv_goto (tgt := 2) hx hb d_MM_lay_28 (by decide) ?_
  refine lv_iload_n hx hb d_MM_lay_2 rfl (lv_at hl 0 rfl) ?_
  refine lv_iconst (v := 4) hx hb d_MM_lay_3 (by decide) ?_
  refine lv_icmp_ge (tgt := 31) hx hb d_MM_lay_4 (by decide) (fun _ => ?_) (fun h9 => absurd h9 (by decide +kernel))
  exact hret f16z _ _ _ _ d_MM_lay_31 trivial hP hD hS
theorem cw_MM_lay_2 {R : Room} {s : State} {args : Array Value} {own : String} {idx : Nat} (hts : ∀ w ∈ gW, w.before args s = true) (hl : Cond.methodLink own idx y_MM_lay ∈ gW) (hR : rm_MM_lay_2.frames + 1 ≤ R.frames ∧ 8 + (4 + 11) + rm_MM_lay_2.locals ≤ R.locals) : CallW R s args own "MailCharactersModel" idx y_MM_lay b_MM_lay 4 none w_MM_lay rm_MM_lay_2 0 0 2 := cwV 2 hts (gW_V hl k_954 k_24 k_77 k_955) rfl rfl rfl (by decide +kernel) hR
def rm_MM_lay_3 : Room := { frames := 0, cells := 0, slots := 0, locals := 0 }
set_option maxHeartbeats 4000000 in
set_option maxRecDepth 100000 in
theorem c_MM_lay_3 (l : Launch) (D : va_G) (Z : gZT) (kI : ClassId) (a0 : Nat) (a1 : Nat) (x0_nameHead : Nat) (x0_nameTail : Nat) (x0_nameOf : Nat) (x0_windows : Nat) (x0_koi : Nat) (x0_tape : Nat) (x0_text : Nat) (x0_out : Nat) (x0_src : Nat) (sz : Nat) (f1 : Nat → Int32) (p2 : Int32) : gMv l y_MM_lay w_MM_lay rm_MM_lay_3 D Z kI [.ref a0, .int 12, .int p2] sz [(a0, .inr (9, [.ref x0_nameHead, .ref x0_nameTail, .ref x0_nameOf, .ref x0_windows, .ref x0_koi, .int 0, .ref a1, .ref x0_tape, .int 0, .ref x0_text, .int 0, .ref x0_out, .ref x0_src, .int 0, .int 0, .int 0, .int 0, .int 0, .int 0, .int 0, .int 0, .int 0, .int 0])), (a1, .inl ((D.1 100), 20, .inl f1))] (fun (_u : (Nat → Int32)) => True) (fun (u : (Nat → Int32)) => ([(a0, .inr (9, [.ref x0_nameHead, .ref x0_nameTail, .ref x0_nameOf, .ref x0_windows, .ref x0_koi, .int 0, .ref a1, .ref x0_tape, .int 0, .ref x0_text, .int 0, .ref x0_out, .ref x0_src, .int 0, .int 0, .int 0, .int 0, .int 0, .int 0, .int 0, .int 0, .int 0, .int 0])), (a1, .inl ((D.1 100), 20, .inl u))] : va_W)) := by
  refine g_ofv (cc := b_MM_lay) (maxL := 4) (by decide) rfl (Nat.le_of_ble_eq_true rfl) ?_
  intro p e s m below meth c A Q H ls hx hb hml hown hts hA hK hZ hP hD hS hl hret
  have hown : s.vm.findClass "MailCharactersModel" = some m.cls := hown
  have hl : lv_has ls 4 [(0, .ref a0), (1, .int 12), (2, .int p2)] := hl
  refine lv_iconst (v := 0) hx hb d_MM_lay_0 (by decide) ?_
  refine lv_istore_n (lv' := [(3, .int 0), (0, .ref a0), (1, .int 12), (2, .int p2)]) hx hb d_MM_lay_1 rfl hl (by decide) rfl (fun ls hl => ?_)
  refine lv_iload_n hx hb d_MM_lay_2 rfl (lv_at hl 0 rfl) ?_
  refine lv_iconst (v := 4) hx hb d_MM_lay_3 (by decide) ?_
  refine lv_icmp_ge (tgt := 31) hx hb d_MM_lay_4 (by decide) (fun h9 => absurd h9 (by decide +kernel)) (fun _ => ?_)
  refine lv_aload_n hx hb d_MM_lay_7 rfl (lv_at hl 1 rfl) ?_
  refine va_get (D := D) (ci := 9) (v := .ref a1) (C := "MailCharactersModel") (T := F_MM) (N := 23) hx hb hts i_MM hown hK hP 0 rfl rfl 6 (by decide) (hts _ k_879) (fun _ h9 => h9) rfl d_MM_lay_8 ?_
  refine lv_iload_n hx hb d_MM_lay_11 rfl (lv_at hl 2 rfl) ?_
  refine lv_iload_n hx hb d_MM_lay_12 rfl (lv_at hl 0 rfl) ?_
  refine lv_iadd hx hb d_MM_lay_13 ?_
  refine lv_topi (fun x_1 ex_1 => ?_)
  obtain rfl : x_1 = 12 := ex_1.trans (by decide)
  refine lv_iload_n hx hb d_MM_lay_14 rfl (lv_at hl 3 rfl) ?_
  refine lv_bipush (v := 24) hx hb d_MM_lay_15 (by decide) ?_
  refine lv_bipush (v := 8) hx hb d_MM_lay_17 (by decide) ?_
  refine lv_iload_n hx hb d_MM_lay_19 rfl (lv_at hl 0 rfl) ?_
  refine lv_imul hx hb d_MM_lay_20 ?_
  refine lv_topi (fun x_2 ex_2 => ?_)
  obtain rfl : x_2 = 0 := ex_2.trans (by decide)
  refine lv_isub hx hb d_MM_lay_21 ?_
  refine lv_topi (fun x_3 ex_3 => ?_)
  obtain rfl : x_3 = 24 := ex_3.trans (by decide)
  refine lv_ishr hx hb d_MM_lay_22 ?_
  refine lv_i2b hx hb d_MM_lay_23 rfl ?_
  refine va_bast hx hb hK hP hD hS 1 1 rfl rfl (by unfold vp_in; decide +kernel) d_MM_lay_24 (fun H locs hP hD hS => ?_)
  obtain ⟨f4z, hP, hD⟩ : ∃ f4z : Nat → Int32, va_P D vwCl [(a0, .inr (9, [.ref x0_nameHead, .ref x0_nameTail, .ref x0_nameOf, .ref x0_windows, .ref x0_koi, .int 0, .ref a1, .ref x0_tape, .int 0, .ref x0_text, .int 0, .ref x0_out, .ref x0_src, .int 0, .int 0, .int 0, .int 0, .int 0, .int 0, .int 0, .int 0, .int 0, .int 0])), (a1, .inl ((D.1 100), 20, .inl f4z))] H ∧ va_D A [(a0, .inr (9, [.ref x0_nameHead, .ref x0_nameTail, .ref x0_nameOf, .ref x0_windows, .ref x0_koi, .int 0, .ref a1, .ref x0_tape, .int 0, .ref x0_text, .int 0, .ref x0_out, .ref x0_src, .int 0, .int 0, .int 0, .int 0, .int 0, .int 0, .int 0, .int 0, .int 0, .int 0])), (a1, .inl ((D.1 100), 20, .inl f4z))] := ⟨_, hP, hD⟩
  refine lv_iinc (v := 1) (lv' := [(3, .int 1), (0, .ref a0), (1, .int 12), (2, .int p2)]) hx hb d_MM_lay_25 hl (k := 0) rfl (by decide) (by decide) rfl (fun ls hl => ?_)
  refine lv_goto (tgt := 2) hx hb d_MM_lay_28 (by decide) ?_
  refine lv_iload_n hx hb d_MM_lay_2 rfl (lv_at hl 0 rfl) ?_
  refine lv_iconst (v := 4) hx hb d_MM_lay_3 (by decide) ?_
  refine lv_icmp_ge (tgt := 31) hx hb d_MM_lay_4 (by decide) (fun h9 => absurd h9 (by decide +kernel)) (fun _ => ?_)
  refine lv_aload_n hx hb d_MM_lay_7 rfl (lv_at hl 1 rfl) ?_
  refine va_get (D := D) (ci := 9) (v := .ref a1) (C := "MailCharactersModel") (T := F_MM) (N := 23) hx hb hts i_MM hown hK hP 0 rfl rfl 6 (by decide) (hts _ k_879) (fun _ h9 => h9) rfl d_MM_lay_8 ?_
  refine lv_iload_n hx hb d_MM_lay_11 rfl (lv_at hl 2 rfl) ?_
  refine lv_iload_n hx hb d_MM_lay_12 rfl (lv_at hl 0 rfl) ?_
  refine lv_iadd hx hb d_MM_lay_13 ?_
  refine lv_topi (fun x_5 ex_5 => ?_)
  obtain rfl : x_5 = 13 := ex_5.trans (by decide)
  refine lv_iload_n hx hb d_MM_lay_14 rfl (lv_at hl 3 rfl) ?_
  refine lv_bipush (v := 24) hx hb d_MM_lay_15 (by decide) ?_
  refine lv_bipush (v := 8) hx hb d_MM_lay_17 (by decide) ?_
  refine lv_iload_n hx hb d_MM_lay_19 rfl (lv_at hl 0 rfl) ?_
  refine lv_imul hx hb d_MM_lay_20 ?_
  refine lv_topi (fun x_6 ex_6 => ?_)
  obtain rfl : x_6 = 8 := ex_6.trans (by decide)
  refine lv_isub hx hb d_MM_lay_21 ?_
  refine lv_topi (fun x_7 ex_7 => ?_)
  obtain rfl : x_7 = 16 := ex_7.trans (by decide)
  refine lv_ishr hx hb d_MM_lay_22 ?_
  refine lv_i2b hx hb d_MM_lay_23 rfl ?_
  refine va_bast hx hb hK hP hD hS 1 1 rfl rfl (by unfold vp_in; decide +kernel) d_MM_lay_24 (fun H locs hP hD hS => ?_)
  obtain ⟨f8z, hP, hD⟩ : ∃ f8z : Nat → Int32, va_P D vwCl [(a0, .inr (9, [.ref x0_nameHead, .ref x0_nameTail, .ref x0_nameOf, .ref x0_windows, .ref x0_koi, .int 0, .ref a1, .ref x0_tape, .int 0, .ref x0_text, .int 0, .ref x0_out, .ref x0_src, .int 0, .int 0, .int 0, .int 0, .int 0, .int 0, .int 0, .int 0, .int 0, .int 0])), (a1, .inl ((D.1 100), 20, .inl f8z))] H ∧ va_D A [(a0, .inr (9, [.ref x0_nameHead, .ref x0_nameTail, .ref x0_nameOf, .ref x0_windows, .ref x0_koi, .int 0, .ref a1, .ref x0_tape, .int 0, .ref x0_text, .int 0, .ref x0_out, .ref x0_src, .int 0, .int 0, .int 0, .int 0, .int 0, .int 0, .int 0, .int 0, .int 0, .int 0])), (a1, .inl ((D.1 100), 20, .inl f8z))] := ⟨_, hP, hD⟩
  refine lv_iinc (v := 2) (lv' := [(3, .int 2), (0, .ref a0), (1, .int 12), (2, .int p2)]) hx hb d_MM_lay_25 hl (k := 0) rfl (by decide) (by decide) rfl (fun ls hl => ?_)
  refine lv_goto (tgt := 2) hx hb d_MM_lay_28 (by decide) ?_
  refine lv_iload_n hx hb d_MM_lay_2 rfl (lv_at hl 0 rfl) ?_
  refine lv_iconst (v := 4) hx hb d_MM_lay_3 (by decide) ?_
  refine lv_icmp_ge (tgt := 31) hx hb d_MM_lay_4 (by decide) (fun h9 => absurd h9 (by decide +kernel)) (fun _ => ?_)
  refine lv_aload_n hx hb d_MM_lay_7 rfl (lv_at hl 1 rfl) ?_
  refine va_get (D := D) (ci := 9) (v := .ref a1) (C := "MailCharactersModel") (T := F_MM) (N := 23) hx hb hts i_MM hown hK hP 0 rfl rfl 6 (by decide) (hts _ k_879) (fun _ h9 => h9) rfl d_MM_lay_8 ?_
  refine lv_iload_n hx hb d_MM_lay_11 rfl (lv_at hl 2 rfl) ?_
  refine lv_iload_n hx hb d_MM_lay_12 rfl (lv_at hl 0 rfl) ?_
  refine lv_iadd hx hb d_MM_lay_13 ?_
  refine lv_topi (fun x_9 ex_9 => ?_)
  obtain rfl : x_9 = 14 := ex_9.trans (by decide)
  refine lv_iload_n hx hb d_MM_lay_14 rfl (lv_at hl 3 rfl) ?_
  refine lv_bipush (v := 24) hx hb d_MM_lay_15 (by decide) ?_
  refine lv_bipush (v := 8) hx hb d_MM_lay_17 (by decide) ?_
  refine lv_iload_n hx hb d_MM_lay_19 rfl (lv_at hl 0 rfl) ?_
  refine lv_imul hx hb d_MM_lay_20 ?_
  refine lv_topi (fun x_10 ex_10 => ?_)
  obtain rfl : x_10 = 16 := ex_10.trans (by decide)
  refine lv_isub hx hb d_MM_lay_21 ?_
  refine lv_topi (fun x_11 ex_11 => ?_)
  obtain rfl : x_11 = 8 := ex_11.trans (by decide)
  refine lv_ishr hx hb d_MM_lay_22 ?_
  refine lv_i2b hx hb d_MM_lay_23 rfl ?_
  refine va_bast hx hb hK hP hD hS 1 1 rfl rfl (by unfold vp_in; decide +kernel) d_MM_lay_24 (fun H locs hP hD hS => ?_)
  obtain ⟨f12z, hP, hD⟩ : ∃ f12z : Nat → Int32, va_P D vwCl [(a0, .inr (9, [.ref x0_nameHead, .ref x0_nameTail, .ref x0_nameOf, .ref x0_windows, .ref x0_koi, .int 0, .ref a1, .ref x0_tape, .int 0, .ref x0_text, .int 0, .ref x0_out, .ref x0_src, .int 0, .int 0, .int 0, .int 0, .int 0, .int 0, .int 0, .int 0, .int 0, .int 0])), (a1, .inl ((D.1 100), 20, .inl f12z))] H ∧ va_D A [(a0, .inr (9, [.ref x0_nameHead, .ref x0_nameTail, .ref x0_nameOf, .ref x0_windows, .ref x0_koi, .int 0, .ref a1, .ref x0_tape, .int 0, .ref x0_text, .int 0, .ref x0_out, .ref x0_src, .int 0, .int 0, .int 0, .int 0, .int 0, .int 0, .int 0, .int 0, .int 0, .int 0])), (a1, .inl ((D.1 100), 20, .inl f12z))] := ⟨_, hP, hD⟩
  refine lv_iinc (v := 3) (lv' := [(3, .int 3), (0, .ref a0), (1, .int 12), (2, .int p2)]) hx hb d_MM_lay_25 hl (k := 0) rfl (by decide) (by decide) rfl (fun ls hl => ?_)
  refine lv_goto (tgt := 2) hx hb d_MM_lay_28 (by decide) ?_
  refine lv_iload_n hx hb d_MM_lay_2 rfl (lv_at hl 0 rfl) ?_
  refine lv_iconst (v := 4) hx hb d_MM_lay_3 (by decide) ?_
  refine lv_icmp_ge (tgt := 31) hx hb d_MM_lay_4 (by decide) (fun h9 => absurd h9 (by decide +kernel)) (fun _ => ?_)
  refine lv_aload_n hx hb d_MM_lay_7 rfl (lv_at hl 1 rfl) ?_
  refine va_get (D := D) (ci := 9) (v := .ref a1) (C := "MailCharactersModel") (T := F_MM) (N := 23) hx hb hts i_MM hown hK hP 0 rfl rfl 6 (by decide) (hts _ k_879) (fun _ h9 => h9) rfl d_MM_lay_8 ?_
  refine lv_iload_n hx hb d_MM_lay_11 rfl (lv_at hl 2 rfl) ?_
  refine lv_iload_n hx hb d_MM_lay_12 rfl (lv_at hl 0 rfl) ?_
  refine lv_iadd hx hb d_MM_lay_13 ?_
  refine lv_topi (fun x_13 ex_13 => ?_)
  obtain rfl : x_13 = 15 := ex_13.trans (by decide)
  refine lv_iload_n hx hb d_MM_lay_14 rfl (lv_at hl 3 rfl) ?_
  refine lv_bipush (v := 24) hx hb d_MM_lay_15 (by decide) ?_
  refine lv_bipush (v := 8) hx hb d_MM_lay_17 (by decide) ?_
  refine lv_iload_n hx hb d_MM_lay_19 rfl (lv_at hl 0 rfl) ?_
  refine lv_imul hx hb d_MM_lay_20 ?_
  refine lv_topi (fun x_14 ex_14 => ?_)
  obtain rfl : x_14 = 24 := ex_14.trans (by decide)
  refine lv_isub hx hb d_MM_lay_21 ?_
  refine lv_topi (fun x_15 ex_15 => ?_)
  obtain rfl : x_15 = 0 := ex_15.trans (by decide)
  refine lv_ishr hx hb d_MM_lay_22 ?_
  refine lv_i2b hx hb d_MM_lay_23 rfl ?_
  refine va_bast hx hb hK hP hD hS 1 1 rfl rfl (by unfold vp_in; decide +kernel) d_MM_lay_24 (fun H locs hP hD hS => ?_)
  obtain ⟨f16z, hP, hD⟩ : ∃ f16z : Nat → Int32, va_P D vwCl [(a0, .inr (9, [.ref x0_nameHead, .ref x0_nameTail, .ref x0_nameOf, .ref x0_windows, .ref x0_koi, .int 0, .ref a1, .ref x0_tape, .int 0, .ref x0_text, .int 0, .ref x0_out, .ref x0_src, .int 0, .int 0, .int 0, .int 0, .int 0, .int 0, .int 0, .int 0, .int 0, .int 0])), (a1, .inl ((D.1 100), 20, .inl f16z))] H ∧ va_D A [(a0, .inr (9, [.ref x0_nameHead, .ref x0_nameTail, .ref x0_nameOf, .ref x0_windows, .ref x0_koi, .int 0, .ref a1, .ref x0_tape, .int 0, .ref x0_text, .int 0, .ref x0_out, .ref x0_src, .int 0, .int 0, .int 0, .int 0, .int 0, .int 0, .int 0, .int 0, .int 0, .int 0])), (a1, .inl ((D.1 100), 20, .inl f16z))] := ⟨_, hP, hD⟩
  refine lv_iinc (v := 4) (lv' := [(3, .int 4), (0, .ref a0), (1, .int 12), (2, .int p2)]) hx hb d_MM_lay_25 hl (k := 0) rfl (by decide) (by decide) rfl (fun ls hl => ?_)
  refine lv_goto (tgt := 2) hx hb d_MM_lay_28 (by decide) ?_
  refine lv_iload_n hx hb d_MM_lay_2 rfl (lv_at hl 0 rfl) ?_
  refine lv_iconst (v := 4) hx hb d_MM_lay_3 (by decide) ?_
  refine lv_icmp_ge (tgt := 31) hx hb d_MM_lay_4 (by decide) (fun _ => ?_) (fun h9 => absurd h9 (by decide +kernel))
  exact hret f16z _ _ _ _ d_MM_lay_31 trivial hP hD hS
theorem cw_MM_lay_3 {R : Room} {s : State} {args : Array Value} {own : String} {idx : Nat} (hts : ∀ w ∈ gW, w.before args s = true) (hl : Cond.methodLink own idx y_MM_lay ∈ gW) (hR : rm_MM_lay_3.frames + 1 ≤ R.frames ∧ 8 + (4 + 11) + rm_MM_lay_3.locals ≤ R.locals) : CallW R s args own "MailCharactersModel" idx y_MM_lay b_MM_lay 4 none w_MM_lay rm_MM_lay_3 0 0 2 := cwV 2 hts (gW_V hl k_954 k_24 k_77 k_955) rfl rfl rfl (by decide +kernel) hR
def rm_MM_lay_4 : Room := { frames := 0, cells := 0, slots := 0, locals := 0 }
set_option maxHeartbeats 4000000 in
set_option maxRecDepth 100000 in
theorem c_MM_lay_4 (l : Launch) (D : va_G) (Z : gZT) (kI : ClassId) (a0 : Nat) (a1 : Nat) (x0_nameHead : Nat) (x0_nameTail : Nat) (x0_nameOf : Nat) (x0_windows : Nat) (x0_koi : Nat) (x0_tape : Nat) (x0_text : Nat) (x0_out : Nat) (x0_src : Nat) (sz : Nat) (f1 : Nat → Int32) (p2 : Int32) : gMv l y_MM_lay w_MM_lay rm_MM_lay_4 D Z kI [.ref a0, .int 16, .int p2] sz [(a0, .inr (9, [.ref x0_nameHead, .ref x0_nameTail, .ref x0_nameOf, .ref x0_windows, .ref x0_koi, .int 0, .ref a1, .ref x0_tape, .int 0, .ref x0_text, .int 0, .ref x0_out, .ref x0_src, .int 0, .int 0, .int 0, .int 0, .int 0, .int 0, .int 0, .int 0, .int 0, .int 0])), (a1, .inl ((D.1 100), 20, .inl f1))] (fun (_u : (Nat → Int32)) => True) (fun (u : (Nat → Int32)) => ([(a0, .inr (9, [.ref x0_nameHead, .ref x0_nameTail, .ref x0_nameOf, .ref x0_windows, .ref x0_koi, .int 0, .ref a1, .ref x0_tape, .int 0, .ref x0_text, .int 0, .ref x0_out, .ref x0_src, .int 0, .int 0, .int 0, .int 0, .int 0, .int 0, .int 0, .int 0, .int 0, .int 0])), (a1, .inl ((D.1 100), 20, .inl u))] : va_W)) := by
  refine g_ofv (cc := b_MM_lay) (maxL := 4) (by decide) rfl (Nat.le_of_ble_eq_true rfl) ?_
  intro p e s m below meth c A Q H ls hx hb hml hown hts hA hK hZ hP hD hS hl hret
  have hown : s.vm.findClass "MailCharactersModel" = some m.cls := hown
  have hl : lv_has ls 4 [(0, .ref a0), (1, .int 16), (2, .int p2)] := hl
  refine lv_iconst (v := 0) hx hb d_MM_lay_0 (by decide) ?_
  refine lv_istore_n (lv' := [(3, .int 0), (0, .ref a0), (1, .int 16), (2, .int p2)]) hx hb d_MM_lay_1 rfl hl (by decide) rfl (fun ls hl => ?_)
  refine lv_iload_n hx hb d_MM_lay_2 rfl (lv_at hl 0 rfl) ?_
  refine lv_iconst (v := 4) hx hb d_MM_lay_3 (by decide) ?_
  refine lv_icmp_ge (tgt := 31) hx hb d_MM_lay_4 (by decide) (fun h9 => absurd h9 (by decide +kernel)) (fun _ => ?_)
  refine lv_aload_n hx hb d_MM_lay_7 rfl (lv_at hl 1 rfl) ?_
  refine va_get (D := D) (ci := 9) (v := .ref a1) (C := "MailCharactersModel") (T := F_MM) (N := 23) hx hb hts i_MM hown hK hP 0 rfl rfl 6 (by decide) (hts _ k_879) (fun _ h9 => h9) rfl d_MM_lay_8 ?_
  refine lv_iload_n hx hb d_MM_lay_11 rfl (lv_at hl 2 rfl) ?_
  refine lv_iload_n hx hb d_MM_lay_12 rfl (lv_at hl 0 rfl) ?_
  refine lv_iadd hx hb d_MM_lay_13 ?_
  refine lv_topi (fun x_1 ex_1 => ?_)
  obtain rfl : x_1 = 16 := ex_1.trans (by decide)
  refine lv_iload_n hx hb d_MM_lay_14 rfl (lv_at hl 3 rfl) ?_
  refine lv_bipush (v := 24) hx hb d_MM_lay_15 (by decide) ?_
  refine lv_bipush (v := 8) hx hb d_MM_lay_17 (by decide) ?_
  refine lv_iload_n hx hb d_MM_lay_19 rfl (lv_at hl 0 rfl) ?_
  refine lv_imul hx hb d_MM_lay_20 ?_
  refine lv_topi (fun x_2 ex_2 => ?_)
  obtain rfl : x_2 = 0 := ex_2.trans (by decide)
  refine lv_isub hx hb d_MM_lay_21 ?_
  refine lv_topi (fun x_3 ex_3 => ?_)
  obtain rfl : x_3 = 24 := ex_3.trans (by decide)
  refine lv_ishr hx hb d_MM_lay_22 ?_
  refine lv_i2b hx hb d_MM_lay_23 rfl ?_
  refine va_bast hx hb hK hP hD hS 1 1 rfl rfl (by unfold vp_in; decide +kernel) d_MM_lay_24 (fun H locs hP hD hS => ?_)
  obtain ⟨f4z, hP, hD⟩ : ∃ f4z : Nat → Int32, va_P D vwCl [(a0, .inr (9, [.ref x0_nameHead, .ref x0_nameTail, .ref x0_nameOf, .ref x0_windows, .ref x0_koi, .int 0, .ref a1, .ref x0_tape, .int 0, .ref x0_text, .int 0, .ref x0_out, .ref x0_src, .int 0, .int 0, .int 0, .int 0, .int 0, .int 0, .int 0, .int 0, .int 0, .int 0])), (a1, .inl ((D.1 100), 20, .inl f4z))] H ∧ va_D A [(a0, .inr (9, [.ref x0_nameHead, .ref x0_nameTail, .ref x0_nameOf, .ref x0_windows, .ref x0_koi, .int 0, .ref a1, .ref x0_tape, .int 0, .ref x0_text, .int 0, .ref x0_out, .ref x0_src, .int 0, .int 0, .int 0, .int 0, .int 0, .int 0, .int 0, .int 0, .int 0, .int 0])), (a1, .inl ((D.1 100), 20, .inl f4z))] := ⟨_, hP, hD⟩
  refine lv_iinc (v := 1) (lv' := [(3, .int 1), (0, .ref a0), (1, .int 16), (2, .int p2)]) hx hb d_MM_lay_25 hl (k := 0) rfl (by decide) (by decide) rfl (fun ls hl => ?_)
  refine lv_goto (tgt := 2) hx hb d_MM_lay_28 (by decide) ?_
  refine lv_iload_n hx hb d_MM_lay_2 rfl (lv_at hl 0 rfl) ?_
  refine lv_iconst (v := 4) hx hb d_MM_lay_3 (by decide) ?_
  refine lv_icmp_ge (tgt := 31) hx hb d_MM_lay_4 (by decide) (fun h9 => absurd h9 (by decide +kernel)) (fun _ => ?_)
  refine lv_aload_n hx hb d_MM_lay_7 rfl (lv_at hl 1 rfl) ?_
  refine va_get (D := D) (ci := 9) (v := .ref a1) (C := "MailCharactersModel") (T := F_MM) (N := 23) hx hb hts i_MM hown hK hP 0 rfl rfl 6 (by decide) (hts _ k_879) (fun _ h9 => h9) rfl d_MM_lay_8 ?_
  refine lv_iload_n hx hb d_MM_lay_11 rfl (lv_at hl 2 rfl) ?_
  refine lv_iload_n hx hb d_MM_lay_12 rfl (lv_at hl 0 rfl) ?_
  refine lv_iadd hx hb d_MM_lay_13 ?_
  refine lv_topi (fun x_5 ex_5 => ?_)
  obtain rfl : x_5 = 17 := ex_5.trans (by decide)
  refine lv_iload_n hx hb d_MM_lay_14 rfl (lv_at hl 3 rfl) ?_
  refine lv_bipush (v := 24) hx hb d_MM_lay_15 (by decide) ?_
  refine lv_bipush (v := 8) hx hb d_MM_lay_17 (by decide) ?_
  refine lv_iload_n hx hb d_MM_lay_19 rfl (lv_at hl 0 rfl) ?_
  refine lv_imul hx hb d_MM_lay_20 ?_
  refine lv_topi (fun x_6 ex_6 => ?_)
  obtain rfl : x_6 = 8 := ex_6.trans (by decide)
  refine lv_isub hx hb d_MM_lay_21 ?_
  refine lv_topi (fun x_7 ex_7 => ?_)
  obtain rfl : x_7 = 16 := ex_7.trans (by decide)
  refine lv_ishr hx hb d_MM_lay_22 ?_
  refine lv_i2b hx hb d_MM_lay_23 rfl ?_
  refine va_bast hx hb hK hP hD hS 1 1 rfl rfl (by unfold vp_in; decide +kernel) d_MM_lay_24 (fun H locs hP hD hS => ?_)
  obtain ⟨f8z, hP, hD⟩ : ∃ f8z : Nat → Int32, va_P D vwCl [(a0, .inr (9, [.ref x0_nameHead, .ref x0_nameTail, .ref x0_nameOf, .ref x0_windows, .ref x0_koi, .int 0, .ref a1, .ref x0_tape, .int 0, .ref x0_text, .int 0, .ref x0_out, .ref x0_src, .int 0, .int 0, .int 0, .int 0, .int 0, .int 0, .int 0, .int 0, .int 0, .int 0])), (a1, .inl ((D.1 100), 20, .inl f8z))] H ∧ va_D A [(a0, .inr (9, [.ref x0_nameHead, .ref x0_nameTail, .ref x0_nameOf, .ref x0_windows, .ref x0_koi, .int 0, .ref a1, .ref x0_tape, .int 0, .ref x0_text, .int 0, .ref x0_out, .ref x0_src, .int 0, .int 0, .int 0, .int 0, .int 0, .int 0, .int 0, .int 0, .int 0, .int 0])), (a1, .inl ((D.1 100), 20, .inl f8z))] := ⟨_, hP, hD⟩
  refine lv_iinc (v := 2) (lv' := [(3, .int 2), (0, .ref a0), (1, .int 16), (2, .int p2)]) hx hb d_MM_lay_25 hl (k := 0) rfl (by decide) (by decide) rfl (fun ls hl => ?_)
  refine lv_goto (tgt := 2) hx hb d_MM_lay_28 (by decide) ?_
  refine lv_iload_n hx hb d_MM_lay_2 rfl (lv_at hl 0 rfl) ?_
  refine lv_iconst (v := 4) hx hb d_MM_lay_3 (by decide) ?_
  refine lv_icmp_ge (tgt := 31) hx hb d_MM_lay_4 (by decide) (fun h9 => absurd h9 (by decide +kernel)) (fun _ => ?_)
  refine lv_aload_n hx hb d_MM_lay_7 rfl (lv_at hl 1 rfl) ?_
  refine va_get (D := D) (ci := 9) (v := .ref a1) (C := "MailCharactersModel") (T := F_MM) (N := 23) hx hb hts i_MM hown hK hP 0 rfl rfl 6 (by decide) (hts _ k_879) (fun _ h9 => h9) rfl d_MM_lay_8 ?_
  refine lv_iload_n hx hb d_MM_lay_11 rfl (lv_at hl 2 rfl) ?_
  refine lv_iload_n hx hb d_MM_lay_12 rfl (lv_at hl 0 rfl) ?_
  refine lv_iadd hx hb d_MM_lay_13 ?_
  refine lv_topi (fun x_9 ex_9 => ?_)
  obtain rfl : x_9 = 18 := ex_9.trans (by decide)
  refine lv_iload_n hx hb d_MM_lay_14 rfl (lv_at hl 3 rfl) ?_
  refine lv_bipush (v := 24) hx hb d_MM_lay_15 (by decide) ?_
  refine lv_bipush (v := 8) hx hb d_MM_lay_17 (by decide) ?_
  refine lv_iload_n hx hb d_MM_lay_19 rfl (lv_at hl 0 rfl) ?_
  refine lv_imul hx hb d_MM_lay_20 ?_
  refine lv_topi (fun x_10 ex_10 => ?_)
  obtain rfl : x_10 = 16 := ex_10.trans (by decide)
  refine lv_isub hx hb d_MM_lay_21 ?_
  refine lv_topi (fun x_11 ex_11 => ?_)
  obtain rfl : x_11 = 8 := ex_11.trans (by decide)
  refine lv_ishr hx hb d_MM_lay_22 ?_
  refine lv_i2b hx hb d_MM_lay_23 rfl ?_
  refine va_bast hx hb hK hP hD hS 1 1 rfl rfl (by unfold vp_in; decide +kernel) d_MM_lay_24 (fun H locs hP hD hS => ?_)
  obtain ⟨f12z, hP, hD⟩ : ∃ f12z : Nat → Int32, va_P D vwCl [(a0, .inr (9, [.ref x0_nameHead, .ref x0_nameTail, .ref x0_nameOf, .ref x0_windows, .ref x0_koi, .int 0, .ref a1, .ref x0_tape, .int 0, .ref x0_text, .int 0, .ref x0_out, .ref x0_src, .int 0, .int 0, .int 0, .int 0, .int 0, .int 0, .int 0, .int 0, .int 0, .int 0])), (a1, .inl ((D.1 100), 20, .inl f12z))] H ∧ va_D A [(a0, .inr (9, [.ref x0_nameHead, .ref x0_nameTail, .ref x0_nameOf, .ref x0_windows, .ref x0_koi, .int 0, .ref a1, .ref x0_tape, .int 0, .ref x0_text, .int 0, .ref x0_out, .ref x0_src, .int 0, .int 0, .int 0, .int 0, .int 0, .int 0, .int 0, .int 0, .int 0, .int 0])), (a1, .inl ((D.1 100), 20, .inl f12z))] := ⟨_, hP, hD⟩
  refine lv_iinc (v := 3) (lv' := [(3, .int 3), (0, .ref a0), (1, .int 16), (2, .int p2)]) hx hb d_MM_lay_25 hl (k := 0) rfl (by decide) (by decide) rfl (fun ls hl => ?_)
  refine lv_goto (tgt := 2) hx hb d_MM_lay_28 (by decide) ?_
  refine lv_iload_n hx hb d_MM_lay_2 rfl (lv_at hl 0 rfl) ?_
  refine lv_iconst (v := 4) hx hb d_MM_lay_3 (by decide) ?_
  refine lv_icmp_ge (tgt := 31) hx hb d_MM_lay_4 (by decide) (fun h9 => absurd h9 (by decide +kernel)) (fun _ => ?_)
  refine lv_aload_n hx hb d_MM_lay_7 rfl (lv_at hl 1 rfl) ?_
  refine va_get (D := D) (ci := 9) (v := .ref a1) (C := "MailCharactersModel") (T := F_MM) (N := 23) hx hb hts i_MM hown hK hP 0 rfl rfl 6 (by decide) (hts _ k_879) (fun _ h9 => h9) rfl d_MM_lay_8 ?_
  refine lv_iload_n hx hb d_MM_lay_11 rfl (lv_at hl 2 rfl) ?_
  refine lv_iload_n hx hb d_MM_lay_12 rfl (lv_at hl 0 rfl) ?_
  refine lv_iadd hx hb d_MM_lay_13 ?_
  refine lv_topi (fun x_13 ex_13 => ?_)
  obtain rfl : x_13 = 19 := ex_13.trans (by decide)
  refine lv_iload_n hx hb d_MM_lay_14 rfl (lv_at hl 3 rfl) ?_
  refine lv_bipush (v := 24) hx hb d_MM_lay_15 (by decide) ?_
  refine lv_bipush (v := 8) hx hb d_MM_lay_17 (by decide) ?_
  refine lv_iload_n hx hb d_MM_lay_19 rfl (lv_at hl 0 rfl) ?_
  refine lv_imul hx hb d_MM_lay_20 ?_
  refine lv_topi (fun x_14 ex_14 => ?_)
  obtain rfl : x_14 = 24 := ex_14.trans (by decide)
  refine lv_isub hx hb d_MM_lay_21 ?_
  refine lv_topi (fun x_15 ex_15 => ?_)
  obtain rfl : x_15 = 0 := ex_15.trans (by decide)
  refine lv_ishr hx hb d_MM_lay_22 ?_
  refine lv_i2b hx hb d_MM_lay_23 rfl ?_
  refine va_bast hx hb hK hP hD hS 1 1 rfl rfl (by unfold vp_in; decide +kernel) d_MM_lay_24 (fun H locs hP hD hS => ?_)
  obtain ⟨f16z, hP, hD⟩ : ∃ f16z : Nat → Int32, va_P D vwCl [(a0, .inr (9, [.ref x0_nameHead, .ref x0_nameTail, .ref x0_nameOf, .ref x0_windows, .ref x0_koi, .int 0, .ref a1, .ref x0_tape, .int 0, .ref x0_text, .int 0, .ref x0_out, .ref x0_src, .int 0, .int 0, .int 0, .int 0, .int 0, .int 0, .int 0, .int 0, .int 0, .int 0])), (a1, .inl ((D.1 100), 20, .inl f16z))] H ∧ va_D A [(a0, .inr (9, [.ref x0_nameHead, .ref x0_nameTail, .ref x0_nameOf, .ref x0_windows, .ref x0_koi, .int 0, .ref a1, .ref x0_tape, .int 0, .ref x0_text, .int 0, .ref x0_out, .ref x0_src, .int 0, .int 0, .int 0, .int 0, .int 0, .int 0, .int 0, .int 0, .int 0, .int 0])), (a1, .inl ((D.1 100), 20, .inl f16z))] := ⟨_, hP, hD⟩
  refine lv_iinc (v := 4) (lv' := [(3, .int 4), (0, .ref a0), (1, .int 16), (2, .int p2)]) hx hb d_MM_lay_25 hl (k := 0) rfl (by decide) (by decide) rfl (fun ls hl => ?_)
  refine lv_goto (tgt := 2) hx hb d_MM_lay_28 (by decide) ?_
  refine lv_iload_n hx hb d_MM_lay_2 rfl (lv_at hl 0 rfl) ?_
  refine lv_iconst (v := 4) hx hb d_MM_lay_3 (by decide) ?_
  refine lv_icmp_ge (tgt := 31) hx hb d_MM_lay_4 (by decide) (fun _ => ?_) (fun h9 => absurd h9 (by decide +kernel))
  exact hret f16z _ _ _ _ d_MM_lay_31 trivial hP hD hS
theorem cw_MM_lay_4 {R : Room} {s : State} {args : Array Value} {own : String} {idx : Nat} (hts : ∀ w ∈ gW, w.before args s = true) (hl : Cond.methodLink own idx y_MM_lay ∈ gW) (hR : rm_MM_lay_4.frames + 1 ≤ R.frames ∧ 8 + (4 + 11) + rm_MM_lay_4.locals ≤ R.locals) : CallW R s args own "MailCharactersModel" idx y_MM_lay b_MM_lay 4 none w_MM_lay rm_MM_lay_4 0 0 2 := cwV 2 hts (gW_V hl k_954 k_24 k_77 k_955) rfl rfl rfl (by decide +kernel) hR
def rm_MM_feed_0 : Room := { frames := 1, cells := 0, slots := 0, locals := 23 }
set_option maxHeartbeats 4000000 in
set_option maxRecDepth 100000 in
theorem c_MM_feed_0 (l : Launch) (D : va_G) (Z : gZT) (kI : ClassId) (a0 : Nat) (a1 : Nat) (x0_nameHead : Nat) (x0_nameTail : Nat) (x0_nameOf : Nat) (x0_windows : Nat) (x0_koi : Nat) (x0_tape : Nat) (x0_text : Nat) (x0_out : Nat) (x0_src : Nat) (sz : Nat) (f1 : Nat → Int32) (p1 : Int32) (p2 : Int32) (p3 : Int32) (p4 : Int32) (p5 : Int32) : gMv l y_MM_feed w_MM_feed rm_MM_feed_0 D Z kI [.ref a0, .int p1, .int p2, .int p3, .int p4, .int p5] sz [(a0, .inr (9, [.ref x0_nameHead, .ref x0_nameTail, .ref x0_nameOf, .ref x0_windows, .ref x0_koi, .int 0, .ref a1, .ref x0_tape, .int 0, .ref x0_text, .int 0, .ref x0_out, .ref x0_src, .int 0, .int 0, .int 0, .int 0, .int 0, .int 0, .int 0, .int 0, .int 0, .int 0])), (a1, .inl ((D.1 100), 20, .inl f1))] (fun (_u : (Nat → Int32)) => True) (fun (u : (Nat → Int32)) => ([(a0, .inr (9, [.ref x0_nameHead, .ref x0_nameTail, .ref x0_nameOf, .ref x0_windows, .ref x0_koi, .int 0, .ref a1, .ref x0_tape, .int 0, .ref x0_text, .int 0, .ref x0_out, .ref x0_src, .int 0, .int 0, .int 0, .int 0, .int 0, .int 0, .int 0, .int 0, .int 0, .int 0])), (a1, .inl ((D.1 100), 20, .inl u))] : va_W)) := by
  refine g_ofv (cc := b_MM_feed) (maxL := 6) (by decide) rfl (Nat.le_of_ble_eq_true rfl) ?_
  intro p e s m below meth c A Q H ls hx hb hml hown hts hA hK hZ hP hD hS hl hret
  have hown : s.vm.findClass "MailCharactersModel" = some m.cls := hown
  have hl : lv_has ls 6 [(0, .ref a0), (1, .int p1), (2, .int p2), (3, .int p3), (4, .int p4), (5, .int p5)] := hl
  refine lv_aload_n hx hb d_MM_feed_0 rfl (lv_at hl 0 rfl) ?_
  refine lv_iconst (v := 0) hx hb d_MM_feed_1 (by decide) ?_
  refine va_put (D := D) (ci := 9) (v := .int 0) (ty := .int) (C := "MailCharactersModel") (T := F_MM) (N := 23) hx hb hts i_MM t_MM t_MM_ok n_MM hown hK hP hD hS 0 rfl rfl 5 (by decide) (hts _ k_878) (fun _ h9 => h9) rfl (by decide +kernel) rfl rfl (Nat.le_of_ble_eq_true rfl) d_MM_feed_2 (fun H locs hP hD hS => ?_)
  have hP : va_P D vwCl [(a0, .inr (9, [.ref x0_nameHead, .ref x0_nameTail, .ref x0_nameOf, .ref x0_windows, .ref x0_koi, .int 0, .ref a1, .ref x0_tape, .int 0, .ref x0_text, .int 0, .ref x0_out, .ref x0_src, .int 0, .int 0, .int 0, .int 0, .int 0, .int 0, .int 0, .int 0, .int 0, .int 0])), (a1, .inl ((D.1 100), 20, .inl f1))] H := hP
  have hD : va_D A [(a0, .inr (9, [.ref x0_nameHead, .ref x0_nameTail, .ref x0_nameOf, .ref x0_windows, .ref x0_koi, .int 0, .ref a1, .ref x0_tape, .int 0, .ref x0_text, .int 0, .ref x0_out, .ref x0_src, .int 0, .int 0, .int 0, .int 0, .int 0, .int 0, .int 0, .int 0, .int 0, .int 0])), (a1, .inl ((D.1 100), 20, .inl f1))] := hD
  refine lv_aload_n hx hb d_MM_feed_5 rfl (lv_at hl 0 rfl) ?_
  refine lv_iconst (v := 0) hx hb d_MM_feed_6 (by decide) ?_
  refine lv_iload_n hx hb d_MM_feed_7 rfl (lv_at hl 1 rfl) ?_
  refine g_Vv (As := [.int 0, .int p1]) (rest := []) (wr := []) ⟨hx, hb, hml, hown, hts⟩ (c_MM_lay_0 l D Z kI a0 a1 x0_nameHead x0_nameTail x0_nameOf x0_windows x0_koi x0_tape x0_text x0_out x0_src H.size f1 p1) (cw_MM_lay_0 hts k_952 ⟨Nat.le_of_ble_eq_true rfl, Nat.le_of_ble_eq_true rfl⟩) hK hZ hP hD hS hA [0, 1] [] (g_recv hK hP (ci := 9) (q0 := 0) rfl rfl) rfl rfl (by decide) (by decide) (by decide) rfl hl.1 rfl (Nat.le_of_ble_eq_true rfl) d_MM_feed_8 ⟨Nat.zero_le _, Nat.zero_le _⟩ (fun u_1 H locs hw hP hD hS => ?_)
  obtain ⟨f1z0, eu_1⟩ : ∃ z, z = u_1 := ⟨_, rfl⟩
  subst eu_1
  have hP : va_P D vwCl [(a0, .inr (9, [.ref x0_nameHead, .ref x0_nameTail, .ref x0_nameOf, .ref x0_windows, .ref x0_koi, .int 0, .ref a1, .ref x0_tape, .int 0, .ref x0_text, .int 0, .ref x0_out, .ref x0_src, .int 0, .int 0, .int 0, .int 0, .int 0, .int 0, .int 0, .int 0, .int 0, .int 0])), (a1, .inl ((D.1 100), 20, .inl f1z0))] H := hP
  have hD : va_D A [(a0, .inr (9, [.ref x0_nameHead, .ref x0_nameTail, .ref x0_nameOf, .ref x0_windows, .ref x0_koi, .int 0, .ref a1, .ref x0_tape, .int 0, .ref x0_text, .int 0, .ref x0_out, .ref x0_src, .int 0, .int 0, .int 0, .int 0, .int 0, .int 0, .int 0, .int 0, .int 0, .int 0])), (a1, .inl ((D.1 100), 20, .inl f1z0))] := hD
  refine lv_aload_n hx hb d_MM_feed_11 rfl (lv_at hl 0 rfl) ?_
  refine lv_iconst (v := 4) hx hb d_MM_feed_12 (by decide) ?_
  refine lv_iload_n hx hb d_MM_feed_13 rfl (lv_at hl 2 rfl) ?_
  refine g_Vv (As := [.int 4, .int p2]) (rest := []) (wr := []) ⟨hx, hb, hml, hown, hts⟩ (c_MM_lay_1 l D Z kI a0 a1 x0_nameHead x0_nameTail x0_nameOf x0_windows x0_koi x0_tape x0_text x0_out x0_src H.size f1z0 p2) (cw_MM_lay_1 hts k_952 ⟨Nat.le_of_ble_eq_true rfl, Nat.le_of_ble_eq_true rfl⟩) hK hZ hP hD hS hA [0, 1] [] (g_recv hK hP (ci := 9) (q0 := 0) rfl rfl) rfl rfl (by decide) (by decide) (by decide) rfl hl.1 rfl (Nat.le_of_ble_eq_true rfl) d_MM_feed_14 ⟨Nat.zero_le _, Nat.zero_le _⟩ (fun u_2 H locs hw hP hD hS => ?_)
  obtain ⟨f2z0, eu_2⟩ : ∃ z, z = u_2 := ⟨_, rfl⟩
  subst eu_2
  have hP : va_P D vwCl [(a0, .inr (9, [.ref x0_nameHead, .ref x0_nameTail, .ref x0_nameOf, .ref x0_windows, .ref x0_koi, .int 0, .ref a1, .ref x0_tape, .int 0, .ref x0_text, .int 0, .ref x0_out, .ref x0_src, .int 0, .int 0, .int 0, .int 0, .int 0, .int 0, .int 0, .int 0, .int 0, .int 0])), (a1, .inl ((D.1 100), 20, .inl f2z0))] H := hP
  have hD : va_D A [(a0, .inr (9, [.ref x0_nameHead, .ref x0_nameTail, .ref x0_nameOf, .ref x0_windows, .ref x0_koi, .int 0, .ref a1, .ref x0_tape, .int 0, .ref x0_text, .int 0, .ref x0_out, .ref x0_src, .int 0, .int 0, .int 0, .int 0, .int 0, .int 0, .int 0, .int 0, .int 0, .int 0])), (a1, .inl ((D.1 100), 20, .inl f2z0))] := hD
  refine lv_aload_n hx hb d_MM_feed_17 rfl (lv_at hl 0 rfl) ?_
  refine lv_bipush (v := 8) hx hb d_MM_feed_18 (by decide) ?_
  refine lv_iload_n hx hb d_MM_feed_20 rfl (lv_at hl 3 rfl) ?_
  refine g_Vv (As := [.int 8, .int p3]) (rest := []) (wr := []) ⟨hx, hb, hml, hown, hts⟩ (c_MM_lay_2 l D Z kI a0 a1 x0_nameHead x0_nameTail x0_nameOf x0_windows x0_koi x0_tape x0_text x0_out x0_src H.size f2z0 p3) (cw_MM_lay_2 hts k_952 ⟨Nat.le_of_ble_eq_true rfl, Nat.le_of_ble_eq_true rfl⟩) hK hZ hP hD hS hA [0, 1] [] (g_recv hK hP (ci := 9) (q0 := 0) rfl rfl) rfl rfl (by decide) (by decide) (by decide) rfl hl.1 rfl (Nat.le_of_ble_eq_true rfl) d_MM_feed_21 ⟨Nat.zero_le _, Nat.zero_le _⟩ (fun u_3 H locs hw hP hD hS => ?_)
  obtain ⟨f3z0, eu_3⟩ : ∃ z, z = u_3 := ⟨_, rfl⟩
  subst eu_3
  have hP : va_P D vwCl [(a0, .inr (9, [.ref x0_nameHead, .ref x0_nameTail, .ref x0_nameOf, .ref x0_windows, .ref x0_koi, .int 0, .ref a1, .ref x0_tape, .int 0, .ref x0_text, .int 0, .ref x0_out, .ref x0_src, .int 0, .int 0, .int 0, .int 0, .int 0, .int 0, .int 0, .int 0, .int 0, .int 0])), (a1, .inl ((D.1 100), 20, .inl f3z0))] H := hP
  have hD : va_D A [(a0, .inr (9, [.ref x0_nameHead, .ref x0_nameTail, .ref x0_nameOf, .ref x0_windows, .ref x0_koi, .int 0, .ref a1, .ref x0_tape, .int 0, .ref x0_text, .int 0, .ref x0_out, .ref x0_src, .int 0, .int 0, .int 0, .int 0, .int 0, .int 0, .int 0, .int 0, .int 0, .int 0])), (a1, .inl ((D.1 100), 20, .inl f3z0))] := hD
  refine lv_aload_n hx hb d_MM_feed_24 rfl (lv_at hl 0 rfl) ?_
  refine lv_bipush (v := 12) hx hb d_MM_feed_25 (by decide) ?_
  refine lv_iload hx hb d_MM_feed_27 (lv_at hl 4 rfl) ?_
  refine g_Vv (As := [.int 12, .int p4]) (rest := []) (wr := []) ⟨hx, hb, hml, hown, hts⟩ (c_MM_lay_3 l D Z kI a0 a1 x0_nameHead x0_nameTail x0_nameOf x0_windows x0_koi x0_tape x0_text x0_out x0_src H.size f3z0 p4) (cw_MM_lay_3 hts k_952 ⟨Nat.le_of_ble_eq_true rfl, Nat.le_of_ble_eq_true rfl⟩) hK hZ hP hD hS hA [0, 1] [] (g_recv hK hP (ci := 9) (q0 := 0) rfl rfl) rfl rfl (by decide) (by decide) (by decide) rfl hl.1 rfl (Nat.le_of_ble_eq_true rfl) d_MM_feed_29 ⟨Nat.zero_le _, Nat.zero_le _⟩ (fun u_4 H locs hw hP hD hS => ?_)
  obtain ⟨f4z0, eu_4⟩ : ∃ z, z = u_4 := ⟨_, rfl⟩
  subst eu_4
  have hP : va_P D vwCl [(a0, .inr (9, [.ref x0_nameHead, .ref x0_nameTail, .ref x0_nameOf, .ref x0_windows, .ref x0_koi, .int 0, .ref a1, .ref x0_tape, .int 0, .ref x0_text, .int 0, .ref x0_out, .ref x0_src, .int 0, .int 0, .int 0, .int 0, .int 0, .int 0, .int 0, .int 0, .int 0, .int 0])), (a1, .inl ((D.1 100), 20, .inl f4z0))] H := hP
  have hD : va_D A [(a0, .inr (9, [.ref x0_nameHead, .ref x0_nameTail, .ref x0_nameOf, .ref x0_windows, .ref x0_koi, .int 0, .ref a1, .ref x0_tape, .int 0, .ref x0_text, .int 0, .ref x0_out, .ref x0_src, .int 0, .int 0, .int 0, .int 0, .int 0, .int 0, .int 0, .int 0, .int 0, .int 0])), (a1, .inl ((D.1 100), 20, .inl f4z0))] := hD
  refine lv_aload_n hx hb d_MM_feed_32 rfl (lv_at hl 0 rfl) ?_
  refine lv_bipush (v := 16) hx hb d_MM_feed_33 (by decide) ?_
  refine lv_iload hx hb d_MM_feed_35 (lv_at hl 5 rfl) ?_
  refine g_Vv (As := [.int 16, .int p5]) (rest := []) (wr := []) ⟨hx, hb, hml, hown, hts⟩ (c_MM_lay_4 l D Z kI a0 a1 x0_nameHead x0_nameTail x0_nameOf x0_windows x0_koi x0_tape x0_text x0_out x0_src H.size f4z0 p5) (cw_MM_lay_4 hts k_952 ⟨Nat.le_of_ble_eq_true rfl, Nat.le_of_ble_eq_true rfl⟩) hK hZ hP hD hS hA [0, 1] [] (g_recv hK hP (ci := 9) (q0 := 0) rfl rfl) rfl rfl (by decide) (by decide) (by decide) rfl hl.1 rfl (Nat.le_of_ble_eq_true rfl) d_MM_feed_37 ⟨Nat.zero_le _, Nat.zero_le _⟩ (fun u_5 H locs hw hP hD hS => ?_)
  obtain ⟨f5z0, eu_5⟩ : ∃ z, z = u_5 := ⟨_, rfl⟩
  subst eu_5
  have hP : va_P D vwCl [(a0, .inr (9, [.ref x0_nameHead, .ref x0_nameTail, .ref x0_nameOf, .ref x0_windows, .ref x0_koi, .int 0, .ref a1, .ref x0_tape, .int 0, .ref x0_text, .int 0, .ref x0_out, .ref x0_src, .int 0, .int 0, .int 0, .int 0, .int 0, .int 0, .int 0, .int 0, .int 0, .int 0])), (a1, .inl ((D.1 100), 20, .inl f5z0))] H := hP
  have hD : va_D A [(a0, .inr (9, [.ref x0_nameHead, .ref x0_nameTail, .ref x0_nameOf, .ref x0_windows, .ref x0_koi, .int 0, .ref a1, .ref x0_tape, .int 0, .ref x0_text, .int 0, .ref x0_out, .ref x0_src, .int 0, .int 0, .int 0, .int 0, .int 0, .int 0, .int 0, .int 0, .int 0, .int 0])), (a1, .inl ((D.1 100), 20, .inl f5z0))] := hD
  exact hret f5z0 _ _ _ _ d_MM_feed_40 trivial hP hD hS
theorem cw_MM_feed_0 {R : Room} {s : State} {args : Array Value} {own : String} {idx : Nat} (hts : ∀ w ∈ gW, w.before args s = true) (hl : Cond.methodLink own idx y_MM_feed ∈ gW) (hR : rm_MM_feed_0.frames + 1 ≤ R.frames ∧ 8 + (6 + 11) + rm_MM_feed_0.locals ≤ R.locals) : CallW R s args own "MailCharactersModel" idx y_MM_feed b_MM_feed 6 none w_MM_feed rm_MM_feed_0 0 0 5 := cwV 5 hts (gW_V hl k_949 k_950 k_77 k_951) rfl rfl rfl (by decide +kernel) hR
def rm_MM_end_0 : Room := { frames := 0, cells := 0, slots := 0, locals := 0 }
set_option maxHeartbeats 4000000 in
set_option maxRecDepth 100000 in
theorem c_MM_end_0 (l : Launch) (D : va_G) (Z : gZT) (kI : ClassId) (a0 : Nat) (x0_nameHead : Nat) (x0_nameTail : Nat) (x0_nameOf : Nat) (x0_windows : Nat) (x0_koi : Nat) (x0_ready : Nat) (x0_tape : Nat) (x0_text : Nat) (x0_out : Nat) (x0_src : Nat) (sz : Nat) (p1 : Int32) (hpre0 : p1 < 0) : gMi l y_MM_end w_MM_end rm_MM_end_0 D Z kI [.ref a0, .int p1] sz [(a0, .inr (9, [.ref x0_nameHead, .ref x0_nameTail, .ref x0_nameOf, .ref x0_windows, .ref x0_koi, .int 0, .ref x0_ready, .ref x0_tape, .int 0, .ref x0_text, .int 0, .ref x0_out, .ref x0_src, .int 0, .int 0, .int 0, .int 0, .int 0, .int 0, .int 0, .int 0, .int 0, .int 0]))] (fun (r : Int32) (_u : Unit) => r = (-1)) (fun (_u : Unit) => ([(a0, .inr (9, [.ref x0_nameHead, .ref x0_nameTail, .ref x0_nameOf, .ref x0_windows, .ref x0_koi, .int 0, .ref x0_ready, .ref x0_tape, .int 0, .ref x0_text, .int 0, .ref x0_out, .ref x0_src, .int 0, .int 0, .int 0, .int 0, .int 0, .int 0, .int 0, .int 0, .int 0, .int 0]))] : va_W)) := by
  refine g_ofi (cc := b_MM_end) (maxL := 3) (ty := .int) (by decide) rfl (Nat.le_of_ble_eq_true rfl) ?_
  intro p e s m below meth c A Q H ls hx hb hml hown hts hA hK hZ hP hD hS hl hret
  have hown : s.vm.findClass "MailCharactersModel" = some m.cls := hown
  have hl : lv_has ls 3 [(0, .ref a0), (1, .int p1)] := hl
  refine lv_aload_n hx hb d_MM_end_0 rfl (lv_at hl 0 rfl) ?_
  refine lv_iconst (v := 0) hx hb d_MM_end_1 (by decide) ?_
  refine va_put (D := D) (ci := 9) (v := .int 0) (ty := .int) (C := "MailCharactersModel") (T := F_MM) (N := 23) hx hb hts i_MM t_MM t_MM_ok n_MM hown hK hP hD hS 0 rfl rfl 5 (by decide) (hts _ k_878) (fun _ h9 => h9) rfl (by decide +kernel) rfl rfl (Nat.le_of_ble_eq_true rfl) d_MM_end_2 (fun H locs hP hD hS => ?_)
  have hP : va_P D vwCl [(a0, .inr (9, [.ref x0_nameHead, .ref x0_nameTail, .ref x0_nameOf, .ref x0_windows, .ref x0_koi, .int 0, .ref x0_ready, .ref x0_tape, .int 0, .ref x0_text, .int 0, .ref x0_out, .ref x0_src, .int 0, .int 0, .int 0, .int 0, .int 0, .int 0, .int 0, .int 0, .int 0, .int 0]))] H := hP
  have hD : va_D A [(a0, .inr (9, [.ref x0_nameHead, .ref x0_nameTail, .ref x0_nameOf, .ref x0_windows, .ref x0_koi, .int 0, .ref x0_ready, .ref x0_tape, .int 0, .ref x0_text, .int 0, .ref x0_out, .ref x0_src, .int 0, .int 0, .int 0, .int 0, .int 0, .int 0, .int 0, .int 0, .int 0, .int 0]))] := hD
  refine lv_iload_n hx hb d_MM_end_5 rfl (lv_at hl 1 rfl) ?_
  refine lv_if_lt (tgt := 27) hx hb d_MM_end_6 (by decide) (fun _ => ?_) (fun h9 => absurd hpre0 h9)
  refine lv_iconst (v := (-1)) hx hb d_MM_end_27 (by decide) ?_
  exact hret (-1) () _ _ _ _ d_MM_end_28 rfl rfl hP hD hS
theorem cw_MM_end_0 {R : Room} {s : State} {args : Array Value} {own : String} {idx : Nat} (hts : ∀ w ∈ gW, w.before args s = true) (hl : Cond.methodLink own idx y_MM_end ∈ gW) (hR : rm_MM_end_0.frames + 1 ≤ R.frames ∧ 8 + (3 + 11) + rm_MM_end_0.locals ≤ R.locals) : CallW R s args own "MailCharactersModel" idx y_MM_end b_MM_end 3 (some .int) w_MM_end rm_MM_end_0 0 0 1 := cwV 1 hts (gW_V hl k_957 k_958 k_77 k_959) rfl rfl rfl (by decide +kernel) hR
def rm_MM_end_1 : Room := { frames := 0, cells := 0, slots := 0, locals := 0 }
set_option maxHeartbeats 4000000 in
set_option maxRecDepth 100000 in
theorem c_MM_end_1 (l : Launch) (D : va_G) (Z : gZT) (kI : ClassId) (a0 : Nat) (x0_nameHead : Nat) (x0_nameTail : Nat) (x0_nameOf : Nat) (x0_windows : Nat) (x0_koi : Nat) (x0_ready : Nat) (x0_tape : Nat) (x0_text : Nat) (x0_out : Nat) (x0_src : Nat) (sz : Nat) (p1 : Int32) (hpre0 : ¬ p1 < 0) (hpre1 : 20 < p1) : gMi l y_MM_end w_MM_end rm_MM_end_1 D Z kI [.ref a0, .int p1] sz [(a0, .inr (9, [.ref x0_nameHead, .ref x0_nameTail, .ref x0_nameOf, .ref x0_windows, .ref x0_koi, .int 0, .ref x0_ready, .ref x0_tape, .int 0, .ref x0_text, .int 0, .ref x0_out, .ref x0_src, .int 0, .int 0, .int 0, .int 0, .int 0, .int 0, .int 0, .int 0, .int 0, .int 0]))] (fun (r : Int32) (_u : Unit) => r = (-1)) (fun (_u : Unit) => ([(a0, .inr (9, [.ref x0_nameHead, .ref x0_nameTail, .ref x0_nameOf, .ref x0_windows, .ref x0_koi, .int 0, .ref x0_ready, .ref x0_tape, .int 0, .ref x0_text, .int 0, .ref x0_out, .ref x0_src, .int 0, .int 0, .int 0, .int 0, .int 0, .int 0, .int 0, .int 0, .int 0, .int 0]))] : va_W)) := by
  refine g_ofi (cc := b_MM_end) (maxL := 3) (ty := .int) (by decide) rfl (Nat.le_of_ble_eq_true rfl) ?_
  intro p e s m below meth c A Q H ls hx hb hml hown hts hA hK hZ hP hD hS hl hret
  have hown : s.vm.findClass "MailCharactersModel" = some m.cls := hown
  have hl : lv_has ls 3 [(0, .ref a0), (1, .int p1)] := hl
  refine lv_aload_n hx hb d_MM_end_0 rfl (lv_at hl 0 rfl) ?_
  refine lv_iconst (v := 0) hx hb d_MM_end_1 (by decide) ?_
  refine va_put (D := D) (ci := 9) (v := .int 0) (ty := .int) (C := "MailCharactersModel") (T := F_MM) (N := 23) hx hb hts i_MM t_MM t_MM_ok n_MM hown hK hP hD hS 0 rfl rfl 5 (by decide) (hts _ k_878) (fun _ h9 => h9) rfl (by decide +kernel) rfl rfl (Nat.le_of_ble_eq_true rfl) d_MM_end_2 (fun H locs hP hD hS => ?_)
  have hP : va_P D vwCl [(a0, .inr (9, [.ref x0_nameHead, .ref x0_nameTail, .ref x0_nameOf, .ref x0_windows, .ref x0_koi, .int 0, .ref x0_ready, .ref x0_tape, .int 0, .ref x0_text, .int 0, .ref x0_out, .ref x0_src, .int 0, .int 0, .int 0, .int 0, .int 0, .int 0, .int 0, .int 0, .int 0, .int 0]))] H := hP
  have hD : va_D A [(a0, .inr (9, [.ref x0_nameHead, .ref x0_nameTail, .ref x0_nameOf, .ref x0_windows, .ref x0_koi, .int 0, .ref x0_ready, .ref x0_tape, .int 0, .ref x0_text, .int 0, .ref x0_out, .ref x0_src, .int 0, .int 0, .int 0, .int 0, .int 0, .int 0, .int 0, .int 0, .int 0, .int 0]))] := hD
  refine lv_iload_n hx hb d_MM_end_5 rfl (lv_at hl 1 rfl) ?_
  refine lv_if_lt (tgt := 27) hx hb d_MM_end_6 (by decide) (fun h9 => absurd h9 hpre0) (fun _ => ?_)
  refine lv_iload_n hx hb d_MM_end_9 rfl (lv_at hl 1 rfl) ?_
  refine lv_bipush (v := 20) hx hb d_MM_end_10 (by decide) ?_
  refine lv_icmp_gt (tgt := 27) hx hb d_MM_end_12 (by decide) (fun _ => ?_) (fun h9 => absurd hpre1 h9)
  refine lv_iconst (v := (-1)) hx hb d_MM_end_27 (by decide) ?_
  exact hret (-1) () _ _ _ _ d_MM_end_28 rfl rfl hP hD hS
theorem cw_MM_end_1 {R : Room} {s : State} {args : Array Value} {own : String} {idx : Nat} (hts : ∀ w ∈ gW, w.before args s = true) (hl : Cond.methodLink own idx y_MM_end ∈ gW) (hR : rm_MM_end_1.frames + 1 ≤ R.frames ∧ 8 + (3 + 11) + rm_MM_end_1.locals ≤ R.locals) : CallW R s args own "MailCharactersModel" idx y_MM_end b_MM_end 3 (some .int) w_MM_end rm_MM_end_1 0 0 1 := cwV 1 hts (gW_V hl k_957 k_958 k_77 k_959) rfl rfl rfl (by decide +kernel) hR
def rm_MM_charsetOf_0 : Room := { frames := 0, cells := 0, slots := 0, locals := 0 }
set_option maxHeartbeats 4000000 in
set_option maxRecDepth 100000 in
theorem c_MM_charsetOf_0 (l : Launch) (D : va_G) (Z : gZT) (kI : ClassId) (a0 : Nat) (x0_nameHead : Nat) (x0_nameTail : Nat) (x0_nameOf : Nat) (x0_windows : Nat) (x0_koi : Nat) (x0_ready : Nat) (x0_tape : Nat) (x0_text : Nat) (x0_out : Nat) (x0_src : Nat) (sz : Nat) : gMi l y_MM_charsetOf w_MM_charsetOf rm_MM_charsetOf_0 D Z kI [.ref a0, .int 0, .int 0] sz [(a0, .inr (9, [.ref x0_nameHead, .ref x0_nameTail, .ref x0_nameOf, .ref x0_windows, .ref x0_koi, .int 0, .ref x0_ready, .ref x0_tape, .int 0, .ref x0_text, .int 0, .ref x0_out, .ref x0_src, .int 0, .int 0, .int 0, .int 0, .int 0, .int 0, .int 0, .int 0, .int 0, .int 0]))] (fun (r : Int32) (_u : Unit) => r = (-1)) (fun (_u : Unit) => ([(a0, .inr (9, [.ref x0_nameHead, .ref x0_nameTail, .ref x0_nameOf, .ref x0_windows, .ref x0_koi, .int 0, .ref x0_ready, .ref x0_tape, .int 0, .ref x0_text, .int 0, .ref x0_out, .ref x0_src, .int 0, .int 0, .int 0, .int 0, .int 0, .int 0, .int 0, .int 0, .int 0, .int 0]))] : va_W)) := by
  refine g_ofi (cc := b_MM_charsetOf) (maxL := 9) (ty := .int) (by decide) rfl (Nat.le_of_ble_eq_true rfl) ?_
  intro p e s m below meth c A Q H ls hx hb hml hown hts hA hK hZ hP hD hS hl hret
  have hown : s.vm.findClass "MailCharactersModel" = some m.cls := hown
  have hl : lv_has ls 9 [(0, .ref a0), (1, .int 0), (2, .int 0)] := hl
  refine lv_iload_n hx hb d_MM_charsetOf_0 rfl (lv_at hl 2 rfl) ?_
  refine lv_iload_n hx hb d_MM_charsetOf_1 rfl (lv_at hl 1 rfl) ?_
  refine lv_isub hx hb d_MM_charsetOf_2 ?_
  refine lv_topi (fun x_1 ex_1 => ?_)
  obtain rfl : x_1 = 0 := ex_1.trans (by decide)
  refine lv_bipush (v := 16) hx hb d_MM_charsetOf_3 (by decide) ?_
  refine lv_icmp_gt (tgt := 13) hx hb d_MM_charsetOf_5 (by decide) (fun h9 => absurd h9 (by decide +kernel)) (fun _ => ?_)
  refine lv_iload_n hx hb d_MM_charsetOf_8 rfl (lv_at hl 2 rfl) ?_
  refine lv_iload_n hx hb d_MM_charsetOf_9 rfl (lv_at hl 1 rfl) ?_
  refine lv_icmp_ne (tgt := 15) hx hb d_MM_charsetOf_10 (by decide) (fun h9 => absurd h9 (by decide +kernel)) (fun _ => ?_)
  refine lv_iconst (v := (-1)) hx hb d_MM_charsetOf_13 (by decide) ?_
  exact hret (-1) () _ _ _ _ d_MM_charsetOf_14 rfl rfl hP hD hS
theorem cw_MM_charsetOf_0 {R : Room} {s : State} {args : Array Value} {own : String} {idx : Nat} (hts : ∀ w ∈ gW, w.before args s = true) (hl : Cond.methodLink own idx y_MM_charsetOf ∈ gW) (hR : rm_MM_charsetOf_0.frames + 1 ≤ R.frames ∧ 8 + (9 + 11) + rm_MM_charsetOf_0.locals ≤ R.locals) : CallW R s args own "MailCharactersModel" idx y_MM_charsetOf b_MM_charsetOf 9 (some .int) w_MM_charsetOf rm_MM_charsetOf_0 0 0 2 := cwV 2 hts (gW_V hl k_966 k_25 k_77 k_967) rfl rfl rfl (by decide +kernel) hR
def rm_MM_charset_0 : Room := { frames := 1, cells := 0, slots := 0, locals := 28 }
set_option maxHeartbeats 4000000 in
set_option maxRecDepth 100000 in
theorem c_MM_charset_0 (l : Launch) (D : va_G) (Z : gZT) (kI : ClassId) (a0 : Nat) (x0_nameHead : Nat) (x0_nameTail : Nat) (x0_nameOf : Nat) (x0_windows : Nat) (x0_koi : Nat) (x0_ready : Nat) (x0_tape : Nat) (x0_text : Nat) (x0_out : Nat) (x0_src : Nat) (sz : Nat) : gMi l y_MM_charset w_MM_charset rm_MM_charset_0 D Z kI [.ref a0] sz [(a0, .inr (9, [.ref x0_nameHead, .ref x0_nameTail, .ref x0_nameOf, .ref x0_windows, .ref x0_koi, .int 0, .ref x0_ready, .ref x0_tape, .int 0, .ref x0_text, .int 0, .ref x0_out, .ref x0_src, .int 0, .int 0, .int 0, .int 0, .int 0, .int 0, .int 0, .int 0, .int 0, .int 0]))] (fun (r : Int32) (_u : Unit) => r = (-1)) (fun (_u : Unit) => ([(a0, .inr (9, [.ref x0_nameHead, .ref x0_nameTail, .ref x0_nameOf, .ref x0_windows, .ref x0_koi, .int 0, .ref x0_ready, .ref x0_tape, .int 0, .ref x0_text, .int 0, .ref x0_out, .ref x0_src, .int 0, .int 0, .int 0, .int 0, .int 0, .int 0, .int 0, .int 0, .int 0, .int 0]))] : va_W)) := by
  refine g_ofi (cc := b_MM_charset) (maxL := 2) (ty := .int) (by decide) rfl (Nat.le_of_ble_eq_true rfl) ?_
  intro p e s m below meth c A Q H ls hx hb hml hown hts hA hK hZ hP hD hS hl hret
  have hown : s.vm.findClass "MailCharactersModel" = some m.cls := hown
  have hl : lv_has ls 2 [(0, .ref a0)] := hl
  refine lv_aload_n hx hb d_MM_charset_0 rfl (lv_at hl 0 rfl) ?_
  refine lv_iconst (v := 0) hx hb d_MM_charset_1 (by decide) ?_
  refine va_put (D := D) (ci := 9) (v := .int 0) (ty := .int) (C := "MailCharactersModel") (T := F_MM) (N := 23) hx hb hts i_MM t_MM t_MM_ok n_MM hown hK hP hD hS 0 rfl rfl 5 (by decide) (hts _ k_878) (fun _ h9 => h9) rfl (by decide +kernel) rfl rfl (Nat.le_of_ble_eq_true rfl) d_MM_charset_2 (fun H locs hP hD hS => ?_)
  have hP : va_P D vwCl [(a0, .inr (9, [.ref x0_nameHead, .ref x0_nameTail, .ref x0_nameOf, .ref x0_windows, .ref x0_koi, .int 0, .ref x0_ready, .ref x0_tape, .int 0, .ref x0_text, .int 0, .ref x0_out, .ref x0_src, .int 0, .int 0, .int 0, .int 0, .int 0, .int 0, .int 0, .int 0, .int 0, .int 0]))] H := hP
  have hD : va_D A [(a0, .inr (9, [.ref x0_nameHead, .ref x0_nameTail, .ref x0_nameOf, .ref x0_windows, .ref x0_koi, .int 0, .ref x0_ready, .ref x0_tape, .int 0, .ref x0_text, .int 0, .ref x0_out, .ref x0_src, .int 0, .int 0, .int 0, .int 0, .int 0, .int 0, .int 0, .int 0, .int 0, .int 0]))] := hD
  refine lv_aload_n hx hb d_MM_charset_5 rfl (lv_at hl 0 rfl) ?_
  refine lv_iconst (v := 0) hx hb d_MM_charset_6 (by decide) ?_
  refine lv_aload_n hx hb d_MM_charset_7 rfl (lv_at hl 0 rfl) ?_
  refine va_get (D := D) (ci := 9) (v := .int 0) (C := "MailCharactersModel") (T := F_MM) (N := 23) hx hb hts i_MM hown hK hP 0 rfl rfl 8 (by decide) (hts _ k_881) (fun _ h9 => h9) rfl d_MM_charset_8 ?_
  refine g_Vi (As := [.int 0, .int 0]) (rest := []) (wr := []) ⟨hx, hb, hml, hown, hts⟩ (c_MM_charsetOf_0 l D Z kI a0 x0_nameHead x0_nameTail x0_nameOf x0_windows x0_koi x0_ready x0_tape x0_text x0_out x0_src H.size) (cw_MM_charsetOf_0 hts k_964 ⟨Nat.le_of_ble_eq_true rfl, Nat.le_of_ble_eq_true rfl⟩) hK hZ hP hD hS hA [0] [] (g_recv hK hP (ci := 9) (q0 := 0) rfl rfl) rfl rfl (by decide) (by decide) (by decide) rfl hl.1 rfl (Nat.le_of_ble_eq_true rfl) d_MM_charset_11 ⟨Nat.zero_le _, Nat.zero_le _⟩ (fun r_1 u_1 H locs hw hP hD hS => ?_)
  obtain rfl : r_1 = (-1) := hw
  have hP : va_P D vwCl [(a0, .inr (9, [.ref x0_nameHead, .ref x0_nameTail, .ref x0_nameOf, .ref x0_windows, .ref x0_koi, .int 0, .ref x0_ready, .ref x0_tape, .int 0, .ref x0_text, .int 0, .ref x0_out, .ref x0_src, .int 0, .int 0, .int 0, .int 0, .int 0, .int 0, .int 0, .int 0, .int 0, .int 0]))] H := hP
  have hD : va_D A [(a0, .inr (9, [.ref x0_nameHead, .ref x0_nameTail, .ref x0_nameOf, .ref x0_windows, .ref x0_koi, .int 0, .ref x0_ready, .ref x0_tape, .int 0, .ref x0_text, .int 0, .ref x0_out, .ref x0_src, .int 0, .int 0, .int 0, .int 0, .int 0, .int 0, .int 0, .int 0, .int 0, .int 0]))] := hD
  refine lv_istore_n (lv' := [(1, .int (-1)), (0, .ref a0)]) hx hb d_MM_charset_14 rfl hl (by decide) rfl (fun ls hl => ?_)
  refine lv_aload_n hx hb d_MM_charset_15 rfl (lv_at hl 1 rfl) ?_
  refine lv_iconst (v := 0) hx hb d_MM_charset_16 (by decide) ?_
  refine va_put (D := D) (ci := 9) (v := .int 0) (ty := .int) (C := "MailCharactersModel") (T := F_MM) (N := 23) hx hb hts i_MM t_MM t_MM_ok n_MM hown hK hP hD hS 0 rfl rfl 8 (by decide) (hts _ k_881) (fun _ h9 => h9) rfl (by decide +kernel) rfl rfl (Nat.le_of_ble_eq_true rfl) d_MM_charset_17 (fun H locs hP hD hS => ?_)
  have hP : va_P D vwCl [(a0, .inr (9, [.ref x0_nameHead, .ref x0_nameTail, .ref x0_nameOf, .ref x0_windows, .ref x0_koi, .int 0, .ref x0_ready, .ref x0_tape, .int 0, .ref x0_text, .int 0, .ref x0_out, .ref x0_src, .int 0, .int 0, .int 0, .int 0, .int 0, .int 0, .int 0, .int 0, .int 0, .int 0]))] H := hP
  have hD : va_D A [(a0, .inr (9, [.ref x0_nameHead, .ref x0_nameTail, .ref x0_nameOf, .ref x0_windows, .ref x0_koi, .int 0, .ref x0_ready, .ref x0_tape, .int 0, .ref x0_text, .int 0, .ref x0_out, .ref x0_src, .int 0, .int 0, .int 0, .int 0, .int 0, .int 0, .int 0, .int 0, .int 0, .int 0]))] := hD
  refine lv_iload_n hx hb d_MM_charset_20 rfl (lv_at hl 0 rfl) ?_
  exact hret (-1) () _ _ _ _ d_MM_charset_21 rfl rfl hP hD hS
theorem cw_MM_charset_0 {R : Room} {s : State} {args : Array Value} {own : String} {idx : Nat} (hts : ∀ w ∈ gW, w.before args s = true) (hl : Cond.methodLink own idx y_MM_charset ∈ gW) (hR : rm_MM_charset_0.frames + 1 ≤ R.frames ∧ 8 + (2 + 11) + rm_MM_charset_0.locals ≤ R.locals) : CallW R s args own "MailCharactersModel" idx y_MM_charset b_MM_charset 2 (some .int) w_MM_charset rm_MM_charset_0 0 0 0 := cwV 0 hts (gW_V hl k_961 k_962 k_77 k_963) rfl rfl rfl (by decide +kernel) hR
def rm_MM_uncode_0 : Room := { frames := 0, cells := 0, slots := 0, locals := 0 }
set_option maxHeartbeats 4000000 in
set_option maxRecDepth 100000 in
theorem c_MM_uncode_0 (l : Launch) (D : va_G) (Z : gZT) (kI : ClassId) (a0 : Nat) (x0_nameHead : Nat) (x0_nameTail : Nat) (x0_nameOf : Nat) (x0_windows : Nat) (x0_koi : Nat) (x0_ready : Nat) (x0_tape : Nat) (x0_text : Nat) (x0_out : Nat) (x0_src : Nat) (sz : Nat) : gMi l y_MM_uncode w_MM_uncode rm_MM_uncode_0 D Z kI [.ref a0, .int 0] sz [(a0, .inr (9, [.ref x0_nameHead, .ref x0_nameTail, .ref x0_nameOf, .ref x0_windows, .ref x0_koi, .int 0, .ref x0_ready, .ref x0_tape, .int 0, .ref x0_text, .int 0, .ref x0_out, .ref x0_src, .int 0, .int 0, .int 0, .int 0, .int 0, .int 0, .int 0, .int 0, .int 0, .int 0]))] (fun (r : Int32) (_u : Unit) => r = 0) (fun (_u : Unit) => ([(a0, .inr (9, [.ref x0_nameHead, .ref x0_nameTail, .ref x0_nameOf, .ref x0_windows, .ref x0_koi, .int 0, .ref x0_ready, .ref x0_tape, .int 0, .ref x0_text, .int 0, .ref x0_out, .ref x0_src, .int 0, .int 0, .int 0, .int 0, .int 0, .int 0, .int 0, .int 0, .int 0, .int 0]))] : va_W)) := by
  refine g_ofi (cc := b_MM_uncode) (maxL := 2) (ty := .int) (by decide) rfl (Nat.le_of_ble_eq_true rfl) ?_
  intro p e s m below meth c A Q H ls hx hb hml hown hts hA hK hZ hP hD hS hl hret
  have hown : s.vm.findClass "MailCharactersModel" = some m.cls := hown
  have hl : lv_has ls 2 [(0, .ref a0), (1, .int 0)] := hl
  refine lv_aload_n hx hb d_MM_uncode_0 rfl (lv_at hl 0 rfl) ?_
  refine lv_iload_n hx hb d_MM_uncode_1 rfl (lv_at hl 1 rfl) ?_
  refine lv_if_lt (tgt := 10) hx hb d_MM_uncode_2 (by decide) (fun h9 => absurd h9 (by decide +kernel)) (fun _ => ?_)
  refine lv_iload_n hx hb d_MM_uncode_5 rfl (lv_at hl 1 rfl) ?_
  refine lv_iconst (v := 3) hx hb d_MM_uncode_6 (by decide) ?_
  refine lv_icmp_le (tgt := 14) hx hb d_MM_uncode_7 (by decide) (fun _ => ?_) (fun h9 => absurd h9 (by decide +kernel))
  refine lv_iconst (v := 0) hx hb d_MM_uncode_14 (by decide) ?_
  refine va_put (D := D) (ci := 9) (v := .int 0) (ty := .int) (C := "MailCharactersModel") (T := F_MM) (N := 23) hx hb hts i_MM t_MM t_MM_ok n_MM hown hK hP hD hS 0 rfl rfl 5 (by decide) (hts _ k_878) (fun _ h9 => h9) rfl (by decide +kernel) rfl rfl (Nat.le_of_ble_eq_true rfl) d_MM_uncode_15 (fun H locs hP hD hS => ?_)
  have hP : va_P D vwCl [(a0, .inr (9, [.ref x0_nameHead, .ref x0_nameTail, .ref x0_nameOf, .ref x0_windows, .ref x0_koi, .int 0, .ref x0_ready, .ref x0_tape, .int 0, .ref x0_text, .int 0, .ref x0_out, .ref x0_src, .int 0, .int 0, .int 0, .int 0, .int 0, .int 0, .int 0, .int 0, .int 0, .int 0]))] H := hP
  have hD : va_D A [(a0, .inr (9, [.ref x0_nameHead, .ref x0_nameTail, .ref x0_nameOf, .ref x0_windows, .ref x0_koi, .int 0, .ref x0_ready, .ref x0_tape, .int 0, .ref x0_text, .int 0, .ref x0_out, .ref x0_src, .int 0, .int 0, .int 0, .int 0, .int 0, .int 0, .int 0, .int 0, .int 0, .int 0]))] := hD
  refine lv_aload_n hx hb d_MM_uncode_18 rfl (lv_at hl 0 rfl) ?_
  refine va_get (D := D) (ci := 9) (v := .int 0) (C := "MailCharactersModel") (T := F_MM) (N := 23) hx hb hts i_MM hown hK hP 0 rfl rfl 5 (by decide) (hts _ k_878) (fun _ h9 => h9) rfl d_MM_uncode_19 ?_
  refine lv_if_le (tgt := 27) hx hb d_MM_uncode_22 (by decide) (fun _ => ?_) (fun h9 => absurd h9 (by decide +kernel))
  refine lv_aload_n hx hb d_MM_uncode_27 rfl (lv_at hl 0 rfl) ?_
  refine lv_iconst (v := 0) hx hb d_MM_uncode_28 (by decide) ?_
  refine va_put (D := D) (ci := 9) (v := .int 0) (ty := .int) (C := "MailCharactersModel") (T := F_MM) (N := 23) hx hb hts i_MM t_MM t_MM_ok n_MM hown hK hP hD hS 0 rfl rfl 13 (by decide) (hts _ k_886) (fun _ h9 => h9) rfl (by decide +kernel) rfl rfl (Nat.le_of_ble_eq_true rfl) d_MM_uncode_29 (fun H locs hP hD hS => ?_)
  have hP : va_P D vwCl [(a0, .inr (9, [.ref x0_nameHead, .ref x0_nameTail, .ref x0_nameOf, .ref x0_windows, .ref x0_koi, .int 0, .ref x0_ready, .ref x0_tape, .int 0, .ref x0_text, .int 0, .ref x0_out, .ref x0_src, .int 0, .int 0, .int 0, .int 0, .int 0, .int 0, .int 0, .int 0, .int 0, .int 0]))] H := hP
  have hD : va_D A [(a0, .inr (9, [.ref x0_nameHead, .ref x0_nameTail, .ref x0_nameOf, .ref x0_windows, .ref x0_koi, .int 0, .ref x0_ready, .ref x0_tape, .int 0, .ref x0_text, .int 0, .ref x0_out, .ref x0_src, .int 0, .int 0, .int 0, .int 0, .int 0, .int 0, .int 0, .int 0, .int 0, .int 0]))] := hD
  refine lv_iload_n hx hb d_MM_uncode_32 rfl (lv_at hl 1 rfl) ?_
  refine lv_iconst (v := 1) hx hb d_MM_uncode_33 (by decide) ?_
  refine lv_icmp_ne (tgt := 49) hx hb d_MM_uncode_34 (by decide) (fun _ => ?_) (fun h9 => absurd h9 (by decide +kernel))
  refine lv_iload_n hx hb d_MM_uncode_49 rfl (lv_at hl 1 rfl) ?_
  refine lv_iconst (v := 2) hx hb d_MM_uncode_50 (by decide) ?_
  refine lv_icmp_ne (tgt := 61) hx hb d_MM_uncode_51 (by decide) (fun _ => ?_) (fun h9 => absurd h9 (by decide +kernel))
  refine lv_iload_n hx hb d_MM_uncode_61 rfl (lv_at hl 1 rfl) ?_
  refine lv_iconst (v := 3) hx hb d_MM_uncode_62 (by decide) ?_
  refine lv_icmp_ne (tgt := 70) hx hb d_MM_uncode_63 (by decide) (fun _ => ?_) (fun h9 => absurd h9 (by decide +kernel))
  refine lv_iload_n hx hb d_MM_uncode_70 rfl (lv_at hl 1 rfl) ?_
  refine lv_if_le (tgt := 78) hx hb d_MM_uncode_71 (by decide) (fun _ => ?_) (fun h9 => absurd h9 (by decide +kernel))
  refine lv_aload_n hx hb d_MM_uncode_78 rfl (lv_at hl 0 rfl) ?_
  refine va_get (D := D) (ci := 9) (v := .int 0) (C := "MailCharactersModel") (T := F_MM) (N := 23) hx hb hts i_MM hown hK hP 0 rfl rfl 8 (by decide) (hts _ k_881) (fun _ h9 => h9) rfl d_MM_uncode_79 ?_
  exact hret 0 () _ _ _ _ d_MM_uncode_82 rfl rfl hP hD hS
theorem cw_MM_uncode_0 {R : Room} {s : State} {args : Array Value} {own : String} {idx : Nat} (hts : ∀ w ∈ gW, w.before args s = true) (hl : Cond.methodLink own idx y_MM_uncode ∈ gW) (hR : rm_MM_uncode_0.frames + 1 ≤ R.frames ∧ 8 + (2 + 11) + rm_MM_uncode_0.locals ≤ R.locals) : CallW R s args own "MailCharactersModel" idx y_MM_uncode b_MM_uncode 2 (some .int) w_MM_uncode rm_MM_uncode_0 0 0 1 := cwV 1 hts (gW_V hl k_969 k_970 k_77 k_971) rfl rfl rfl (by decide +kernel) hR
def rm_MM_unbase_0 : Room := { frames := 0, cells := 0, slots := 0, locals := 0 }
set_option maxHeartbeats 4000000 in
set_option maxRecDepth 100000 in
theorem c_MM_unbase_0 (l : Launch) (D : va_G) (Z : gZT) (kI : ClassId) (a0 : Nat) (x0_nameHead : Nat) (x0_nameTail : Nat) (x0_nameOf : Nat) (x0_windows : Nat) (x0_koi : Nat) (x0_ready : Nat) (x0_tape : Nat) (x0_text : Nat) (x0_out : Nat) (x0_src : Nat) (sz : Nat) : gMv l y_MM_unbase w_MM_unbase rm_MM_unbase_0 D Z kI [.ref a0, .int 0, .int 0] sz [(a0, .inr (9, [.ref x0_nameHead, .ref x0_nameTail, .ref x0_nameOf, .ref x0_windows, .ref x0_koi, .int 0, .ref x0_ready, .ref x0_tape, .int 0, .ref x0_text, .int 0, .ref x0_out, .ref x0_src, .int 0, .int 0, .int 0, .int 0, .int 0, .int 0, .int 0, .int 0, .int 0, .int 0]))] (fun (_u : Unit) => True) (fun (_u : Unit) => ([(a0, .inr (9, [.ref x0_nameHead, .ref x0_nameTail, .ref x0_nameOf, .ref x0_windows, .ref x0_koi, .int 0, .ref x0_ready, .ref x0_tape, .int 0, .ref x0_text, .int 0, .ref x0_out, .ref x0_src, .int 0, .int 0, .int 0, .int 0, .int 0, .int 0, .int 0, .int 0, .int 0, .int 0]))] : va_W)) := by
  refine g_ofv (cc := b_MM_unbase) (maxL := 5) (by decide) rfl (Nat.le_of_ble_eq_true rfl) ?_
  intro p e s m below meth c A Q H ls hx hb hml hown hts hA hK hZ hP hD hS hl hret
  have hown : s.vm.findClass "MailCharactersModel" = some m.cls := hown
  have hl : lv_has ls 5 [(0, .ref a0), (1, .int 0), (2, .int 0)] := hl
  refine lv_aload_n hx hb d_MM_unbase_0 rfl (lv_at hl 0 rfl) ?_
  refine lv_iconst (v := 0) hx hb d_MM_unbase_1 (by decide) ?_
  refine va_put (D := D) (ci := 9) (v := .int 0) (ty := .int) (C := "MailCharactersModel") (T := F_MM) (N := 23) hx hb hts i_MM t_MM t_MM_ok n_MM hown hK hP hD hS 0 rfl rfl 16 (by decide) (hts _ k_889) (fun _ h9 => h9) rfl (by decide +kernel) rfl rfl (Nat.le_of_ble_eq_true rfl) d_MM_unbase_2 (fun H locs hP hD hS => ?_)
  have hP : va_P D vwCl [(a0, .inr (9, [.ref x0_nameHead, .ref x0_nameTail, .ref x0_nameOf, .ref x0_windows, .ref x0_koi, .int 0, .ref x0_ready, .ref x0_tape, .int 0, .ref x0_text, .int 0, .ref x0_out, .ref x0_src, .int 0, .int 0, .int 0, .int 0, .int 0, .int 0, .int 0, .int 0, .int 0, .int 0]))] H := hP
  have hD : va_D A [(a0, .inr (9, [.ref x0_nameHead, .ref x0_nameTail, .ref x0_nameOf, .ref x0_windows, .ref x0_koi, .int 0, .ref x0_ready, .ref x0_tape, .int 0, .ref x0_text, .int 0, .ref x0_out, .ref x0_src, .int 0, .int 0, .int 0, .int 0, .int 0, .int 0, .int 0, .int 0, .int 0, .int 0]))] := hD
  refine lv_aload_n hx hb d_MM_unbase_5 rfl (lv_at hl 0 rfl) ?_
  refine lv_iconst (v := 0) hx hb d_MM_unbase_6 (by decide) ?_
  refine va_put (D := D) (ci := 9) (v := .int 0) (ty := .int) (C := "MailCharactersModel") (T := F_MM) (N := 23) hx hb hts i_MM t_MM t_MM_ok n_MM hown hK hP hD hS 0 rfl rfl 17 (by decide) (hts _ k_890) (fun _ h9 => h9) rfl (by decide +kernel) rfl rfl (Nat.le_of_ble_eq_true rfl) d_MM_unbase_7 (fun H locs hP hD hS => ?_)
  have hP : va_P D vwCl [(a0, .inr (9, [.ref x0_nameHead, .ref x0_nameTail, .ref x0_nameOf, .ref x0_windows, .ref x0_koi, .int 0, .ref x0_ready, .ref x0_tape, .int 0, .ref x0_text, .int 0, .ref x0_out, .ref x0_src, .int 0, .int 0, .int 0, .int 0, .int 0, .int 0, .int 0, .int 0, .int 0, .int 0]))] H := hP
  have hD : va_D A [(a0, .inr (9, [.ref x0_nameHead, .ref x0_nameTail, .ref x0_nameOf, .ref x0_windows, .ref x0_koi, .int 0, .ref x0_ready, .ref x0_tape, .int 0, .ref x0_text, .int 0, .ref x0_out, .ref x0_src, .int 0, .int 0, .int 0, .int 0, .int 0, .int 0, .int 0, .int 0, .int 0, .int 0]))] := hD
  refine lv_iload_n hx hb d_MM_unbase_10 rfl (lv_at hl 1 rfl) ?_
  refine lv_istore_n (lv' := [(3, .int 0), (0, .ref a0), (1, .int 0), (2, .int 0)]) hx hb d_MM_unbase_11 rfl hl (by decide) rfl (fun ls hl => ?_)
  refine lv_iload_n hx hb d_MM_unbase_12 rfl (lv_at hl 0 rfl) ?_
  refine lv_iload_n hx hb d_MM_unbase_13 rfl (lv_at hl 3 rfl) ?_
  refine lv_icmp_ge (tgt := 112) hx hb d_MM_unbase_14 (by decide) (fun _ => ?_) (fun h9 => absurd h9 (by decide +kernel))
  exact hret () _ _ _ _ d_MM_unbase_112 trivial hP hD hS
theorem cw_MM_unbase_0 {R : Room} {s : State} {args : Array Value} {own : String} {idx : Nat} (hts : ∀ w ∈ gW, w.before args s = true) (hl : Cond.methodLink own idx y_MM_unbase ∈ gW) (hR : rm_MM_unbase_0.frames + 1 ≤ R.frames ∧ 8 + (5 + 11) + rm_MM_unbase_0.locals ≤ R.locals) : CallW R s args own "MailCharactersModel" idx y_MM_unbase b_MM_unbase 5 none w_MM_unbase rm_MM_unbase_0 0 0 2 := cwV 2 hts (gW_V hl k_974 k_26 k_77 k_975) rfl rfl rfl (by decide +kernel) hR
def rm_MM_outToTape_0 : Room := { frames := 0, cells := 0, slots := 0, locals := 0 }
set_option maxHeartbeats 4000000 in
set_option maxRecDepth 100000 in
theorem c_MM_outToTape_0 (l : Launch) (D : va_G) (Z : gZT) (kI : ClassId) (a0 : Nat) (x0_nameHead : Nat) (x0_nameTail : Nat) (x0_nameOf : Nat) (x0_windows : Nat) (x0_koi : Nat) (x0_ready : Nat) (x0_tape : Nat) (x0_text : Nat) (x0_out : Nat) (x0_src : Nat) (sz : Nat) : gMv l y_MM_outToTape w_MM_outToTape rm_MM_outToTape_0 D Z kI [.ref a0] sz [(a0, .inr (9, [.ref x0_nameHead, .ref x0_nameTail, .ref x0_nameOf, .ref x0_windows, .ref x0_koi, .int 0, .ref x0_ready, .ref x0_tape, .int 0, .ref x0_text, .int 0, .ref x0_out, .ref x0_src, .int 0, .int 0, .int 0, .int 0, .int 0, .int 0, .int 0, .int 0, .int 0, .int 0]))] (fun (_u : Unit) => True) (fun (_u : Unit) => ([(a0, .inr (9, [.ref x0_nameHead, .ref x0_nameTail, .ref x0_nameOf, .ref x0_windows, .ref x0_koi, .int 0, .ref x0_ready, .ref x0_tape, .int 0, .ref x0_text, .int 0, .ref x0_out, .ref x0_src, .int 0, .int 0, .int 0, .int 0, .int 0, .int 0, .int 0, .int 0, .int 0, .int 0]))] : va_W)) := by
  refine g_ofv (cc := b_MM_outToTape) (maxL := 2) (by decide) rfl (Nat.le_of_ble_eq_true rfl) ?_
  intro p e s m below meth c A Q H ls hx hb hml hown hts hA hK hZ hP hD hS hl hret
  have hown : s.vm.findClass "MailCharactersModel" = some m.cls := hown
  have hl : lv_has ls 2 [(0, .ref a0)] := hl
  refine lv_aload_n hx hb d_MM_outToTape_0 rfl (lv_at hl 0 rfl) ?_
  refine lv_aload_n hx hb d_MM_outToTape_1 rfl (lv_at hl 0 rfl) ?_
  refine va_get (D := D) (ci := 9) (v := .int 0) (C := "MailCharactersModel") (T := F_MM) (N := 23) hx hb hts i_MM hown hK hP 0 rfl rfl 13 (by decide) (hts _ k_886) (fun _ h9 => h9) rfl d_MM_outToTape_2 ?_
  refine lv_sipush (v := 1500) hx hb d_MM_outToTape_5 (by decide) ?_
  refine lv_icmp_ge (tgt := 18) hx hb d_MM_outToTape_8 (by decide) (fun h9 => absurd h9 (by decide +kernel)) (fun _ => ?_)
  refine lv_aload_n hx hb d_MM_outToTape_11 rfl (lv_at hl 0 rfl) ?_
  refine va_get (D := D) (ci := 9) (v := .int 0) (C := "MailCharactersModel") (T := F_MM) (N := 23) hx hb hts i_MM hown hK hP 0 rfl rfl 13 (by decide) (hts _ k_886) (fun _ h9 => h9) rfl d_MM_outToTape_12 ?_
  refine lv_goto (tgt := 21) hx hb d_MM_outToTape_15 (by decide) ?_
  refine va_put (D := D) (ci := 9) (v := .int 0) (ty := .int) (C := "MailCharactersModel") (T := F_MM) (N := 23) hx hb hts i_MM t_MM t_MM_ok n_MM hown hK hP hD hS 0 rfl rfl 8 (by decide) (hts _ k_881) (fun _ h9 => h9) rfl (by decide +kernel) rfl rfl (Nat.le_of_ble_eq_true rfl) d_MM_outToTape_21 (fun H locs hP hD hS => ?_)
  have hP : va_P D vwCl [(a0, .inr (9, [.ref x0_nameHead, .ref x0_nameTail, .ref x0_nameOf, .ref x0_windows, .ref x0_koi, .int 0, .ref x0_ready, .ref x0_tape, .int 0, .ref x0_text, .int 0, .ref x0_out, .ref x0_src, .int 0, .int 0, .int 0, .int 0, .int 0, .int 0, .int 0, .int 0, .int 0, .int 0]))] H := hP
  have hD : va_D A [(a0, .inr (9, [.ref x0_nameHead, .ref x0_nameTail, .ref x0_nameOf, .ref x0_windows, .ref x0_koi, .int 0, .ref x0_ready, .ref x0_tape, .int 0, .ref x0_text, .int 0, .ref x0_out, .ref x0_src, .int 0, .int 0, .int 0, .int 0, .int 0, .int 0, .int 0, .int 0, .int 0, .int 0]))] := hD
  refine lv_iconst (v := 0) hx hb d_MM_outToTape_24 (by decide) ?_
  refine lv_istore_n (lv' := [(1, .int 0), (0, .ref a0)]) hx hb d_MM_outToTape_25 rfl hl (by decide) rfl (fun ls hl => ?_)
  refine lv_iload_n hx hb d_MM_outToTape_26 rfl (lv_at hl 0 rfl) ?_
  refine lv_aload_n hx hb d_MM_outToTape_27 rfl (lv_at hl 1 rfl) ?_
  refine va_get (D := D) (ci := 9) (v := .int 0) (C := "MailCharactersModel") (T := F_MM) (N := 23) hx hb hts i_MM hown hK hP 0 rfl rfl 8 (by decide) (hts _ k_881) (fun _ h9 => h9) rfl d_MM_outToTape_28 ?_
  refine lv_icmp_ge (tgt := 52) hx hb d_MM_outToTape_31 (by decide) (fun _ => ?_) (fun h9 => absurd h9 (by decide +kernel))
  exact hret () _ _ _ _ d_MM_outToTape_52 trivial hP hD hS
theorem cw_MM_outToTape_0 {R : Room} {s : State} {args : Array Value} {own : String} {idx : Nat} (hts : ∀ w ∈ gW, w.before args s = true) (hl : Cond.methodLink own idx y_MM_outToTape ∈ gW) (hR : rm_MM_outToTape_0.frames + 1 ≤ R.frames ∧ 8 + (2 + 11) + rm_MM_outToTape_0.locals ≤ R.locals) : CallW R s args own "MailCharactersModel" idx y_MM_outToTape b_MM_outToTape 2 none w_MM_outToTape rm_MM_outToTape_0 0 0 0 := cwV 0 hts (gW_V hl k_1025 k_37 k_77 k_1026) rfl rfl rfl (by decide +kernel) hR
def rm_MM_uncode_1 : Room := { frames := 1, cells := 0, slots := 0, locals := 24 }
set_option maxHeartbeats 4000000 in
set_option maxRecDepth 100000 in
theorem c_MM_uncode_1 (l : Launch) (D : va_G) (Z : gZT) (kI : ClassId) (a0 : Nat) (x0_nameHead : Nat) (x0_nameTail : Nat) (x0_nameOf : Nat) (x0_windows : Nat) (x0_koi : Nat) (x0_ready : Nat) (x0_tape : Nat) (x0_text : Nat) (x0_out : Nat) (x0_src : Nat) (sz : Nat) : gMi l y_MM_uncode w_MM_uncode rm_MM_uncode_1 D Z kI [.ref a0, .int 1] sz [(a0, .inr (9, [.ref x0_nameHead, .ref x0_nameTail, .ref x0_nameOf, .ref x0_windows, .ref x0_koi, .int 0, .ref x0_ready, .ref x0_tape, .int 0, .ref x0_text, .int 0, .ref x0_out, .ref x0_src, .int 0, .int 0, .int 0, .int 0, .int 0, .int 0, .int 0, .int 0, .int 0, .int 0]))] (fun (r : Int32) (_u : Unit) => r = 0) (fun (_u : Unit) => ([(a0, .inr (9, [.ref x0_nameHead, .ref x0_nameTail, .ref x0_nameOf, .ref x0_windows, .ref x0_koi, .int 0, .ref x0_ready, .ref x0_tape, .int 0, .ref x0_text, .int 0, .ref x0_out, .ref x0_src, .int 0, .int 0, .int 0, .int 0, .int 0, .int 0, .int 0, .int 0, .int 0, .int 0]))] : va_W)) := by
  refine g_ofi (cc := b_MM_uncode) (maxL := 2) (ty := .int) (by decide) rfl (Nat.le_of_ble_eq_true rfl) ?_
  intro p e s m below meth c A Q H ls hx hb hml hown hts hA hK hZ hP hD hS hl hret
  have hown : s.vm.findClass "MailCharactersModel" = some m.cls := hown
  have hl : lv_has ls 2 [(0, .ref a0), (1, .int 1)] := hl
  refine lv_aload_n hx hb d_MM_uncode_0 rfl (lv_at hl 0 rfl) ?_
  refine lv_iload_n hx hb d_MM_uncode_1 rfl (lv_at hl 1 rfl) ?_
  refine lv_if_lt (tgt := 10) hx hb d_MM_uncode_2 (by decide) (fun h9 => absurd h9 (by decide +kernel)) (fun _ => ?_)
  refine lv_iload_n hx hb d_MM_uncode_5 rfl (lv_at hl 1 rfl) ?_
  refine lv_iconst (v := 3) hx hb d_MM_uncode_6 (by decide) ?_
  refine lv_icmp_le (tgt := 14) hx hb d_MM_uncode_7 (by decide) (fun _ => ?_) (fun h9 => absurd h9 (by decide +kernel))
  refine lv_iconst (v := 0) hx hb d_MM_uncode_14 (by decide) ?_
  refine va_put (D := D) (ci := 9) (v := .int 0) (ty := .int) (C := "MailCharactersModel") (T := F_MM) (N := 23) hx hb hts i_MM t_MM t_MM_ok n_MM hown hK hP hD hS 0 rfl rfl 5 (by decide) (hts _ k_878) (fun _ h9 => h9) rfl (by decide +kernel) rfl rfl (Nat.le_of_ble_eq_true rfl) d_MM_uncode_15 (fun H locs hP hD hS => ?_)
  have hP : va_P D vwCl [(a0, .inr (9, [.ref x0_nameHead, .ref x0_nameTail, .ref x0_nameOf, .ref x0_windows, .ref x0_koi, .int 0, .ref x0_ready, .ref x0_tape, .int 0, .ref x0_text, .int 0, .ref x0_out, .ref x0_src, .int 0, .int 0, .int 0, .int 0, .int 0, .int 0, .int 0, .int 0, .int 0, .int 0]))] H := hP
  have hD : va_D A [(a0, .inr (9, [.ref x0_nameHead, .ref x0_nameTail, .ref x0_nameOf, .ref x0_windows, .ref x0_koi, .int 0, .ref x0_ready, .ref x0_tape, .int 0, .ref x0_text, .int 0, .ref x0_out, .ref x0_src, .int 0, .int 0, .int 0, .int 0, .int 0, .int 0, .int 0, .int 0, .int 0, .int 0]))] := hD
  refine lv_aload_n hx hb d_MM_uncode_18 rfl (lv_at hl 0 rfl) ?_
  refine va_get (D := D) (ci := 9) (v := .int 0) (C := "MailCharactersModel") (T := F_MM) (N := 23) hx hb hts i_MM hown hK hP 0 rfl rfl 5 (by decide) (hts _ k_878) (fun _ h9 => h9) rfl d_MM_uncode_19 ?_
  refine lv_if_le (tgt := 27) hx hb d_MM_uncode_22 (by decide) (fun _ => ?_) (fun h9 => absurd h9 (by decide +kernel))
  refine lv_aload_n hx hb d_MM_uncode_27 rfl (lv_at hl 0 rfl) ?_
  refine lv_iconst (v := 0) hx hb d_MM_uncode_28 (by decide) ?_
  refine va_put (D := D) (ci := 9) (v := .int 0) (ty := .int) (C := "MailCharactersModel") (T := F_MM) (N := 23) hx hb hts i_MM t_MM t_MM_ok n_MM hown hK hP hD hS 0 rfl rfl 13 (by decide) (hts _ k_886) (fun _ h9 => h9) rfl (by decide +kernel) rfl rfl (Nat.le_of_ble_eq_true rfl) d_MM_uncode_29 (fun H locs hP hD hS => ?_)
  have hP : va_P D vwCl [(a0, .inr (9, [.ref x0_nameHead, .ref x0_nameTail, .ref x0_nameOf, .ref x0_windows, .ref x0_koi, .int 0, .ref x0_ready, .ref x0_tape, .int 0, .ref x0_text, .int 0, .ref x0_out, .ref x0_src, .int 0, .int 0, .int 0, .int 0, .int 0, .int 0, .int 0, .int 0, .int 0, .int 0]))] H := hP
  have hD : va_D A [(a0, .inr (9, [.ref x0_nameHead, .ref x0_nameTail, .ref x0_nameOf, .ref x0_windows, .ref x0_koi, .int 0, .ref x0_ready, .ref x0_tape, .int 0, .ref x0_text, .int 0, .ref x0_out, .ref x0_src, .int 0, .int 0, .int 0, .int 0, .int 0, .int 0, .int 0, .int 0, .int 0, .int 0]))] := hD
  refine lv_iload_n hx hb d_MM_uncode_32 rfl (lv_at hl 1 rfl) ?_
  refine lv_iconst (v := 1) hx hb d_MM_uncode_33 (by decide) ?_
  refine lv_icmp_ne (tgt := 49) hx hb d_MM_uncode_34 (by decide) (fun h9 => absurd h9 (by decide +kernel)) (fun _ => ?_)
  refine lv_aload_n hx hb d_MM_uncode_37 rfl (lv_at hl 0 rfl) ?_
  refine lv_iconst (v := 0) hx hb d_MM_uncode_38 (by decide) ?_
  refine lv_aload_n hx hb d_MM_uncode_39 rfl (lv_at hl 0 rfl) ?_
  refine va_get (D := D) (ci := 9) (v := .int 0) (C := "MailCharactersModel") (T := F_MM) (N := 23) hx hb hts i_MM hown hK hP 0 rfl rfl 8 (by decide) (hts _ k_881) (fun _ h9 => h9) rfl d_MM_uncode_40 ?_
  refine g_Vv (As := [.int 0, .int 0]) (rest := []) (wr := []) ⟨hx, hb, hml, hown, hts⟩ (c_MM_unbase_0 l D Z kI a0 x0_nameHead x0_nameTail x0_nameOf x0_windows x0_koi x0_ready x0_tape x0_text x0_out x0_src H.size) (cw_MM_unbase_0 hts k_972 ⟨Nat.le_of_ble_eq_true rfl, Nat.le_of_ble_eq_true rfl⟩) hK hZ hP hD hS hA [0] [] (g_recv hK hP (ci := 9) (q0 := 0) rfl rfl) rfl rfl (by decide) (by decide) (by decide) rfl hl.1 rfl (Nat.le_of_ble_eq_true rfl) d_MM_uncode_43 ⟨Nat.zero_le _, Nat.zero_le _⟩ (fun u_1 H locs hw hP hD hS => ?_)
  have hP : va_P D vwCl [(a0, .inr (9, [.ref x0_nameHead, .ref x0_nameTail, .ref x0_nameOf, .ref x0_windows, .ref x0_koi, .int 0, .ref x0_ready, .ref x0_tape, .int 0, .ref x0_text, .int 0, .ref x0_out, .ref x0_src, .int 0, .int 0, .int 0, .int 0, .int 0, .int 0, .int 0, .int 0, .int 0, .int 0]))] H := hP
  have hD : va_D A [(a0, .inr (9, [.ref x0_nameHead, .ref x0_nameTail, .ref x0_nameOf, .ref x0_windows, .ref x0_koi, .int 0, .ref x0_ready, .ref x0_tape, .int 0, .ref x0_text, .int 0, .ref x0_out, .ref x0_src, .int 0, .int 0, .int 0, .int 0, .int 0, .int 0, .int 0, .int 0, .int 0, .int 0]))] := hD
  refine lv_goto (tgt := 70) hx hb d_MM_uncode_46 (by decide) ?_
  refine lv_iload_n hx hb d_MM_uncode_70 rfl (lv_at hl 1 rfl) ?_
  refine lv_if_le (tgt := 78) hx hb d_MM_uncode_71 (by decide) (fun h9 => absurd h9 (by decide +kernel)) (fun _ => ?_)
  refine lv_aload_n hx hb d_MM_uncode_74 rfl (lv_at hl 0 rfl) ?_
  refine g_Vv (As := []) (rest := []) (wr := []) ⟨hx, hb, hml, hown, hts⟩ (c_MM_outToTape_0 l D Z kI a0 x0_nameHead x0_nameTail x0_nameOf x0_windows x0_koi x0_ready x0_tape x0_text x0_out x0_src H.size) (cw_MM_outToTape_0 hts k_1023 ⟨Nat.le_of_ble_eq_true rfl, Nat.le_of_ble_eq_true rfl⟩) hK hZ hP hD hS hA [0] [] (g_recv hK hP (ci := 9) (q0 := 0) rfl rfl) rfl rfl (by decide) (by decide) (by decide) rfl hl.1 rfl (Nat.le_of_ble_eq_true rfl) d_MM_uncode_75 ⟨Nat.zero_le _, Nat.zero_le _⟩ (fun u_2 H locs hw hP hD hS => ?_)
  have hP : va_P D vwCl [(a0, .inr (9, [.ref x0_nameHead, .ref x0_nameTail, .ref x0_nameOf, .ref x0_windows, .ref x0_koi, .int 0, .ref x0_ready, .ref x0_tape, .int 0, .ref x0_text, .int 0, .ref x0_out, .ref x0_src, .int 0, .int 0, .int 0, .int 0, .int 0, .int 0, .int 0, .int 0, .int 0, .int 0]))] H := hP
  have hD : va_D A [(a0, .inr (9, [.ref x0_nameHead, .ref x0_nameTail, .ref x0_nameOf, .ref x0_windows, .ref x0_koi, .int 0, .ref x0_ready, .ref x0_tape, .int 0, .ref x0_text, .int 0, .ref x0_out, .ref x0_src, .int 0, .int 0, .int 0, .int 0, .int 0, .int 0, .int 0, .int 0, .int 0, .int 0]))] := hD
  refine lv_aload_n hx hb d_MM_uncode_78 rfl (lv_at hl 0 rfl) ?_
  refine va_get (D := D) (ci := 9) (v := .int 0) (C := "MailCharactersModel") (T := F_MM) (N := 23) hx hb hts i_MM hown hK hP 0 rfl rfl 8 (by decide) (hts _ k_881) (fun _ h9 => h9) rfl d_MM_uncode_79 ?_
  exact hret 0 () _ _ _ _ d_MM_uncode_82 rfl rfl hP hD hS
theorem cw_MM_uncode_1 {R : Room} {s : State} {args : Array Value} {own : String} {idx : Nat} (hts : ∀ w ∈ gW, w.before args s = true) (hl : Cond.methodLink own idx y_MM_uncode ∈ gW) (hR : rm_MM_uncode_1.frames + 1 ≤ R.frames ∧ 8 + (2 + 11) + rm_MM_uncode_1.locals ≤ R.locals) : CallW R s args own "MailCharactersModel" idx y_MM_uncode b_MM_uncode 2 (some .int) w_MM_uncode rm_MM_uncode_1 0 0 1 := cwV 1 hts (gW_V hl k_969 k_970 k_77 k_971) rfl rfl rfl (by decide +kernel) hR
def rm_MM_unquote_0 : Room := { frames := 0, cells := 0, slots := 0, locals := 0 }
set_option maxHeartbeats 4000000 in
set_option maxRecDepth 100000 in
theorem c_MM_unquote_0 (l : Launch) (D : va_G) (Z : gZT) (kI : ClassId) (a0 : Nat) (x0_nameHead : Nat) (x0_nameTail : Nat) (x0_nameOf : Nat) (x0_windows : Nat) (x0_koi : Nat) (x0_ready : Nat) (x0_tape : Nat) (x0_text : Nat) (x0_out : Nat) (x0_src : Nat) (sz : Nat) : gMv l y_MM_unquote w_MM_unquote rm_MM_unquote_0 D Z kI [.ref a0] sz [(a0, .inr (9, [.ref x0_nameHead, .ref x0_nameTail, .ref x0_nameOf, .ref x0_windows, .ref x0_koi, .int 0, .ref x0_ready, .ref x0_tape, .int 0, .ref x0_text, .int 0, .ref x0_out, .ref x0_src, .int 0, .int 0, .int 0, .int 0, .int 0, .int 0, .int 0, .int 0, .int 0, .int 0]))] (fun (_u : Unit) => True) (fun (_u : Unit) => ([(a0, .inr (9, [.ref x0_nameHead, .ref x0_nameTail, .ref x0_nameOf, .ref x0_windows, .ref x0_koi, .int 0, .ref x0_ready, .ref x0_tape, .int 0, .ref x0_text, .int 0, .ref x0_out, .ref x0_src, .int 0, .int 0, .int 0, .int 0, .int 0, .int 0, .int 0, .int 0, .int 0, .int 0]))] : va_W)) := by
  refine g_ofv (cc := b_MM_unquote) (maxL := 7) (by decide) rfl (Nat.le_of_ble_eq_true rfl) ?_
  intro p e s m below meth c A Q H ls hx hb hml hown hts hA hK hZ hP hD hS hl hret
  have hown : s.vm.findClass "MailCharactersModel" = some m.cls := hown
  have hl : lv_has ls 7 [(0, .ref a0)] := hl
  refine lv_iconst (v := 0) hx hb d_MM_unquote_0 (by decide) ?_
  refine lv_istore_n (lv' := [(1, .int 0), (0, .ref a0)]) hx hb d_MM_unquote_1 rfl hl (by decide) rfl (fun ls hl => ?_)
  refine lv_iload_n hx hb d_MM_unquote_2 rfl (lv_at hl 0 rfl) ?_
  refine lv_aload_n hx hb d_MM_unquote_3 rfl (lv_at hl 1 rfl) ?_
  refine va_get (D := D) (ci := 9) (v := .int 0) (C := "MailCharactersModel") (T := F_MM) (N := 23) hx hb hts i_MM hown hK hP 0 rfl rfl 8 (by decide) (hts _ k_881) (fun _ h9 => h9) rfl d_MM_unquote_4 ?_
  refine lv_icmp_ge (tgt := 205) hx hb d_MM_unquote_7 (by decide) (fun _ => ?_) (fun h9 => absurd h9 (by decide +kernel))
  exact hret () _ _ _ _ d_MM_unquote_205 trivial hP hD hS
theorem cw_MM_unquote_0 {R : Room} {s : State} {args : Array Value} {own : String} {idx : Nat} (hts : ∀ w ∈ gW, w.before args s = true) (hl : Cond.methodLink own idx y_MM_unquote ∈ gW) (hR : rm_MM_unquote_0.frames + 1 ≤ R.frames ∧ 8 + (7 + 11) + rm_MM_unquote_0.locals ≤ R.locals) : CallW R s args own "MailCharactersModel" idx y_MM_unquote b_MM_unquote 7 none w_MM_unquote rm_MM_unquote_0 0 0 0 := cwV 0 hts (gW_V hl k_986 k_28 k_77 k_987) rfl rfl rfl (by decide +kernel) hR
