def rm_Row_empty : Room := { frames := 0, cells := 0, slots := 0, locals := 0 }
set_option maxHeartbeats 4000000 in
set_option maxRecDepth 100000 in
theorem c_Row_empty (l : Launch) (D : va_G) (Z : gZT) (kI : ClassId) (a0 b0 n0 sz : Nat) (f0 : Nat → Int32) (l0 : List Int32) (o0 : Int32) (hr0 : g_rw n0 f0 l0) : gMv l y_Row_empty w_Row_empty rm_Row_empty D Z kI [.ref a0] sz [(a0, .inr (4, [.ref b0, .int (nI l0.length), .int o0])), (b0, .inl (kI, n0, .inl f0))] (fun (u : (Nat → Int32) × List Int32 × Int32) => m_Row_empty  = (u.2.1, u.2.2) ∧ g_rw n0 u.1 u.2.1) (fun (u : (Nat → Int32) × List Int32 × Int32) => ([(a0, .inr (4, [.ref b0, .int (nI u.2.1.length), .int u.2.2])), (b0, .inl (kI, n0, .inl u.1))] : va_W)) := by
  refine g_ofv (cc := b_Row_empty) (maxL := 1) (by decide) rfl (Nat.le_of_ble_eq_true rfl) ?_
  intro p e s m below meth c A Q H ls hx hb hml hown hts hA hK hZ hP hD hS hl hret
  have hown : s.vm.findClass "MailCharacters$Row" = some m.cls := hown
  have hl : lv_has ls 1 [(0, .ref a0)] := hl
  refine lv_aload_n hx hb d_Row_empty_0 rfl (lv_at hl 0 rfl) ?_
  refine lv_iconst (v := 0) hx hb d_Row_empty_1 (by decide) ?_
  refine va_put (D := D) (ci := 4) (v := .int 0) (ty := .int) (C := "MailCharacters$Row") (T := F_Row) (N := 3) hx hb hts i_Row t_Row t_Row_ok n_Row hown hK hP hD hS 0 rfl rfl 1 (by decide) (hts _ k_108) (fun _ h9 => h9) rfl (by decide +kernel) rfl rfl (Nat.le_of_ble_eq_true rfl) d_Row_empty_2 (fun H locs hP hD hS => ?_)
  have hP : va_P D vwCl [(a0, .inr (4, [.ref b0, .int 0, .int o0])), (b0, .inl (kI, n0, .inl f0))] H := hP
  have hD : va_D A [(a0, .inr (4, [.ref b0, .int 0, .int o0])), (b0, .inl (kI, n0, .inl f0))] := hD
  refine lv_aload_n hx hb d_Row_empty_5 rfl (lv_at hl 0 rfl) ?_
  refine lv_iconst (v := 0) hx hb d_Row_empty_6 (by decide) ?_
  refine va_put (D := D) (ci := 4) (v := .int 0) (ty := .boolean) (C := "MailCharacters$Row") (T := F_Row) (N := 3) hx hb hts i_Row t_Row t_Row_ok n_Row hown hK hP hD hS 0 rfl rfl 2 (by decide) (hts _ k_109) (fun _ h9 => h9) rfl (by decide +kernel) rfl rfl (Nat.le_of_ble_eq_true rfl) d_Row_empty_7 (fun H locs hP hD hS => ?_)
  have hP : va_P D vwCl [(a0, .inr (4, [.ref b0, .int 0, .int 0])), (b0, .inl (kI, n0, .inl f0))] H := hP
  have hD : va_D A [(a0, .inr (4, [.ref b0, .int 0, .int 0])), (b0, .inl (kI, n0, .inl f0))] := hD
  exact hret (f0, [], 0) _ _ _ _ d_Row_empty_10 ⟨rfl, Nat.zero_le _, hr0.2.1, fun i h => absurd h (Nat.not_lt_zero i)⟩ hP hD hS
theorem cw_Row_empty {R : Room} {s : State} {args : Array Value} {own : String} {idx : Nat} (hts : ∀ w ∈ gW, w.before args s = true) (hl : Cond.methodLink own idx y_Row_empty ∈ gW) (hR : rm_Row_empty.frames + 1 ≤ R.frames ∧ 8 + (1 + 11) + rm_Row_empty.locals ≤ R.locals) : CallW R s args own "MailCharacters$Row" idx y_Row_empty b_Row_empty 1 none w_Row_empty rm_Row_empty 0 0 0 := cwV 0 hts (gW_V hl k_368 k_369 k_68 k_370) rfl rfl rfl (by decide +kernel) hR
def rm_Row_put : Room := { frames := 0, cells := 0, slots := 0, locals := 0 }
set_option maxHeartbeats 4000000 in
set_option maxRecDepth 100000 in
theorem c_Row_put (l : Launch) (D : va_G) (Z : gZT) (kI : ClassId) (a0 b0 n0 sz : Nat) (f0 : Nat → Int32) (l0 : List Int32) (o0 : Int32) (p1 : Int32) (hr0 : g_rw n0 f0 l0) : gMv l y_Row_put w_Row_put rm_Row_put D Z kI [.ref a0, .int p1] sz [(a0, .inr (4, [.ref b0, .int (nI l0.length), .int o0])), (b0, .inl (kI, n0, .inl f0))] (fun (u : (Nat → Int32) × List Int32 × Int32) => m_Row_put n0 l0 o0 p1 = (u.2.1, u.2.2) ∧ g_rw n0 u.1 u.2.1) (fun (u : (Nat → Int32) × List Int32 × Int32) => ([(a0, .inr (4, [.ref b0, .int (nI u.2.1.length), .int u.2.2])), (b0, .inl (kI, n0, .inl u.1))] : va_W)) := by
  refine g_ofv (cc := b_Row_put) (maxL := 2) (by decide) rfl (Nat.le_of_ble_eq_true rfl) ?_
  intro p e s m below meth c A Q H ls hx hb hml hown hts hA hK hZ hP hD hS hl hret
  have hown : s.vm.findClass "MailCharacters$Row" = some m.cls := hown
  have hl : lv_has ls 2 [(0, .ref a0), (1, .int p1)] := hl
  refine lv_aload_n hx hb d_Row_put_0 rfl (lv_at hl 0 rfl) ?_
  refine va_get (D := D) (ci := 4) (v := .int (nI l0.length)) (C := "MailCharacters$Row") (T := F_Row) (N := 3) hx hb hts i_Row hown hK hP 0 rfl rfl 1 (by decide) (hts _ k_108) (fun _ h9 => h9) rfl d_Row_put_1 ?_
  refine lv_if_lt (tgt := 42) hx hb d_Row_put_4 (by decide) (fun c_1 => ?_) (fun c_1 => ?_)
  · have c_1 := c_1
    refine lv_aload_n hx hb d_Row_put_42 rfl (lv_at hl 0 rfl) ?_
    refine lv_iconst (v := 1) hx hb d_Row_put_43 (by decide) ?_
    refine va_put (D := D) (ci := 4) (v := .int 1) (ty := .boolean) (C := "MailCharacters$Row") (T := F_Row) (N := 3) hx hb hts i_Row t_Row t_Row_ok n_Row hown hK hP hD hS 0 rfl rfl 2 (by decide) (hts _ k_109) (fun _ h9 => h9) rfl (by decide +kernel) rfl rfl (Nat.le_of_ble_eq_true rfl) d_Row_put_44 (fun H locs hP hD hS => ?_)
    have hP : va_P D vwCl [(a0, .inr (4, [.ref b0, .int (nI l0.length), .int 1])), (b0, .inl (kI, n0, .inl f0))] H := hP
    have hD : va_D A [(a0, .inr (4, [.ref b0, .int (nI l0.length), .int 1])), (b0, .inl (kI, n0, .inl f0))] := hD
    exact absurd c_1 (g_len_nn hr0)
  · have c_1 := c_1
    refine lv_aload_n hx hb d_Row_put_7 rfl (lv_at hl 0 rfl) ?_
    refine va_get (D := D) (ci := 4) (v := .int (nI l0.length)) (C := "MailCharacters$Row") (T := F_Row) (N := 3) hx hb hts i_Row hown hK hP 0 rfl rfl 1 (by decide) (hts _ k_108) (fun _ h9 => h9) rfl d_Row_put_8 ?_
    refine lv_aload_n hx hb d_Row_put_11 rfl (lv_at hl 0 rfl) ?_
    refine va_get (D := D) (ci := 4) (v := .ref b0) (C := "MailCharacters$Row") (T := F_Row) (N := 3) hx hb hts i_Row hown hK hP 0 rfl rfl 0 (by decide) (hts _ k_107) (fun _ h9 => h9) rfl d_Row_put_12 ?_
    refine va_alen (v := nI n0) hx hb hK hP 1 0 rfl rfl rfl d_Row_put_15 ?_
    refine lv_icmp_ge (tgt := 42) hx hb d_Row_put_16 (by decide) (fun c_2 => ?_) (fun c_2 => ?_)
    · have c_2 := c_2
      refine lv_aload_n hx hb d_Row_put_42 rfl (lv_at hl 0 rfl) ?_
      refine lv_iconst (v := 1) hx hb d_Row_put_43 (by decide) ?_
      refine va_put (D := D) (ci := 4) (v := .int 1) (ty := .boolean) (C := "MailCharacters$Row") (T := F_Row) (N := 3) hx hb hts i_Row t_Row t_Row_ok n_Row hown hK hP hD hS 0 rfl rfl 2 (by decide) (hts _ k_109) (fun _ h9 => h9) rfl (by decide +kernel) rfl rfl (Nat.le_of_ble_eq_true rfl) d_Row_put_44 (fun H locs hP hD hS => ?_)
      have hP : va_P D vwCl [(a0, .inr (4, [.ref b0, .int (nI l0.length), .int 1])), (b0, .inl (kI, n0, .inl f0))] H := hP
      have hD : va_D A [(a0, .inr (4, [.ref b0, .int (nI l0.length), .int 1])), (b0, .inl (kI, n0, .inl f0))] := hD
      exact hret (f0, l0, 1) _ _ _ _ d_Row_put_47 ⟨g_put_full c_2 hr0, hr0⟩ hP hD hS
    · have c_2 := c_2
      refine lv_aload_n hx hb d_Row_put_19 rfl (lv_at hl 0 rfl) ?_
      refine va_get (D := D) (ci := 4) (v := .ref b0) (C := "MailCharacters$Row") (T := F_Row) (N := 3) hx hb hts i_Row hown hK hP 0 rfl rfl 0 (by decide) (hts _ k_107) (fun _ h9 => h9) rfl d_Row_put_20 ?_
      refine lv_aload_n hx hb d_Row_put_23 rfl (lv_at hl 0 rfl) ?_
      refine va_get (D := D) (ci := 4) (v := .int (nI l0.length)) (C := "MailCharacters$Row") (T := F_Row) (N := 3) hx hb hts i_Row hown hK hP 0 rfl rfl 1 (by decide) (hts _ k_108) (fun _ h9 => h9) rfl d_Row_put_24 ?_
      refine lv_iload_n hx hb d_Row_put_27 rfl (lv_at hl 1 rfl) ?_
      refine va_iast hx hb hK hP hD hS 1 0 rfl rfl (g_put_ix c_2 hr0) d_Row_put_28 (fun H locs hP hD hS => ?_)
      have hP : va_P D vwCl [(a0, .inr (4, [.ref b0, .int (nI l0.length), .int o0])), (b0, .inl (kI, n0, .inl (upd f0 (nI l0.length).toNatClampNeg p1)))] H := hP
      have hD : va_D A [(a0, .inr (4, [.ref b0, .int (nI l0.length), .int o0])), (b0, .inl (kI, n0, .inl (upd f0 (nI l0.length).toNatClampNeg p1)))] := hD
      refine lv_aload_n hx hb d_Row_put_29 rfl (lv_at hl 0 rfl) ?_
      refine lv_dup hx hb d_Row_put_30 rfl ?_
      refine va_get (D := D) (ci := 4) (v := .int (nI l0.length)) (C := "MailCharacters$Row") (T := F_Row) (N := 3) hx hb hts i_Row hown hK hP 0 rfl rfl 1 (by decide) (hts _ k_108) (fun _ h9 => h9) rfl d_Row_put_31 ?_
      refine lv_iconst (v := 1) hx hb d_Row_put_34 (by decide) ?_
      refine lv_iadd hx hb d_Row_put_35 ?_
      refine va_put (D := D) (ci := 4) (v := .int ((nI l0.length) + 1)) (ty := .int) (C := "MailCharacters$Row") (T := F_Row) (N := 3) hx hb hts i_Row t_Row t_Row_ok n_Row hown hK hP hD hS 0 rfl rfl 1 (by decide) (hts _ k_108) (fun _ h9 => h9) rfl (by decide +kernel) rfl rfl (Nat.le_of_ble_eq_true rfl) d_Row_put_36 (fun H locs hP hD hS => ?_)
      have hP : va_P D vwCl [(a0, .inr (4, [.ref b0, .int ((nI l0.length) + 1), .int o0])), (b0, .inl (kI, n0, .inl (upd f0 (nI l0.length).toNatClampNeg p1)))] H := hP
      have hD : va_D A [(a0, .inr (4, [.ref b0, .int ((nI l0.length) + 1), .int o0])), (b0, .inl (kI, n0, .inl (upd f0 (nI l0.length).toNatClampNeg p1)))] := hD
      refine lv_goto (tgt := 47) hx hb d_Row_put_39 (by decide) ?_
      exact hret (upd f0 (nI l0.length).toNatClampNeg p1, l0 ++ [p1], o0) _ _ _ _ d_Row_put_47 ⟨g_put_in c_2 hr0, g_put_rw c_2 hr0⟩ (by rw [g_put_len] at hP; exact hP) (by rw [g_put_len] at hD; exact hD) hS
theorem cw_Row_put {R : Room} {s : State} {args : Array Value} {own : String} {idx : Nat} (hts : ∀ w ∈ gW, w.before args s = true) (hl : Cond.methodLink own idx y_Row_put ∈ gW) (hR : rm_Row_put.frames + 1 ≤ R.frames ∧ 8 + (2 + 11) + rm_Row_put.locals ≤ R.locals) : CallW R s args own "MailCharacters$Row" idx y_Row_put b_Row_put 2 none w_Row_put rm_Row_put 0 0 1 := cwV 1 hts (gW_V hl k_277 k_278 k_68 k_279) rfl rfl rfl (by decide +kernel) hR
def rm_Row_get : Room := { frames := 0, cells := 0, slots := 0, locals := 0 }
set_option maxHeartbeats 4000000 in
set_option maxRecDepth 100000 in
theorem c_Row_get (l : Launch) (D : va_G) (Z : gZT) (kI : ClassId) (a0 b0 n0 sz : Nat) (f0 : Nat → Int32) (l0 : List Int32) (o0 : Int32) (p1 : Int32) (hr0 : g_rw n0 f0 l0) : gMi l y_Row_get w_Row_get rm_Row_get D Z kI [.ref a0, .int p1] sz [(a0, .inr (4, [.ref b0, .int (nI l0.length), .int o0])), (b0, .inl (kI, n0, .inl f0))] (fun (r : Int32) (_u : Unit) => m_Row_get l0 p1 = r) (fun (_u : Unit) => ([(a0, .inr (4, [.ref b0, .int (nI l0.length), .int o0])), (b0, .inl (kI, n0, .inl f0))] : va_W)) := by
  refine g_ofi (cc := b_Row_get) (maxL := 2) (ty := .int) (by decide) rfl (Nat.le_of_ble_eq_true rfl) ?_
  intro p e s m below meth c A Q H ls hx hb hml hown hts hA hK hZ hP hD hS hl hret
  have hown : s.vm.findClass "MailCharacters$Row" = some m.cls := hown
  have hl : lv_has ls 2 [(0, .ref a0), (1, .int p1)] := hl
  refine lv_iload_n hx hb d_Row_get_0 rfl (lv_at hl 1 rfl) ?_
  refine lv_if_lt (tgt := 30) hx hb d_Row_get_1 (by decide) (fun c_1 => ?_) (fun c_1 => ?_)
  · have c_1 := c_1
    refine lv_iconst (v := (-1)) hx hb d_Row_get_30 (by decide) ?_
    exact hret (-1) () _ _ _ _ d_Row_get_31 rfl (g_get_neg c_1) hP hD hS
  · have c_1 := c_1
    refine lv_iload_n hx hb d_Row_get_4 rfl (lv_at hl 1 rfl) ?_
    refine lv_aload_n hx hb d_Row_get_5 rfl (lv_at hl 0 rfl) ?_
    refine va_get (D := D) (ci := 4) (v := .int (nI l0.length)) (C := "MailCharacters$Row") (T := F_Row) (N := 3) hx hb hts i_Row hown hK hP 0 rfl rfl 1 (by decide) (hts _ k_108) (fun _ h9 => h9) rfl d_Row_get_6 ?_
    refine lv_icmp_ge (tgt := 30) hx hb d_Row_get_9 (by decide) (fun c_2 => ?_) (fun c_2 => ?_)
    · have c_2 := c_2
      refine lv_iconst (v := (-1)) hx hb d_Row_get_30 (by decide) ?_
      exact hret (-1) () _ _ _ _ d_Row_get_31 rfl (g_get_big c_2) hP hD hS
    · have c_2 := c_2
      refine lv_iload_n hx hb d_Row_get_12 rfl (lv_at hl 1 rfl) ?_
      refine lv_aload_n hx hb d_Row_get_13 rfl (lv_at hl 0 rfl) ?_
      refine va_get (D := D) (ci := 4) (v := .ref b0) (C := "MailCharacters$Row") (T := F_Row) (N := 3) hx hb hts i_Row hown hK hP 0 rfl rfl 0 (by decide) (hts _ k_107) (fun _ h9 => h9) rfl d_Row_get_14 ?_
      refine va_alen (v := nI n0) hx hb hK hP 1 0 rfl rfl rfl d_Row_get_17 ?_
      refine lv_icmp_ge (tgt := 30) hx hb d_Row_get_18 (by decide) (fun c_3 => ?_) (fun c_3 => ?_)
      · have c_3 := c_3
        refine lv_iconst (v := (-1)) hx hb d_Row_get_30 (by decide) ?_
        exact hret (-1) () _ _ _ _ d_Row_get_31 rfl (g_get_no hr0 c_2 c_3) hP hD hS
      · have c_3 := c_3
        refine lv_aload_n hx hb d_Row_get_21 rfl (lv_at hl 0 rfl) ?_
        refine va_get (D := D) (ci := 4) (v := .ref b0) (C := "MailCharacters$Row") (T := F_Row) (N := 3) hx hb hts i_Row hown hK hP 0 rfl rfl 0 (by decide) (hts _ k_107) (fun _ h9 => h9) rfl d_Row_get_22 ?_
        refine lv_iload_n hx hb d_Row_get_25 rfl (lv_at hl 1 rfl) ?_
        refine va_iald hx hb hK hP 1 0 rfl rfl (g_in c_1 c_3 (g_rw_n hr0)) d_Row_get_26 ?_
        refine lv_goto (tgt := 31) hx hb d_Row_get_27 (by decide) ?_
        exact hret (f0 p1.toNatClampNeg) () _ _ _ _ d_Row_get_31 rfl (g_get_in hr0 c_1 c_2) hP hD hS
theorem cw_Row_get {R : Room} {s : State} {args : Array Value} {own : String} {idx : Nat} (hts : ∀ w ∈ gW, w.before args s = true) (hl : Cond.methodLink own idx y_Row_get ∈ gW) (hR : rm_Row_get.frames + 1 ≤ R.frames ∧ 8 + (2 + 11) + rm_Row_get.locals ≤ R.locals) : CallW R s args own "MailCharacters$Row" idx y_Row_get b_Row_get 2 (some .int) w_Row_get rm_Row_get 0 0 1 := cwV 1 hts (gW_V hl k_361 k_362 k_68 k_363) rfl rfl rfl (by decide +kernel) hR
def rm_Row_size : Room := { frames := 0, cells := 0, slots := 0, locals := 0 }
set_option maxHeartbeats 4000000 in
set_option maxRecDepth 100000 in
theorem c_Row_size (l : Launch) (D : va_G) (Z : gZT) (kI : ClassId) (a0 b0 n0 sz : Nat) (f0 : Nat → Int32) (l0 : List Int32) (o0 : Int32) (hr0 : g_rw n0 f0 l0) : gMi l y_Row_size w_Row_size rm_Row_size D Z kI [.ref a0] sz [(a0, .inr (4, [.ref b0, .int (nI l0.length), .int o0])), (b0, .inl (kI, n0, .inl f0))] (fun (r : Int32) (_u : Unit) => m_Row_size l0 = r) (fun (_u : Unit) => ([(a0, .inr (4, [.ref b0, .int (nI l0.length), .int o0])), (b0, .inl (kI, n0, .inl f0))] : va_W)) := by
  refine g_ofi (cc := b_Row_size) (maxL := 1) (ty := .int) (by decide) rfl (Nat.le_of_ble_eq_true rfl) ?_
  intro p e s m below meth c A Q H ls hx hb hml hown hts hA hK hZ hP hD hS hl hret
  have hown : s.vm.findClass "MailCharacters$Row" = some m.cls := hown
  have hl : lv_has ls 1 [(0, .ref a0)] := hl
  refine lv_aload_n hx hb d_Row_size_0 rfl (lv_at hl 0 rfl) ?_
  refine va_get (D := D) (ci := 4) (v := .int (nI l0.length)) (C := "MailCharacters$Row") (T := F_Row) (N := 3) hx hb hts i_Row hown hK hP 0 rfl rfl 1 (by decide) (hts _ k_108) (fun _ h9 => h9) rfl d_Row_size_1 ?_
  exact hret (nI l0.length) () _ _ _ _ d_Row_size_4 rfl rfl hP hD hS
theorem cw_Row_size {R : Room} {s : State} {args : Array Value} {own : String} {idx : Nat} (hts : ∀ w ∈ gW, w.before args s = true) (hl : Cond.methodLink own idx y_Row_size ∈ gW) (hR : rm_Row_size.frames + 1 ≤ R.frames ∧ 8 + (1 + 11) + rm_Row_size.locals ≤ R.locals) : CallW R s args own "MailCharacters$Row" idx y_Row_size b_Row_size 1 (some .int) w_Row_size rm_Row_size 0 0 0 := cwV 0 hts (gW_V hl k_282 k_283 k_68 k_284) rfl rfl rfl (by decide +kernel) hR
def rm_Row_room : Room := { frames := 0, cells := 0, slots := 0, locals := 0 }
set_option maxHeartbeats 4000000 in
set_option maxRecDepth 100000 in
theorem c_Row_room (l : Launch) (D : va_G) (Z : gZT) (kI : ClassId) (a0 b0 n0 sz : Nat) (f0 : Nat → Int32) (l0 : List Int32) (o0 : Int32) (hr0 : g_rw n0 f0 l0) : gMi l y_Row_room w_Row_room rm_Row_room D Z kI [.ref a0] sz [(a0, .inr (4, [.ref b0, .int (nI l0.length), .int o0])), (b0, .inl (kI, n0, .inl f0))] (fun (r : Int32) (_u : Unit) => m_Row_room n0 l0 = r) (fun (_u : Unit) => ([(a0, .inr (4, [.ref b0, .int (nI l0.length), .int o0])), (b0, .inl (kI, n0, .inl f0))] : va_W)) := by
  refine g_ofi (cc := b_Row_room) (maxL := 1) (ty := .int) (by decide) rfl (Nat.le_of_ble_eq_true rfl) ?_
  intro p e s m below meth c A Q H ls hx hb hml hown hts hA hK hZ hP hD hS hl hret
  have hown : s.vm.findClass "MailCharacters$Row" = some m.cls := hown
  have hl : lv_has ls 1 [(0, .ref a0)] := hl
  refine lv_aload_n hx hb d_Row_room_0 rfl (lv_at hl 0 rfl) ?_
  refine va_get (D := D) (ci := 4) (v := .ref b0) (C := "MailCharacters$Row") (T := F_Row) (N := 3) hx hb hts i_Row hown hK hP 0 rfl rfl 0 (by decide) (hts _ k_107) (fun _ h9 => h9) rfl d_Row_room_1 ?_
  refine va_alen (v := nI n0) hx hb hK hP 1 0 rfl rfl rfl d_Row_room_4 ?_
  refine lv_aload_n hx hb d_Row_room_5 rfl (lv_at hl 0 rfl) ?_
  refine va_get (D := D) (ci := 4) (v := .int (nI l0.length)) (C := "MailCharacters$Row") (T := F_Row) (N := 3) hx hb hts i_Row hown hK hP 0 rfl rfl 1 (by decide) (hts _ k_108) (fun _ h9 => h9) rfl d_Row_room_6 ?_
  refine lv_isub hx hb d_Row_room_9 ?_
  exact hret (nI n0 - nI l0.length) () _ _ _ _ d_Row_room_10 rfl rfl hP hD hS
theorem cw_Row_room {R : Room} {s : State} {args : Array Value} {own : String} {idx : Nat} (hts : ∀ w ∈ gW, w.before args s = true) (hl : Cond.methodLink own idx y_Row_room ∈ gW) (hR : rm_Row_room.frames + 1 ≤ R.frames ∧ 8 + (1 + 11) + rm_Row_room.locals ≤ R.locals) : CallW R s args own "MailCharacters$Row" idx y_Row_room b_Row_room 1 (some .int) w_Row_room rm_Row_room 0 0 0 := cwV 0 hts (gW_V hl k_273 k_274 k_68 k_275) rfl rfl rfl (by decide +kernel) hR
