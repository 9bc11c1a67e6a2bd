def rm_String_coder : Room := { frames := 0, cells := 0, slots := 0, locals := 0 }
set_option maxHeartbeats 4000000 in
set_option maxRecDepth 100000 in
theorem c_String_coder (l : Launch) (D : va_G) (Z : gZT) (kI : ClassId) (sz i : Nat) (hi : i < gnS) : gMi l y_JString_coder w_JString_coder rm_String_coder D Z kI [.ref (Z.1 i)] sz [] (fun (r : Int32) (_u : Unit) => 0 = r) (fun (_u : Unit) => ([] : va_W)) := by
  refine g_ofi (cc := b_JString_coder) (maxL := 1) (ty := .byte) (by decide) rfl (Nat.le_of_ble_eq_true rfl) ?_
  intro p e s m below meth c A Q H ls hx hb hml hown hts hA hK hZ hP hD hS hl hret
  have hown : s.vm.findClass "java/lang/String" = some m.cls := hown
  have hl : lv_has ls 1 [(0, .ref (Z.1 i))] := hl
  obtain ⟨hO, hC, hV, hT⟩ := (gZ_str hZ).1 i hi
  refine va_gets hx hb (gZ_cs hZ) hS hown (hts _ k_317) (fun _ h9 => h9) d_JString_coder_0 ?_
  refine lv_if_eq (tgt := 13) hx hb d_JString_coder_3 (by decide) (fun c_1 => ?_) (fun c_1 => ?_)
  · exact absurd c_1 (by decide)
  · refine lv_aload_n hx hb d_JString_coder_6 rfl (lv_at hl 0 rfl) ?_
    refine vk_getf hx hb hC hS hown (hts _ k_1196) (fun _ h9 => h9) d_JString_coder_7 ?_
    refine lv_goto (tgt := 14) hx hb d_JString_coder_10 (by decide) ?_
    exact hret 0 () _ _ _ _ d_JString_coder_14 rfl rfl hP hD hS
theorem cw_String_coder {R : Room} {s : State} {args : Array Value} {own : String} {idx : Nat} (hts : ∀ w ∈ gW, w.before args s = true) (hl : Cond.methodLink own idx y_JString_coder ∈ gW) (hR : rm_String_coder.frames + 1 ≤ R.frames ∧ 8 + (1 + 11) + rm_String_coder.locals ≤ R.locals) : CallW R s args own "java/lang/String" idx y_JString_coder b_JString_coder 1 (some .byte) w_JString_coder rm_String_coder 0 0 0 := cwV 0 hts (gW_V hl k_314 k_315 k_79 k_316) rfl rfl rfl (by decide +kernel) hR
def rm_String_isLatin1 : Room := { frames := 0, cells := 0, slots := 0, locals := 0 }
set_option maxHeartbeats 4000000 in
set_option maxRecDepth 100000 in
theorem c_String_isLatin1 (l : Launch) (D : va_G) (Z : gZT) (kI : ClassId) (sz i : Nat) (hi : i < gnS) : gMi l y_JString_isLatin1 w_JString_isLatin1 rm_String_isLatin1 D Z kI [.ref (Z.1 i)] sz [] (fun (r : Int32) (_u : Unit) => 1 = r) (fun (_u : Unit) => ([] : va_W)) := by
  refine g_ofi (cc := b_JString_isLatin1) (maxL := 1) (ty := .boolean) (by decide) rfl (Nat.le_of_ble_eq_true rfl) ?_
  intro p e s m below meth c A Q H ls hx hb hml hown hts hA hK hZ hP hD hS hl hret
  have hown : s.vm.findClass "java/lang/String" = some m.cls := hown
  have hl : lv_has ls 1 [(0, .ref (Z.1 i))] := hl
  obtain ⟨hO, hC, hV, hT⟩ := (gZ_str hZ).1 i hi
  refine va_gets hx hb (gZ_cs hZ) hS hown (hts _ k_317) (fun _ h9 => h9) d_JString_isLatin1_0 ?_
  refine lv_if_eq (tgt := 17) hx hb d_JString_isLatin1_3 (by decide) (fun c_1 => ?_) (fun c_1 => ?_)
  · exact absurd c_1 (by decide)
  · refine lv_aload_n hx hb d_JString_isLatin1_6 rfl (lv_at hl 0 rfl) ?_
    refine vk_getf hx hb hC hS hown (hts _ k_1196) (fun _ h9 => h9) d_JString_isLatin1_7 ?_
    refine lv_if_ne (tgt := 17) hx hb d_JString_isLatin1_10 (by decide) (fun c_2 => ?_) (fun c_2 => ?_)
    · exact absurd rfl c_2
    · refine lv_iconst (v := 1) hx hb d_JString_isLatin1_13 (by decide) ?_
      refine lv_goto (tgt := 18) hx hb d_JString_isLatin1_14 (by decide) ?_
      exact hret 1 () _ _ _ _ d_JString_isLatin1_18 rfl rfl hP hD hS
theorem cw_String_isLatin1 {R : Room} {s : State} {args : Array Value} {own : String} {idx : Nat} (hts : ∀ w ∈ gW, w.before args s = true) (hl : Cond.methodLink own idx y_JString_isLatin1 ∈ gW) (hR : rm_String_isLatin1.frames + 1 ≤ R.frames ∧ 8 + (1 + 11) + rm_String_isLatin1.locals ≤ R.locals) : CallW R s args own "java/lang/String" idx y_JString_isLatin1 b_JString_isLatin1 1 (some .boolean) w_JString_isLatin1 rm_String_isLatin1 0 0 0 := cwV 0 hts (gW_V hl k_324 k_325 k_79 k_326) rfl rfl rfl (by decide +kernel) hR
def rm_String_length : Room := { frames := 1, cells := 0, slots := 0, locals := 20 }
set_option maxHeartbeats 4000000 in
set_option maxRecDepth 100000 in
theorem c_String_length (l : Launch) (D : va_G) (Z : gZT) (kI : ClassId) (sz i : Nat) (hi : i < gnS) : gMi l y_JString_length w_JString_length rm_String_length D Z kI [.ref (Z.1 i)] sz [] (fun (r : Int32) (_u : Unit) => m_String_length i = r) (fun (_u : Unit) => ([] : va_W)) := by
  refine g_ofi (cc := b_JString_length) (maxL := 1) (ty := .int) (by decide) rfl (Nat.le_of_ble_eq_true rfl) ?_
  intro p e s m below meth c A Q H ls hx hb hml hown hts hA hK hZ hP hD hS hl hret
  have hown : s.vm.findClass "java/lang/String" = some m.cls := hown
  have hl : lv_has ls 1 [(0, .ref (Z.1 i))] := hl
  obtain ⟨hO, hC, hV, hT⟩ := (gZ_str hZ).1 i hi
  refine lv_aload_n hx hb d_JString_length_0 rfl (lv_at hl 0 rfl) ?_
  refine vk_getf hx hb hV hS hown (hts _ k_1195) (fun _ h9 => h9) d_JString_length_1 ?_
  refine va_tlen (v := nI (gLen.getD i 0)) hx hb hT hS rfl d_JString_length_4 ?_
  refine lv_aload_n hx hb d_JString_length_5 rfl (lv_at hl 0 rfl) ?_
  refine g_Vi (As := []) (rest := [.int (nI (gLen.getD i 0))]) (wr := []) ⟨hx, hb, hml, hown, hts⟩ (c_String_coder l D Z kI H.size i hi) (cw_String_coder hts k_313 ⟨Nat.le_of_ble_eq_true rfl, Nat.le_of_ble_eq_true rfl⟩) hK hZ hP hD hS hA [] [] (gZ_recv hZ hS hi) rfl rfl (by decide) (by decide) (by decide) rfl hl.1 rfl (Nat.le_of_ble_eq_true rfl) d_JString_length_6 ⟨Nat.zero_le _, Nat.zero_le _⟩ (fun r u H locs hw hP hD hS => ?_)
  subst hw
  refine lv_ishr hx hb d_JString_length_9 ?_
  exact hret (nI (gLen.getD i 0) >>> ((0 : Int32) &&& 31)) () _ _ _ _ d_JString_length_10 rfl (sb_shr0 _).symm hP hD hS
theorem cw_String_length {R : Room} {s : State} {args : Array Value} {own : String} {idx : Nat} (hts : ∀ w ∈ gW, w.before args s = true) (hl : Cond.methodLink own idx y_JString_length ∈ gW) (hR : rm_String_length.frames + 1 ≤ R.frames ∧ 8 + (1 + 11) + rm_String_length.locals ≤ R.locals) : CallW R s args own "java/lang/String" idx y_JString_length b_JString_length 1 (some .int) w_JString_length rm_String_length 0 0 0 := cwV 0 hts (gW_V hl k_310 k_311 k_79 k_312) rfl rfl rfl (by decide +kernel) hR
def rm_Pre_checkIndexN : Room := { frames := 0, cells := 0, slots := 0, locals := 0 }
set_option maxHeartbeats 4000000 in
set_option maxRecDepth 100000 in
theorem c_Pre_checkIndexN (l : Launch) (D : va_G) (Z : gZT) (kI : ClassId) (sz : Nat) (x y : Int32) (h0 : ¬ x < 0) (h1 : ¬ y ≤ x) : gMi l y_JPreconditions_checkIndex w_JPreconditions_checkIndex rm_Pre_checkIndexN D Z kI [.int x, .int y, .null] sz [] (fun (r : Int32) (_u : Unit) => x = r) (fun (_u : Unit) => ([] : va_W)) := by
  refine g_ofi (cc := b_JPreconditions_checkIndex) (maxL := 3) (ty := .int) (by decide) rfl (Nat.le_of_ble_eq_true rfl) ?_
  intro p e s m below meth c A Q H ls hx hb hml hown hts hA hK hZ hP hD hS hl hret
  have hown : s.vm.findClass "jdk/internal/util/Preconditions" = some m.cls := hown
  have hl : lv_has ls 3 [(0, .int x), (1, .int y), (2, .null)] := hl
  refine lv_iload_n hx hb d_JPreconditions_checkIndex_0 rfl (lv_at hl 0 rfl) ?_
  refine lv_if_lt (tgt := 9) hx hb d_JPreconditions_checkIndex_1 (by decide) (fun c_1 => ?_) (fun c_1 => ?_)
  · exact absurd c_1 h0
  · refine lv_iload_n hx hb d_JPreconditions_checkIndex_4 rfl (lv_at hl 0 rfl) ?_
    refine lv_iload_n hx hb d_JPreconditions_checkIndex_5 rfl (lv_at hl 1 rfl) ?_
    refine lv_icmp_lt (tgt := 16) hx hb d_JPreconditions_checkIndex_6 (by decide) (fun c_2 => ?_) (fun c_2 => ?_)
    · refine lv_iload_n hx hb d_JPreconditions_checkIndex_16 rfl (lv_at hl 0 rfl) ?_
      exact hret x () _ _ _ _ d_JPreconditions_checkIndex_17 rfl rfl hP hD hS
    · exact absurd (g_ltI h1) c_2
theorem cw_Pre_checkIndexN {R : Room} {s : State} {args : Array Value} {own : String} {idx : Nat} (hts : ∀ w ∈ gW, w.before args s = true) (hl : Cond.methodLink own idx y_JPreconditions_checkIndex ∈ gW) (hR : rm_Pre_checkIndexN.frames + 1 ≤ R.frames ∧ 8 + (3 + 11) + rm_Pre_checkIndexN.locals ≤ R.locals) : CallB R s args own idx y_JPreconditions_checkIndex b_JPreconditions_checkIndex 3 (some .int) w_JPreconditions_checkIndex rm_Pre_checkIndexN 0 0 3 ∧ (Cond.static y_JPreconditions_checkIndex).before args s = true := va_cwS 3 hts (gW_S hl k_336 k_81 k_337) rfl rfl rfl (by decide +kernel) hR
def rm_Pre_checkIndexR : Room := { frames := 0, cells := 0, slots := 0, locals := 0 }
set_option maxHeartbeats 4000000 in
set_option maxRecDepth 100000 in
theorem c_Pre_checkIndexR (l : Launch) (D : va_G) (Z : gZT) (kI : ClassId) (sz t : Nat) (x y : Int32) (h0 : ¬ x < 0) (h1 : ¬ y ≤ x) : gMi l y_JPreconditions_checkIndex w_JPreconditions_checkIndex rm_Pre_checkIndexR D Z kI [.int x, .int y, .ref t] sz [] (fun (r : Int32) (_u : Unit) => x = r) (fun (_u : Unit) => ([] : va_W)) := by
  refine g_ofi (cc := b_JPreconditions_checkIndex) (maxL := 3) (ty := .int) (by decide) rfl (Nat.le_of_ble_eq_true rfl) ?_
  intro p e s m below meth c A Q H ls hx hb hml hown hts hA hK hZ hP hD hS hl hret
  have hown : s.vm.findClass "jdk/internal/util/Preconditions" = some m.cls := hown
  have hl : lv_has ls 3 [(0, .int x), (1, .int y), (2, .ref t)] := hl
  refine lv_iload_n hx hb d_JPreconditions_checkIndex_0 rfl (lv_at hl 0 rfl) ?_
  refine lv_if_lt (tgt := 9) hx hb d_JPreconditions_checkIndex_1 (by decide) (fun c_1 => ?_) (fun c_1 => ?_)
  · exact absurd c_1 h0
  · refine lv_iload_n hx hb d_JPreconditions_checkIndex_4 rfl (lv_at hl 0 rfl) ?_
    refine lv_iload_n hx hb d_JPreconditions_checkIndex_5 rfl (lv_at hl 1 rfl) ?_
    refine lv_icmp_lt (tgt := 16) hx hb d_JPreconditions_checkIndex_6 (by decide) (fun c_2 => ?_) (fun c_2 => ?_)
    · refine lv_iload_n hx hb d_JPreconditions_checkIndex_16 rfl (lv_at hl 0 rfl) ?_
      exact hret x () _ _ _ _ d_JPreconditions_checkIndex_17 rfl rfl hP hD hS
    · exact absurd (g_ltI h1) c_2
theorem cw_Pre_checkIndexR {R : Room} {s : State} {args : Array Value} {own : String} {idx : Nat} (hts : ∀ w ∈ gW, w.before args s = true) (hl : Cond.methodLink own idx y_JPreconditions_checkIndex ∈ gW) (hR : rm_Pre_checkIndexR.frames + 1 ≤ R.frames ∧ 8 + (3 + 11) + rm_Pre_checkIndexR.locals ≤ R.locals) : CallB R s args own idx y_JPreconditions_checkIndex b_JPreconditions_checkIndex 3 (some .int) w_JPreconditions_checkIndex rm_Pre_checkIndexR 0 0 3 ∧ (Cond.static y_JPreconditions_checkIndex).before args s = true := va_cwS 3 hts (gW_S hl k_336 k_81 k_337) rfl rfl rfl (by decide +kernel) hR
def rm_String_checkIndex : Room := { frames := 1, cells := 0, slots := 0, locals := 22 }
set_option maxHeartbeats 4000000 in
set_option maxRecDepth 100000 in
theorem c_String_checkIndex (l : Launch) (D : va_G) (Z : gZT) (kI : ClassId) (sz : Nat) (x y : Int32) (h0 : ¬ x < 0) (h1 : ¬ y ≤ x) : gMv l y_JString_checkIndex w_JString_checkIndex rm_String_checkIndex D Z kI [.int x, .int y] sz [] (fun (_u : Unit) => True) (fun (_u : Unit) => ([] : va_W)) := by
  refine g_ofv (cc := b_JString_checkIndex) (maxL := 2) (by decide) rfl (Nat.le_of_ble_eq_true rfl) ?_
  intro p e s m below meth c A Q H ls hx hb hml hown hts hA hK hZ hP hD hS hl hret
  have hown : s.vm.findClass "java/lang/String" = some m.cls := hown
  have hl : lv_has ls 2 [(0, .int x), (1, .int y)] := hl
  refine lv_iload_n hx hb d_JString_checkIndex_0 rfl (lv_at hl 0 rfl) ?_
  refine lv_iload_n hx hb d_JString_checkIndex_1 rfl (lv_at hl 1 rfl) ?_
  rcases gZ_fm hZ with hq | ⟨t, hq⟩
  · refine va_gets hx hb hq hS hown (hts _ k_333) (fun _ h9 => h9) d_JString_checkIndex_2 ?_
    refine g_Si (As := [.int x, .int y, .null]) (rest := []) (wr := []) ⟨hx, hb, hml, hown, hts⟩ (c_Pre_checkIndexN l D Z kI H.size x y h0 h1) (cw_Pre_checkIndexN hts k_335 ⟨Nat.le_of_ble_eq_true rfl, Nat.le_of_ble_eq_true rfl⟩) hK hZ hP hD hS hA [] [] rfl rfl (by decide) (by decide) (by decide) rfl hl.1 rfl (Nat.le_of_ble_eq_true rfl) d_JString_checkIndex_5 ⟨Nat.zero_le _, Nat.zero_le _⟩ (fun r u H locs hw hP hD hS => ?_)
    refine lv_pop hx hb d_JString_checkIndex_8 rfl ?_
    exact hret () _ _ _ _ d_JString_checkIndex_9 trivial hP hD hS
  · refine va_gets hx hb hq hS hown (hts _ k_333) (fun _ h9 => h9) d_JString_checkIndex_2 ?_
    refine g_Si (As := [.int x, .int y, .ref t]) (rest := []) (wr := []) ⟨hx, hb, hml, hown, hts⟩ (c_Pre_checkIndexR l D Z kI H.size t x y h0 h1) (cw_Pre_checkIndexR hts k_335 ⟨Nat.le_of_ble_eq_true rfl, Nat.le_of_ble_eq_true rfl⟩) hK hZ hP hD hS hA [] [] rfl rfl (by decide) (by decide) (by decide) rfl hl.1 rfl (Nat.le_of_ble_eq_true rfl) d_JString_checkIndex_5 ⟨Nat.zero_le _, Nat.zero_le _⟩ (fun r u H locs hw hP hD hS => ?_)
    refine lv_pop hx hb d_JString_checkIndex_8 rfl ?_
    exact hret () _ _ _ _ d_JString_checkIndex_9 trivial hP hD hS
theorem cw_String_checkIndex {R : Room} {s : State} {args : Array Value} {own : String} {idx : Nat} (hts : ∀ w ∈ gW, w.before args s = true) (hl : Cond.methodLink own idx y_JString_checkIndex ∈ gW) (hR : rm_String_checkIndex.frames + 1 ≤ R.frames ∧ 8 + (2 + 11) + rm_String_checkIndex.locals ≤ R.locals) : CallB R s args own idx y_JString_checkIndex b_JString_checkIndex 2 none w_JString_checkIndex rm_String_checkIndex 0 0 2 ∧ (Cond.static y_JString_checkIndex).before args s = true := va_cwS 2 hts (gW_S hl k_331 k_79 k_332) rfl rfl rfl (by decide +kernel) hR
def rm_Latin1_charAt : Room := { frames := 2, cells := 0, slots := 0, locals := 43 }
set_option maxHeartbeats 4000000 in
set_option maxRecDepth 100000 in
theorem c_Latin1_charAt (l : Launch) (D : va_G) (Z : gZT) (kI : ClassId) (sz i : Nat) (k : Int32) (h0 : ¬ k < 0) (h1 : ¬ m_String_length i ≤ k) (hi : i < gnS) : gMi l y_JStringLatin1_charAt w_JStringLatin1_charAt rm_Latin1_charAt D Z kI [.ref (Z.2.1 i), .int k] sz [] (fun (r : Int32) (_u : Unit) => m_String_charAt i k = r) (fun (_u : Unit) => ([] : va_W)) := by
  refine g_ofi (cc := b_JStringLatin1_charAt) (maxL := 2) (ty := .char) (by decide) rfl (Nat.le_of_ble_eq_true rfl) ?_
  intro p e s m below meth c A Q H ls hx hb hml hown hts hA hK hZ hP hD hS hl hret
  have hown : s.vm.findClass "java/lang/StringLatin1" = some m.cls := hown
  have hl : lv_has ls 2 [(0, .ref (Z.2.1 i)), (1, .int k)] := hl
  obtain ⟨hO, hC, hV, hT⟩ := (gZ_str hZ).1 i hi
  refine lv_iload_n hx hb d_JStringLatin1_charAt_0 rfl (lv_at hl 1 rfl) ?_
  refine lv_aload_n hx hb d_JStringLatin1_charAt_1 rfl (lv_at hl 0 rfl) ?_
  refine va_tlen (v := nI (gLen.getD i 0)) hx hb hT hS rfl d_JStringLatin1_charAt_2 ?_
  refine g_Sv (As := [.int k, .int (nI (gLen.getD i 0))]) (rest := []) (wr := []) ⟨hx, hb, hml, hown, hts⟩ (c_String_checkIndex l D Z kI H.size k (nI (gLen.getD i 0)) h0 h1) (cw_String_checkIndex hts k_330 ⟨Nat.le_of_ble_eq_true rfl, Nat.le_of_ble_eq_true rfl⟩) hK hZ hP hD hS hA [] [] rfl rfl (by decide) (by decide) (by decide) rfl hl.1 rfl (Nat.le_of_ble_eq_true rfl) d_JStringLatin1_charAt_3 ⟨Nat.zero_le _, Nat.zero_le _⟩ (fun u H locs hw hP hD hS => ?_)
  refine lv_aload_n hx hb d_JStringLatin1_charAt_6 rfl (lv_at hl 0 rfl) ?_
  refine lv_iload_n hx hb d_JStringLatin1_charAt_7 rfl (lv_at hl 1 rfl) ?_
  refine va_tb (v := .int ((gByt.getD i []).getD k.toNatClampNeg 0)) hx hb hT hS (g_in h0 h1 (gS_small hi)) rfl d_JStringLatin1_charAt_8 ?_
  refine lv_sipush (v := 255) hx hb d_JStringLatin1_charAt_9 (by decide) ?_
  refine lv_iand hx hb d_JStringLatin1_charAt_12 ?_
  refine lv_i2c (v := m_String_charAt i k) hx hb d_JStringLatin1_charAt_13 (sc_c2 _) ?_
  exact hret (m_String_charAt i k) () _ _ _ _ d_JStringLatin1_charAt_14 (sc_nar _) rfl hP hD hS
theorem cw_Latin1_charAt {R : Room} {s : State} {args : Array Value} {own : String} {idx : Nat} (hts : ∀ w ∈ gW, w.before args s = true) (hl : Cond.methodLink own idx y_JStringLatin1_charAt ∈ gW) (hR : rm_Latin1_charAt.frames + 1 ≤ R.frames ∧ 8 + (2 + 11) + rm_Latin1_charAt.locals ≤ R.locals) : CallB R s args own idx y_JStringLatin1_charAt b_JStringLatin1_charAt 2 (some .char) w_JStringLatin1_charAt rm_Latin1_charAt 0 0 2 ∧ (Cond.static y_JStringLatin1_charAt).before args s = true := va_cwS 2 hts (gW_S hl k_328 k_80 k_329) rfl rfl rfl (by decide +kernel) hR
def rm_String_charAt : Room := { frames := 3, cells := 0, slots := 0, locals := 64 }
set_option maxHeartbeats 4000000 in
set_option maxRecDepth 100000 in
theorem c_String_charAt (l : Launch) (D : va_G) (Z : gZT) (kI : ClassId) (sz i : Nat) (k : Int32) (h0 : ¬ k < 0) (h1 : ¬ m_String_length i ≤ k) (hi : i < gnS) : gMi l y_JString_charAt w_JString_charAt rm_String_charAt D Z kI [.ref (Z.1 i), .int k] sz [] (fun (r : Int32) (_u : Unit) => m_String_charAt i k = r) (fun (_u : Unit) => ([] : va_W)) := by
  refine g_ofi (cc := b_JString_charAt) (maxL := 2) (ty := .char) (by decide) rfl (Nat.le_of_ble_eq_true rfl) ?_
  intro p e s m below meth c A Q H ls hx hb hml hown hts hA hK hZ hP hD hS hl hret
  have hown : s.vm.findClass "java/lang/String" = some m.cls := hown
  have hl : lv_has ls 2 [(0, .ref (Z.1 i)), (1, .int k)] := hl
  obtain ⟨hO, hC, hV, hT⟩ := (gZ_str hZ).1 i hi
  refine lv_aload_n hx hb d_JString_charAt_0 rfl (lv_at hl 0 rfl) ?_
  refine g_Vi (As := []) (rest := []) (wr := []) ⟨hx, hb, hml, hown, hts⟩ (c_String_isLatin1 l D Z kI H.size i hi) (cw_String_isLatin1 hts k_323 ⟨Nat.le_of_ble_eq_true rfl, Nat.le_of_ble_eq_true rfl⟩) hK hZ hP hD hS hA [] [] (gZ_recv hZ hS hi) rfl rfl (by decide) (by decide) (by decide) rfl hl.1 rfl (Nat.le_of_ble_eq_true rfl) d_JString_charAt_1 ⟨Nat.zero_le _, Nat.zero_le _⟩ (fun r u H locs hw hP hD hS => ?_)
  subst hw
  refine lv_if_eq (tgt := 16) hx hb d_JString_charAt_4 (by decide) (fun c_1 => ?_) (fun c_1 => ?_)
  · exact absurd c_1 (by decide)
  · refine lv_aload_n hx hb d_JString_charAt_7 rfl (lv_at hl 0 rfl) ?_
    refine vk_getf hx hb hV hS hown (hts _ k_1195) (fun _ h9 => h9) d_JString_charAt_8 ?_
    refine lv_iload_n hx hb d_JString_charAt_11 rfl (lv_at hl 1 rfl) ?_
    refine g_Si (As := [.ref (Z.2.1 i), .int k]) (rest := []) (wr := []) ⟨hx, hb, hml, hown, hts⟩ (c_Latin1_charAt l D Z kI H.size i k h0 h1 hi) (cw_Latin1_charAt hts k_327 ⟨Nat.le_of_ble_eq_true rfl, Nat.le_of_ble_eq_true rfl⟩) hK hZ hP hD hS hA [] [] rfl rfl (by decide) (by decide) (by decide) rfl hl.1 rfl (Nat.le_of_ble_eq_true rfl) d_JString_charAt_12 ⟨Nat.zero_le _, Nat.zero_le _⟩ (fun r u H locs hw hP hD hS => ?_)
    subst hw
    exact hret (m_String_charAt i k) () _ _ _ _ d_JString_charAt_15 (sc_nar _) rfl hP hD hS
theorem cw_String_charAt {R : Room} {s : State} {args : Array Value} {own : String} {idx : Nat} (hts : ∀ w ∈ gW, w.before args s = true) (hl : Cond.methodLink own idx y_JString_charAt ∈ gW) (hR : rm_String_charAt.frames + 1 ≤ R.frames ∧ 8 + (2 + 11) + rm_String_charAt.locals ≤ R.locals) : CallW R s args own "java/lang/String" idx y_JString_charAt b_JString_charAt 2 (some .char) w_JString_charAt rm_String_charAt 0 0 1 := cwV 1 hts (gW_V hl k_320 k_321 k_79 k_322) rfl rfl rfl (by decide +kernel) hR
