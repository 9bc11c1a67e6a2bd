set_option maxHeartbeats 4000000 in
set_option maxRecDepth 100000 in
theorem law_0 {p : Program} {l : Launch} {e : Env} {s : State} {m : MethodId} {below : List Frame} {meth : Method} {c : Code} {b : Nat} {xs : Nat → Int32} {D : va_G} {Z : gZT} {kI : ClassId} {A : Nat → Prop} {Q : State → Prop} {H : Heap} {locs : List Loc} {ls : Array Slot} {x0 x1 x2 x3 x4 x5 x6 x7 x8 x9 x10 x11 x12 x13 x14 x15 x16 x17 y0 y1 y2 y3 y4 y5 y6 y7 y8 y9 y10 z0 : Nat} {fy1 : Nat → Int64} {fy2 : Nat → Int64} {fy3 : Nat → Int32} {fy4 : Nat → Int32} {fy5 : Nat → Int32} (hnt : ∀ e, l.admits e → e.platform.stackTraces = false) (hx : p.tables.exec = Jvm.exec) (hb : c.code = code) (hml : c.maxLocals = 7) (hown : s.vm.findClass "MailCharactersLaw" = some m.cls) (htl : ∀ w ∈ lw_tbl, w.before #[Value.ref b] s = true) (hts : ∀ w ∈ gW, w.before #[Value.ref b] s = true) (hA : ∀ q, s.heap.size ≤ q → A q) (hK : va_K D vwCl (gTys D kI) s) (hZ : gZ Z A s s.heap) (hX : va_X b 6 xs s s.heap) (hbl : b < s.heap.size) (hbA : ¬ A b) (fin : ∀ (H : Heap) (locs : List Loc) (ls : Array Slot) (k n : Nat), k ≤ 31 → n ≤ 18242 → va_S A s.heap H locs → lv_has ls 7 [(4, .int 0), (0, .ref b)] → W p l e room_1 s m #[Value.ref b] below meth c H locs k n Q (F0 m 521 ls [])) (hP : va_P D vwCl [(x0, .inr (8, [.ref x1, .ref x2, .ref x4, .ref x7, .ref x9, .ref x11, .ref x13, .ref x14, .ref x16])), (x1, .inl (kI, 5, .inl (fun _ => 0))), (x2, .inr (4, [.ref x3, .int (nI ([] : List Int32).length), .int 0])), (x3, .inl (kI, 3000, .inl (fun _ => 0))), (x4, .inr (5, [.ref x5, .ref x6])), (x5, .inr (0, [.int 0, .int 0])), (x6, .inr (2, [.int 0, .int 0, .int 0, .int 0])), (x7, .inr (1, [.ref x8, .int 0])), (x8, .inr (0, [.int 0, .int 0])), (x9, .inr (3, [.ref x10, .int 0])), (x10, .inr (0, [.int 0, .int 0])), (x11, .inr (7, [.ref x12])), (x12, .inr (0, [.int 0, .int 0])), (x13, .inr (6, [.int 0, .int 0, .int 0, .int 0, .int 0])), (x14, .inr (4, [.ref x15, .int (nI ([] : List Int32).length), .int 0])), (x15, .inl (kI, 1500, .inl (fun _ => 0))), (x16, .inr (4, [.ref x17, .int (nI ([] : List Int32).length), .int 0])), (x17, .inl (kI, 1500, .inl (fun _ => 0))), (y0, .inr (9, [.ref y1, .ref y2, .ref y3, .ref y4, .ref y5, .int 0, .ref y6, .ref y7, .int 0, .ref y8, .int 0, .ref y9, .ref y10, .int 0, .int 0, .int 0, .int 0, .int 0, .int 0, .int 0, .int 0, .int 0, .int 0])), (y1, .inl ((D.1 101), 27, .inr (.inl fy1))), (y2, .inl ((D.1 101), 27, .inr (.inl fy2))), (y3, .inl (kI, 27, .inl fy3)), (y4, .inl (kI, 32, .inl fy4)), (y5, .inl (kI, 32, .inl fy5)), (y6, .inl ((D.1 100), 20, .inl (fun _ => 0))), (y7, .inl ((D.1 100), 1500, .inl (fun _ => 0))), (y8, .inl (kI, 3000, .inl (fun _ => 0))), (y9, .inl ((D.1 100), 6000, .inl (fun _ => 0))), (y10, .inl ((D.1 100), 1500, .inl (fun _ => 0))), (z0, .inl ((D.1 101), 1, .inr (.inl (fun _ => 0))))] H) (hD : va_D A [(x0, .inr (8, [.ref x1, .ref x2, .ref x4, .ref x7, .ref x9, .ref x11, .ref x13, .ref x14, .ref x16])), (x1, .inl (kI, 5, .inl (fun _ => 0))), (x2, .inr (4, [.ref x3, .int (nI ([] : List Int32).length), .int 0])), (x3, .inl (kI, 3000, .inl (fun _ => 0))), (x4, .inr (5, [.ref x5, .ref x6])), (x5, .inr (0, [.int 0, .int 0])), (x6, .inr (2, [.int 0, .int 0, .int 0, .int 0])), (x7, .inr (1, [.ref x8, .int 0])), (x8, .inr (0, [.int 0, .int 0])), (x9, .inr (3, [.ref x10, .int 0])), (x10, .inr (0, [.int 0, .int 0])), (x11, .inr (7, [.ref x12])), (x12, .inr (0, [.int 0, .int 0])), (x13, .inr (6, [.int 0, .int 0, .int 0, .int 0, .int 0])), (x14, .inr (4, [.ref x15, .int (nI ([] : List Int32).length), .int 0])), (x15, .inl (kI, 1500, .inl (fun _ => 0))), (x16, .inr (4, [.ref x17, .int (nI ([] : List Int32).length), .int 0])), (x17, .inl (kI, 1500, .inl (fun _ => 0))), (y0, .inr (9, [.ref y1, .ref y2, .ref y3, .ref y4, .ref y5, .int 0, .ref y6, .ref y7, .int 0, .ref y8, .int 0, .ref y9, .ref y10, .int 0, .int 0, .int 0, .int 0, .int 0, .int 0, .int 0, .int 0, .int 0, .int 0])), (y1, .inl ((D.1 101), 27, .inr (.inl fy1))), (y2, .inl ((D.1 101), 27, .inr (.inl fy2))), (y3, .inl (kI, 27, .inl fy3)), (y4, .inl (kI, 32, .inl fy4)), (y5, .inl (kI, 32, .inl fy5)), (y6, .inl ((D.1 100), 20, .inl (fun _ => 0))), (y7, .inl ((D.1 100), 1500, .inl (fun _ => 0))), (y8, .inl (kI, 3000, .inl (fun _ => 0))), (y9, .inl ((D.1 100), 6000, .inl (fun _ => 0))), (y10, .inl ((D.1 100), 1500, .inl (fun _ => 0))), (z0, .inl ((D.1 101), 1, .inr (.inl (fun _ => 0))))]) (hS : va_S A s.heap H locs) (hl : lv_has ls 7 [(4, .int 0), (3, .ref z0), (2, .ref y0), (1, .ref x0), (0, .ref b)]) {p1 : Int32} (e1 : xs 1 = p1) {p2 : Int32} (e2 : xs 2 = p2) {p3 : Int32} (e3 : xs 3 = p3) {p4 : Int32} (e4 : xs 4 = p4) {p5 : Int32} (e5 : xs 5 = p5) : W p l e room_1 s m #[Value.ref b] below meth c H locs 30 18236 Q (F0 m 100 ls []) := by
  refine lv_aload_n hx hb d_law_100 rfl (lv_at hl 3 rfl) ?_
  refine lv_aload_n hx hb d_law_101 rfl (lv_at hl 4 rfl) ?_
  refine lv_iload hx hb d_law_102 (lv_at hl 0 rfl) ?_
  refine lv_iconst (v := 1) hx hb d_law_104 (by decide) ?_
  refine lv_iadd hx hb d_law_105 ?_
  refine lv_topi (fun x_1 ex_1 => ?_)
  obtain rfl : x_1 = 1 := ex_1.trans (by decide)
  refine va_sld hx hb hX hbl hbA hS (by unfold vp_in; decide +kernel) d_law_106 ?_
  refine lv_topi (fun x_2 ex_2 => ?_)
  obtain rfl : p1 = x_2 := (ex_2.trans e1).symm
  refine lv_aload_n hx hb d_law_107 rfl (lv_at hl 4 rfl) ?_
  refine lv_iload hx hb d_law_108 (lv_at hl 0 rfl) ?_
  refine lv_iconst (v := 2) hx hb d_law_110 (by decide) ?_
  refine lv_iadd hx hb d_law_111 ?_
  refine lv_topi (fun x_3 ex_3 => ?_)
  obtain rfl : x_3 = 2 := ex_3.trans (by decide)
  refine va_sld hx hb hX hbl hbA hS (by unfold vp_in; decide +kernel) d_law_112 ?_
  refine lv_topi (fun x_4 ex_4 => ?_)
  obtain rfl : p2 = x_4 := (ex_4.trans e2).symm
  refine lv_aload_n hx hb d_law_113 rfl (lv_at hl 4 rfl) ?_
  refine lv_iload hx hb d_law_114 (lv_at hl 0 rfl) ?_
  refine lv_iconst (v := 3) hx hb d_law_116 (by decide) ?_
  refine lv_iadd hx hb d_law_117 ?_
  refine lv_topi (fun x_5 ex_5 => ?_)
  obtain rfl : x_5 = 3 := ex_5.trans (by decide)
  refine va_sld hx hb hX hbl hbA hS (by unfold vp_in; decide +kernel) d_law_118 ?_
  refine lv_topi (fun x_6 ex_6 => ?_)
  obtain rfl : p3 = x_6 := (ex_6.trans e3).symm
  refine lv_aload_n hx hb d_law_119 rfl (lv_at hl 4 rfl) ?_
  refine lv_iload hx hb d_law_120 (lv_at hl 0 rfl) ?_
  refine lv_iconst (v := 4) hx hb d_law_122 (by decide) ?_
  refine lv_iadd hx hb d_law_123 ?_
  refine lv_topi (fun x_7 ex_7 => ?_)
  obtain rfl : x_7 = 4 := ex_7.trans (by decide)
  refine va_sld hx hb hX hbl hbA hS (by unfold vp_in; decide +kernel) d_law_124 ?_
  refine lv_topi (fun x_8 ex_8 => ?_)
  obtain rfl : p4 = x_8 := (ex_8.trans e4).symm
  refine lv_aload_n hx hb d_law_125 rfl (lv_at hl 4 rfl) ?_
  refine lv_iload hx hb d_law_126 (lv_at hl 0 rfl) ?_
  refine lv_iconst (v := 5) hx hb d_law_128 (by decide) ?_
  refine lv_iadd hx hb d_law_129 ?_
  refine lv_topi (fun x_9 ex_9 => ?_)
  obtain rfl : x_9 = 5 := ex_9.trans (by decide)
  refine va_sld hx hb hX hbl hbA hS (by unfold vp_in; decide +kernel) d_law_130 ?_
  refine lv_topi (fun x_10 ex_10 => ?_)
  obtain rfl : p5 = x_10 := (ex_10.trans e5).symm
  refine g_Vv (As := [.int p1, .int p2, .int p3, .int p4, .int p5]) (rest := []) (wr := [(x2, .inr (4, [.ref x3, .int (nI ([] : List Int32).length), .int 0])), (x3, .inl (kI, 3000, .inl (fun _ => 0))), (x4, .inr (5, [.ref x5, .ref x6])), (x5, .inr (0, [.int 0, .int 0])), (x6, .inr (2, [.int 0, .int 0, .int 0, .int 0])), (x7, .inr (1, [.ref x8, .int 0])), (x8, .inr (0, [.int 0, .int 0])), (x9, .inr (3, [.ref x10, .int 0])), (x10, .inr (0, [.int 0, .int 0])), (x11, .inr (7, [.ref x12])), (x12, .inr (0, [.int 0, .int 0])), (x13, .inr (6, [.int 0, .int 0, .int 0, .int 0, .int 0])), (x14, .inr (4, [.ref x15, .int (nI ([] : List Int32).length), .int 0])), (x15, .inl (kI, 1500, .inl (fun _ => 0))), (x16, .inr (4, [.ref x17, .int (nI ([] : List Int32).length), .int 0])), (x17, .inl (kI, 1500, .inl (fun _ => 0))), (y0, .inr (9, [.ref y1, .ref y2, .ref y3, .ref y4, .ref y5, .int 0, .ref y6, .ref y7, .int 0, .ref y8, .int 0, .ref y9, .ref y10, .int 0, .int 0, .int 0, .int 0, .int 0, .int 0, .int 0, .int 0, .int 0, .int 0])), (y1, .inl ((D.1 101), 27, .inr (.inl fy1))), (y2, .inl ((D.1 101), 27, .inr (.inl fy2))), (y3, .inl (kI, 27, .inl fy3)), (y4, .inl (kI, 32, .inl fy4)), (y5, .inl (kI, 32, .inl fy5)), (y6, .inl ((D.1 100), 20, .inl (fun _ => 0))), (y7, .inl ((D.1 100), 1500, .inl (fun _ => 0))), (y8, .inl (kI, 3000, .inl (fun _ => 0))), (y9, .inl ((D.1 100), 6000, .inl (fun _ => 0))), (y10, .inl ((D.1 100), 1500, .inl (fun _ => 0))), (z0, .inl ((D.1 101), 1, .inr (.inl (fun _ => 0))))]) ⟨hx, hb, hml, hown, hts⟩ (c_MC_feed l D Z kI x0 x2 x4 x7 x9 x11 x13 x14 x16 x1 H.size (fun _ => 0) p1 p2 p3 p4 p5) (cw_MC_feed hts k_264 ⟨Nat.le_of_ble_eq_true rfl, Nat.le_of_ble_eq_true rfl⟩) hK hZ hP hD hS hA [0, 1] [2, 3, 4, 5, 6, 7, 8, 9, 10, 11, 12, 13, 14, 15, 16, 17, 18, 19, 20, 21, 22, 23, 24, 25, 26, 27, 28, 29] (g_recv hK hP (ci := 8) (q0 := 0) rfl rfl) rfl rfl (by decide) (by decide) (by decide) rfl hl.1 rfl (Nat.le_of_ble_eq_true rfl) d_law_131 ⟨Nat.le_of_ble_eq_true rfl, Nat.le_of_ble_eq_true rfl⟩ (fun u_11 H locs hw hP hD hS => ?_)
  have hP : va_P D vwCl [(x2, .inr (4, [.ref x3, .int (nI ([] : List Int32).length), .int 0])), (x3, .inl (kI, 3000, .inl (fun _ => 0))), (x4, .inr (5, [.ref x5, .ref x6])), (x5, .inr (0, [.int 0, .int 0])), (x6, .inr (2, [.int 0, .int 0, .int 0, .int 0])), (x7, .inr (1, [.ref x8, .int 0])), (x8, .inr (0, [.int 0, .int 0])), (x9, .inr (3, [.ref x10, .int 0])), (x10, .inr (0, [.int 0, .int 0])), (x11, .inr (7, [.ref x12])), (x12, .inr (0, [.int 0, .int 0])), (x13, .inr (6, [.int 0, .int 0, .int 0, .int 0, .int 0])), (x14, .inr (4, [.ref x15, .int (nI ([] : List Int32).length), .int 0])), (x15, .inl (kI, 1500, .inl (fun _ => 0))), (x16, .inr (4, [.ref x17, .int (nI ([] : List Int32).length), .int 0])), (x17, .inl (kI, 1500, .inl (fun _ => 0))), (y0, .inr (9, [.ref y1, .ref y2, .ref y3, .ref y4, .ref y5, .int 0, .ref y6, .ref y7, .int 0, .ref y8, .int 0, .ref y9, .ref y10, .int 0, .int 0, .int 0, .int 0, .int 0, .int 0, .int 0, .int 0, .int 0, .int 0])), (y1, .inl ((D.1 101), 27, .inr (.inl fy1))), (y2, .inl ((D.1 101), 27, .inr (.inl fy2))), (y3, .inl (kI, 27, .inl fy3)), (y4, .inl (kI, 32, .inl fy4)), (y5, .inl (kI, 32, .inl fy5)), (y6, .inl ((D.1 100), 20, .inl (fun _ => 0))), (y7, .inl ((D.1 100), 1500, .inl (fun _ => 0))), (y8, .inl (kI, 3000, .inl (fun _ => 0))), (y9, .inl ((D.1 100), 6000, .inl (fun _ => 0))), (y10, .inl ((D.1 100), 1500, .inl (fun _ => 0))), (z0, .inl ((D.1 101), 1, .inr (.inl (fun _ => 0))))] H := hP.sub [0, 1, 2, 3, 4, 5, 6, 7, 8, 9, 10, 11, 12, 13, 14, 15, 16, 17, 18, 19, 20, 21, 22, 23, 24, 25, 26, 27] rfl
  have hD : va_D A [(x2, .inr (4, [.ref x3, .int (nI ([] : List Int32).length), .int 0])), (x3, .inl (kI, 3000, .inl (fun _ => 0))), (x4, .inr (5, [.ref x5, .ref x6])), (x5, .inr (0, [.int 0, .int 0])), (x6, .inr (2, [.int 0, .int 0, .int 0, .int 0])), (x7, .inr (1, [.ref x8, .int 0])), (x8, .inr (0, [.int 0, .int 0])), (x9, .inr (3, [.ref x10, .int 0])), (x10, .inr (0, [.int 0, .int 0])), (x11, .inr (7, [.ref x12])), (x12, .inr (0, [.int 0, .int 0])), (x13, .inr (6, [.int 0, .int 0, .int 0, .int 0, .int 0])), (x14, .inr (4, [.ref x15, .int (nI ([] : List Int32).length), .int 0])), (x15, .inl (kI, 1500, .inl (fun _ => 0))), (x16, .inr (4, [.ref x17, .int (nI ([] : List Int32).length), .int 0])), (x17, .inl (kI, 1500, .inl (fun _ => 0))), (y0, .inr (9, [.ref y1, .ref y2, .ref y3, .ref y4, .ref y5, .int 0, .ref y6, .ref y7, .int 0, .ref y8, .int 0, .ref y9, .ref y10, .int 0, .int 0, .int 0, .int 0, .int 0, .int 0, .int 0, .int 0, .int 0, .int 0])), (y1, .inl ((D.1 101), 27, .inr (.inl fy1))), (y2, .inl ((D.1 101), 27, .inr (.inl fy2))), (y3, .inl (kI, 27, .inl fy3)), (y4, .inl (kI, 32, .inl fy4)), (y5, .inl (kI, 32, .inl fy5)), (y6, .inl ((D.1 100), 20, .inl (fun _ => 0))), (y7, .inl ((D.1 100), 1500, .inl (fun _ => 0))), (y8, .inl (kI, 3000, .inl (fun _ => 0))), (y9, .inl ((D.1 100), 6000, .inl (fun _ => 0))), (y10, .inl ((D.1 100), 1500, .inl (fun _ => 0))), (z0, .inl ((D.1 101), 1, .inr (.inl (fun _ => 0))))] := hD.sub [0, 1, 2, 3, 4, 5, 6, 7, 8, 9, 10, 11, 12, 13, 14, 15, 16, 17, 18, 19, 20, 21, 22, 23, 24, 25, 26, 27] (by decide) rfl
  refine lv_aload_n hx hb d_law_134 rfl (lv_at hl 2 rfl) ?_
  refine lv_aload_n hx hb d_law_135 rfl (lv_at hl 4 rfl) ?_
  refine lv_iload hx hb d_law_136 (lv_at hl 0 rfl) ?_
  refine lv_iconst (v := 1) hx hb d_law_138 (by decide) ?_
  refine lv_iadd hx hb d_law_139 ?_
  refine lv_topi (fun x_12 ex_12 => ?_)
  obtain rfl : x_12 = 1 := ex_12.trans (by decide)
  refine va_sld hx hb hX hbl hbA hS (by unfold vp_in; decide +kernel) d_law_140 ?_
  refine lv_topi (fun x_13 ex_13 => ?_)
  obtain rfl : p1 = x_13 := (ex_13.trans e1).symm
  refine lv_aload_n hx hb d_law_141 rfl (lv_at hl 4 rfl) ?_
  refine lv_iload hx hb d_law_142 (lv_at hl 0 rfl) ?_
  refine lv_iconst (v := 2) hx hb d_law_144 (by decide) ?_
  refine lv_iadd hx hb d_law_145 ?_
  refine lv_topi (fun x_14 ex_14 => ?_)
  obtain rfl : x_14 = 2 := ex_14.trans (by decide)
  refine va_sld hx hb hX hbl hbA hS (by unfold vp_in; decide +kernel) d_law_146 ?_
  refine lv_topi (fun x_15 ex_15 => ?_)
  obtain rfl : p2 = x_15 := (ex_15.trans e2).symm
  refine lv_aload_n hx hb d_law_147 rfl (lv_at hl 4 rfl) ?_
  refine lv_iload hx hb d_law_148 (lv_at hl 0 rfl) ?_
  refine lv_iconst (v := 3) hx hb d_law_150 (by decide) ?_
  refine lv_iadd hx hb d_law_151 ?_
  refine lv_topi (fun x_16 ex_16 => ?_)
  obtain rfl : x_16 = 3 := ex_16.trans (by decide)
  refine va_sld hx hb hX hbl hbA hS (by unfold vp_in; decide +kernel) d_law_152 ?_
  refine lv_topi (fun x_17 ex_17 => ?_)
  obtain rfl : p3 = x_17 := (ex_17.trans e3).symm
  refine lv_aload_n hx hb d_law_153 rfl (lv_at hl 4 rfl) ?_
  refine lv_iload hx hb d_law_154 (lv_at hl 0 rfl) ?_
  refine lv_iconst (v := 4) hx hb d_law_156 (by decide) ?_
  refine lv_iadd hx hb d_law_157 ?_
  refine lv_topi (fun x_18 ex_18 => ?_)
  obtain rfl : x_18 = 4 := ex_18.trans (by decide)
  refine va_sld hx hb hX hbl hbA hS (by unfold vp_in; decide +kernel) d_law_158 ?_
  refine lv_topi (fun x_19 ex_19 => ?_)
  obtain rfl : p4 = x_19 := (ex_19.trans e4).symm
  refine lv_aload_n hx hb d_law_159 rfl (lv_at hl 4 rfl) ?_
  refine lv_iload hx hb d_law_160 (lv_at hl 0 rfl) ?_
  refine lv_iconst (v := 5) hx hb d_law_162 (by decide) ?_
  refine lv_iadd hx hb d_law_163 ?_
  refine lv_topi (fun x_20 ex_20 => ?_)
  obtain rfl : x_20 = 5 := ex_20.trans (by decide)
  refine va_sld hx hb hX hbl hbA hS (by unfold vp_in; decide +kernel) d_law_164 ?_
  refine lv_topi (fun x_21 ex_21 => ?_)
  obtain rfl : p5 = x_21 := (ex_21.trans e5).symm
  refine g_Vv (As := [.int p1, .int p2, .int p3, .int p4, .int p5]) (rest := []) (wr := [(x2, .inr (4, [.ref x3, .int (nI ([] : List Int32).length), .int 0])), (x3, .inl (kI, 3000, .inl (fun _ => 0))), (x4, .inr (5, [.ref x5, .ref x6])), (x5, .inr (0, [.int 0, .int 0])), (x6, .inr (2, [.int 0, .int 0, .int 0, .int 0])), (x7, .inr (1, [.ref x8, .int 0])), (x8, .inr (0, [.int 0, .int 0])), (x9, .inr (3, [.ref x10, .int 0])), (x10, .inr (0, [.int 0, .int 0])), (x11, .inr (7, [.ref x12])), (x12, .inr (0, [.int 0, .int 0])), (x13, .inr (6, [.int 0, .int 0, .int 0, .int 0, .int 0])), (x14, .inr (4, [.ref x15, .int (nI ([] : List Int32).length), .int 0])), (x15, .inl (kI, 1500, .inl (fun _ => 0))), (x16, .inr (4, [.ref x17, .int (nI ([] : List Int32).length), .int 0])), (x17, .inl (kI, 1500, .inl (fun _ => 0))), (y1, .inl ((D.1 101), 27, .inr (.inl fy1))), (y2, .inl ((D.1 101), 27, .inr (.inl fy2))), (y3, .inl (kI, 27, .inl fy3)), (y4, .inl (kI, 32, .inl fy4)), (y5, .inl (kI, 32, .inl fy5)), (y7, .inl ((D.1 100), 1500, .inl (fun _ => 0))), (y8, .inl (kI, 3000, .inl (fun _ => 0))), (y9, .inl ((D.1 100), 6000, .inl (fun _ => 0))), (y10, .inl ((D.1 100), 1500, .inl (fun _ => 0))), (z0, .inl ((D.1 101), 1, .inr (.inl (fun _ => 0))))]) ⟨hx, hb, hml, hown, hts⟩ (c_MM_feed_0 l D Z kI y0 y6 y1 y2 y3 y4 y5 y7 y8 y9 y10 H.size (fun _ => 0) p1 p2 p3 p4 p5) (cw_MM_feed_0 hts k_948 ⟨Nat.le_of_ble_eq_true rfl, Nat.le_of_ble_eq_true rfl⟩) hK hZ hP hD hS hA [16, 22] [0, 1, 2, 3, 4, 5, 6, 7, 8, 9, 10, 11, 12, 13, 14, 15, 17, 18, 19, 20, 21, 23, 24, 25, 26, 27] (g_recv hK hP (ci := 9) (q0 := 16) rfl rfl) rfl rfl (by decide) (by decide) (by decide) rfl hl.1 rfl (Nat.le_of_ble_eq_true rfl) d_law_165 ⟨Nat.le_of_ble_eq_true rfl, Nat.le_of_ble_eq_true rfl⟩ (fun u_22 H locs hw hP hD hS => ?_)
  have hP : va_P D vwCl [(x2, .inr (4, [.ref x3, .int (nI ([] : List Int32).length), .int 0])), (x3, .inl (kI, 3000, .inl (fun _ => 0))), (x4, .inr (5, [.ref x5, .ref x6])), (x5, .inr (0, [.int 0, .int 0])), (x6, .inr (2, [.int 0, .int 0, .int 0, .int 0])), (x7, .inr (1, [.ref x8, .int 0])), (x8, .inr (0, [.int 0, .int 0])), (x9, .inr (3, [.ref x10, .int 0])), (x10, .inr (0, [.int 0, .int 0])), (x11, .inr (7, [.ref x12])), (x12, .inr (0, [.int 0, .int 0])), (x13, .inr (6, [.int 0, .int 0, .int 0, .int 0, .int 0])), (x14, .inr (4, [.ref x15, .int (nI ([] : List Int32).length), .int 0])), (x15, .inl (kI, 1500, .inl (fun _ => 0))), (x16, .inr (4, [.ref x17, .int (nI ([] : List Int32).length), .int 0])), (x17, .inl (kI, 1500, .inl (fun _ => 0))), (y1, .inl ((D.1 101), 27, .inr (.inl fy1))), (y2, .inl ((D.1 101), 27, .inr (.inl fy2))), (y3, .inl (kI, 27, .inl fy3)), (y4, .inl (kI, 32, .inl fy4)), (y5, .inl (kI, 32, .inl fy5)), (y7, .inl ((D.1 100), 1500, .inl (fun _ => 0))), (y8, .inl (kI, 3000, .inl (fun _ => 0))), (y9, .inl ((D.1 100), 6000, .inl (fun _ => 0))), (y10, .inl ((D.1 100), 1500, .inl (fun _ => 0))), (z0, .inl ((D.1 101), 1, .inr (.inl (fun _ => 0)))), (y0, .inr (9, [.ref y1, .ref y2, .ref y3, .ref y4, .ref y5, .int 0, .ref y6, .ref y7, .int 0, .ref y8, .int 0, .ref y9, .ref y10, .int 0, .int 0, .int 0, .int 0, .int 0, .int 0, .int 0, .int 0, .int 0, .int 0])), (y6, .inl ((D.1 100), 20, .inl u_22))] H := hP
  have hD : va_D A [(x2, .inr (4, [.ref x3, .int (nI ([] : List Int32).length), .int 0])), (x3, .inl (kI, 3000, .inl (fun _ => 0))), (x4, .inr (5, [.ref x5, .ref x6])), (x5, .inr (0, [.int 0, .int 0])), (x6, .inr (2, [.int 0, .int 0, .int 0, .int 0])), (x7, .inr (1, [.ref x8, .int 0])), (x8, .inr (0, [.int 0, .int 0])), (x9, .inr (3, [.ref x10, .int 0])), (x10, .inr (0, [.int 0, .int 0])), (x11, .inr (7, [.ref x12])), (x12, .inr (0, [.int 0, .int 0])), (x13, .inr (6, [.int 0, .int 0, .int 0, .int 0, .int 0])), (x14, .inr (4, [.ref x15, .int (nI ([] : List Int32).length), .int 0])), (x15, .inl (kI, 1500, .inl (fun _ => 0))), (x16, .inr (4, [.ref x17, .int (nI ([] : List Int32).length), .int 0])), (x17, .inl (kI, 1500, .inl (fun _ => 0))), (y1, .inl ((D.1 101), 27, .inr (.inl fy1))), (y2, .inl ((D.1 101), 27, .inr (.inl fy2))), (y3, .inl (kI, 27, .inl fy3)), (y4, .inl (kI, 32, .inl fy4)), (y5, .inl (kI, 32, .inl fy5)), (y7, .inl ((D.1 100), 1500, .inl (fun _ => 0))), (y8, .inl (kI, 3000, .inl (fun _ => 0))), (y9, .inl ((D.1 100), 6000, .inl (fun _ => 0))), (y10, .inl ((D.1 100), 1500, .inl (fun _ => 0))), (z0, .inl ((D.1 101), 1, .inr (.inl (fun _ => 0)))), (y0, .inr (9, [.ref y1, .ref y2, .ref y3, .ref y4, .ref y5, .int 0, .ref y6, .ref y7, .int 0, .ref y8, .int 0, .ref y9, .ref y10, .int 0, .int 0, .int 0, .int 0, .int 0, .int 0, .int 0, .int 0, .int 0, .int 0])), (y6, .inl ((D.1 100), 20, .inl u_22))] := hD
  refine lv_goto (tgt := 521) hx hb d_law_168 (by decide) ?_
  exact fin _ _ _ _ _ (Nat.le_of_ble_eq_true rfl) (Nat.le_of_ble_eq_true rfl) hS (lv_sub hl [0, 4] rfl)
