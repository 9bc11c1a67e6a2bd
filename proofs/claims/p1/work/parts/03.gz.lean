/-! what stays the same through the whole run: links inside the nest, text constants, static tables -/
abbrev gZT : Type := (Nat → Nat) × (Nat → Nat) × (Nat → Nat)
def gNf : List (String × Nat × String × String × String) := [("MailCharacters", 121, "MailCharacters$Word", "next", "I"), ("MailCharacters", 133, "MailCharacters$Row", "over", "Z"), ("MailCharacters", 154, "MailCharacters$Word", "charset", "I"), ("MailCharacters$Uncoder", 42, "MailCharacters$Word", "based", "Z"), ("MailCharacters$Uncoder", 48, "MailCharacters$Word", "from", "I"), ("MailCharacters$Uncoder", 52, "MailCharacters$Word", "to", "I"), ("MailCharacters$Uncoder", 93, "MailCharacters$Line", "from", "I"), ("MailCharacters$Uncoder", 94, "MailCharacters$Line", "to", "I"), ("MailCharacters$Uncoder", 99, "MailCharacters$Line", "ended", "Z")]
def gNm : List (String × Nat × MethodName) := [("MailCharacters", 24, ⟨"MailCharacters$Uncoder", "<init>", "()V"⟩), ("MailCharacters", 31, ⟨"MailCharacters$Coder", "<init>", "()V"⟩), ("MailCharacters", 38, ⟨"MailCharacters$Reader", "<init>", "()V"⟩), ("MailCharacters", 45, ⟨"MailCharacters$Writer", "<init>", "()V"⟩), ("MailCharacters", 52, ⟨"MailCharacters$Word", "<init>", "()V"⟩), ("MailCharacters$Coder", 11, ⟨"MailCharacters$Bits", "<init>", "()V"⟩), ("MailCharacters$Reader", 11, ⟨"MailCharacters$Bits", "<init>", "()V"⟩), ("MailCharacters$Uncoder", 11, ⟨"MailCharacters$Bits", "<init>", "()V"⟩), ("MailCharacters$Uncoder", 20, ⟨"MailCharacters$Line", "<init>", "()V"⟩), ("MailCharacters$Writer", 11, ⟨"MailCharacters$Bits", "<init>", "()V"⟩)]
def gnS : Nat := 18
def gOwn : List String := ["MailCharacters", "MailCharacters", "MailCharacters", "MailCharacters", "MailCharacters$Letters", "MailCharacters$Names", "MailCharacters$Names", "MailCharacters$Names", "MailCharacters$Names", "MailCharacters$Names", "MailCharacters$Names", "MailCharacters$Names", "MailCharacters$Names", "MailCharacters$Names", "MailCharacters$Names", "MailCharacters$Names", "MailCharacters$Uncoder", "MailCharacters$Uncoder"]
def gIx : List Nat := [88, 104, 128, 139, 11, 19, 21, 23, 25, 27, 29, 31, 33, 35, 37, 39, 108, 123]
def gTx : List String := ["no such coding", "no such charset", "not a coding to be made", "more bytes than the tape takes", "0123456789ABCDEF", "us-ascii ascii iso646-us ansi_x3.4-1968 cp367 ", "iso-8859-1 iso8859-1 latin1 l1 cp819 ", "iso-8859-15 iso8859-15 latin9 latin-9 ", "windows-1252 cp1252 x-cp1252 ", "utf-8 utf8 ", "utf-16 utf16 ", "utf-16be ", "utf-16le ", "koi8-r koi8r ", "utf-7 utf7 ", "", "begin ", "end"]
def gLen : List Nat := [14, 15, 23, 30, 16, 46, 37, 38, 29, 11, 13, 9, 9, 13, 11, 0, 6, 3]
def gByt : List (List Int32) := [[110, 111, 32, 115, 117, 99, 104, 32, 99, 111, 100, 105, 110, 103], [110, 111, 32, 115, 117, 99, 104, 32, 99, 104, 97, 114, 115, 101, 116], [110, 111, 116, 32, 97, 32, 99, 111, 100, 105, 110, 103, 32, 116, 111, 32, 98, 101, 32, 109, 97, 100, 101], [109, 111, 114, 101, 32, 98, 121, 116, 101, 115, 32, 116, 104, 97, 110, 32, 116, 104, 101, 32, 116, 97, 112, 101, 32, 116, 97, 107, 101, 115], [48, 49, 50, 51, 52, 53, 54, 55, 56, 57, 65, 66, 67, 68, 69, 70], [117, 115, 45, 97, 115, 99, 105, 105, 32, 97, 115, 99, 105, 105, 32, 105, 115, 111, 54, 52, 54, 45, 117, 115, 32, 97, 110, 115, 105, 95, 120, 51, 46, 52, 45, 49, 57, 54, 56, 32, 99, 112, 51, 54, 55, 32], [105, 115, 111, 45, 56, 56, 53, 57, 45, 49, 32, 105, 115, 111, 56, 56, 53, 57, 45, 49, 32, 108, 97, 116, 105, 110, 49, 32, 108, 49, 32, 99, 112, 56, 49, 57, 32], [105, 115, 111, 45, 56, 56, 53, 57, 45, 49, 53, 32, 105, 115, 111, 56, 56, 53, 57, 45, 49, 53, 32, 108, 97, 116, 105, 110, 57, 32, 108, 97, 116, 105, 110, 45, 57, 32], [119, 105, 110, 100, 111, 119, 115, 45, 49, 50, 53, 50, 32, 99, 112, 49, 50, 53, 50, 32, 120, 45, 99, 112, 49, 50, 53, 50, 32], [117, 116, 102, 45, 56, 32, 117, 116, 102, 56, 32], [117, 116, 102, 45, 49, 54, 32, 117, 116, 102, 49, 54, 32], [117, 116, 102, 45, 49, 54, 98, 101, 32], [117, 116, 102, 45, 49, 54, 108, 101, 32], [107, 111, 105, 56, 45, 114, 32, 107, 111, 105, 56, 114, 32], [117, 116, 102, 45, 55, 32, 117, 116, 102, 55, 32], [], [98, 101, 103, 105, 110, 32], [101, 110, 100]]
def gnT : Nat := 3
def gTn : List String := ["LATIN9_PAIRS", "WINDOWS_ROW", "KOI_ROW"]
def gTab : List (List Int32) := [[164, 8364, 166, 352, 168, 353, 180, 381, 184, 382, 188, 338, 189, 339, 190, 376], [8364, 65533, 8218, 402, 8222, 8230, 8224, 8225, 710, 8240, 352, 8249, 338, 65533, 381, 65533, 65533, 8216, 8217, 8220, 8221, 8226, 8211, 8212, 732, 8482, 353, 8250, 339, 65533, 382, 376], [1102, 1072, 1073, 1094, 1076, 1077, 1092, 1075, 1093, 1080, 1081, 1082, 1083, 1084, 1085, 1086, 1087, 1103, 1088, 1089, 1090, 1091, 1078, 1074, 1100, 1099, 1079, 1096, 1101, 1097, 1095, 1098]]
def tN (t : Nat) : Nat := (gTab.getD t []).length
def tF (t j : Nat) : Int32 := (gTab.getD t []).getD j 0
def m_String_length (s : Nat) : Int32 := nI (gLen.getD s 0)
def m_String_charAt (s : Nat) (k : Int32) : Int32 := ((gByt.getD s []).getD k.toNatClampNeg 0) &&& 255
theorem gT_small {t : Nat} (h : t < gnT) : tN t < 2 ^ 31 := by
  have h : t < 3 := h
  rcases (show t = 0 ∨ t = 1 ∨ t = 2 by omega) with rfl | rfl | rfl <;> decide
/-! Throwable's two statics: words that the library's law of a throw asks, in a form that can be carried -/
def gTh (n d : String) (A : Nat → Prop) (U : State) (H : Heap) : Prop := ∃ (c : ClassId) (k : Class) (i : Nat) (f : Field) (a : Nat) (cell : Cell) (v : Value), U.vm.findClass "java/lang/Throwable" = some c ∧ U.fieldFound? "java/lang/Throwable" n d = some (c, k, i, f) ∧ f.isStatic = true ∧ k.statics = some a ∧ H[a]? = some cell ∧ cell.vm.isStatics = true ∧ cell.cls = c ∧ f.slot < cell.slots.size ∧ k.staticTypes[f.slot]? = some f.type ∧ cell.slots[f.slot]? = some v ∧ (v = .null ∨ ∃ x, v = .ref x) ∧ ¬ A a
theorem gTh.moved {n d : String} {A : Nat → Prop} {u U : State} {H : Heap} (hvm : u.vm.Alike U.vm) (h : gTh n d A u H) : gTh n d A U H := by
  obtain ⟨c, k, i, f, a, cell, v, h0, h1, h2, h3, h4, h5, h6, h7, h8, h9⟩ := h
  obtain ⟨k', hi', he⟩ := State.fieldFound?_setVm hvm h1
  exact ⟨c, k', i, f, a, cell, v, by rw [hvm.findClass]; exact h0, hi', h2, by rw [he]; exact h3, h4, h5, h6, h7, by rw [he]; exact h8, h9⟩
theorem gTh.kept {n d : String} {A : Nat → Prop} {U : State} {H H1 : Heap} (h : gTh n d A U H) (hq : ∀ a : Nat, a < H.size → ¬ A a → H1[a]? = H[a]?) : gTh n d A U H1 := by
  obtain ⟨c, k, i, f, a, cell, v, h0, h1, h2, h3, h4, h5, h6, h7, h8, h9, h10, h11⟩ := h
  exact ⟨c, k, i, f, a, cell, v, h0, h1, h2, h3, by rw [hq a (Array.getElem?_eq_some_iff.mp h4).1 h11]; exact h4, h5, h6, h7, h8, h9, h10, h11⟩
theorem gTh.narrow {n d : String} {A B : Nat → Prop} {U : State} {H : Heap} (h : gTh n d A U H) (hAB : ∀ q, B q → A q) : gTh n d B U H := by
  obtain ⟨c, k, i, f, a, cell, v, h0, h1, h2, h3, h4, h5, h6, h7, h8, h9, h10, h11⟩ := h
  exact ⟨c, k, i, f, a, cell, v, h0, h1, h2, h3, h4, h5, h6, h7, h8, h9, h10, fun z => h11 (hAB a z)⟩
theorem gTh.lays {n d : String} {A : Nat → Prop} {U : State} {args : Array Value} (h : gTh n d A U U.heap) : (Cond.laysStatic "java/lang/Throwable" n d).before args U = true := by
  obtain ⟨c, k, i, f, a, cell, v, h0, h1, h2, h3, h4, h5, h6, h7, h8, h9, h10, h11⟩ := h
  simp [Cond.before, Cond.holds, Cond.value, h0, h1, h2, h3, h4, h5, h6, h7, h8]
theorem gTh.isRef {n d : String} {A : Nat → Prop} {U : State} {args : Array Value} (h : gTh n d A U U.heap) : (Cond.isRef (.static "java/lang/Throwable" n d)).before args U = true := by
  obtain ⟨c, k, i, f, a, cell, v, h0, h1, h2, h3, h4, h5, h6, h7, h8, h9, h10, h11⟩ := h
  have hv : (Term.static "java/lang/Throwable" n d).eval args U none [] U = some v := Term.static_eval h1 h2 h3 h4 h5 h9
  rcases h10 with rfl | ⟨x, rfl⟩ <;> simp [Cond.before, Cond.holds, Cond.value, hv]
def gDx : List MethodName := [⟨"java/lang/RuntimeException", "<init>", "(Ljava/lang/String;)V"⟩, ⟨"java/lang/Exception", "<init>", "(Ljava/lang/String;)V"⟩, ⟨"java/lang/Throwable", "<init>", "(Ljava/lang/String;)V"⟩]
def gCx : List String := ["java/lang/IllegalArgumentException", "java/lang/IllegalStateException"]
/-- what a throw needs beside the words of gW -/
def gZx (A : Nat → Prop) (U : State) (H : Heap) : Prop := (∀ x ∈ gDx, va_Nw (.declares x) U) ∧ (∀ x ∈ gCx, va_Nw (.castable x x) U) ∧ gTh "UNASSIGNED_STACK" "[Ljava/lang/StackTraceElement;" A U H ∧ gTh "SUPPRESSED_SENTINEL" "Ljava/util/List;" A U H
theorem gZx.same {A : Nat → Prop} {u U : State} {H : Heap} (hv : u.vm = U.vm) (h : gZx A u H) : gZx A U H := by
  have hm : u.vm.Alike U.vm := by rw [hv]; exact Vm.Alike.refl _
  exact ⟨fun q hq => va_Nw.same rfl hv (h.1 q hq), fun q hq => va_Nw.same rfl hv (h.2.1 q hq), h.2.2.1.moved hm, h.2.2.2.moved hm⟩
theorem gZx.warm {A : Nat → Prop} {u U : State} {H : Heap} (hW : u.WarmedH U.vm) (h : gZx A u H) : gZx A U H :=
  ⟨fun q hq => va_Nw.warmD hW (h.1 q hq), fun q hq => va_Nw.warmC hW (h.2.1 q hq), h.2.2.1.moved hW.alike, h.2.2.2.moved hW.alike⟩
theorem gZx.kept {A : Nat → Prop} {U : State} {H H1 : Heap} (h : gZx A U H) (hq : ∀ a : Nat, a < H.size → ¬ A a → H1[a]? = H[a]?) : gZx A U H1 := ⟨h.1, h.2.1, h.2.2.1.kept hq, h.2.2.2.kept hq⟩
theorem gZx.narrow {A B : Nat → Prop} {U : State} {H : Heap} (h : gZx A U H) (hAB : ∀ q, B q → A q) : gZx B U H := ⟨h.1, h.2.1, h.2.2.1.narrow hAB, h.2.2.2.narrow hAB⟩
def gZ (Z : gZT) (A : Nat → Prop) (U : State) (H : Heap) : Prop :=
  (∀ q ∈ gNf, va_Nw (.fieldLinkNest q.1 q.2.1 q.2.2.1 q.2.2.2.1 q.2.2.2.2 "MailCharacters") U) ∧ (∀ q ∈ gNm, va_Nw (.methodLinkNest q.1 q.2.1 q.2.2 "MailCharacters") U) ∧
  vk_S gnS gLen gByt Z.1 Z.2.1 A U H ∧ (∀ i, i < gnS → vk_R (gOwn.getD i "") (gIx.getD i 0) (gTx.getD i "") (Z.1 i) U) ∧
  (∀ t, t < gnT → va_Z "MailCharacters$SingleBytes" (gTn.getD t "") "[I" (.ref (Z.2.2 t)) A U H ∧ va_T .int (Z.2.2 t) (tN t) (fun j => .int (tF t j)) A U H) ∧
  va_Z "java/lang/String" "COMPACT_STRINGS" "Z" (.int 1) A U H ∧ va_Zq "jdk/internal/util/Preconditions" "SIOOBE_FORMATTER" "Ljava/util/function/BiFunction;" A U H ∧ gZx A U H
theorem gZ.same {Z : gZT} {A : Nat → Prop} {u U : State} {H : Heap} (hv : u.vm = U.vm) (h : gZ Z A u H) : gZ Z A U H := by
  obtain ⟨h1, h2, h3, h4, h5, h6, h7, h8⟩ := h
  have hm : u.vm.Alike U.vm := by rw [hv]; exact Vm.Alike.refl _
  exact ⟨fun q hq => va_Nw.same rfl hv (h1 q hq), fun q hq => va_Nw.same rfl hv (h2 q hq), h3.moved hm, fun i hi => (h4 i hi).same hv.symm, fun t ht => ⟨(h5 t ht).1.moved hm, (h5 t ht).2.moved hm⟩, h6.moved hm, h7.moved hm, h8.same hv⟩
theorem gZ.warm {Z : gZT} {A : Nat → Prop} {u U : State} {H : Heap} (hW : u.WarmedH U.vm) (h : gZ Z A u H) : gZ Z A U H := by
  obtain ⟨h1, h2, h3, h4, h5, h6, h7, h8⟩ := h
  exact ⟨fun q hq => va_Nw.warmF hW (h1 q hq), fun q hq => va_Nw.warmM hW (h2 q hq), h3.moved hW.alike, fun i hi => (h4 i hi).warm hW, fun t ht => ⟨(h5 t ht).1.moved hW.alike, (h5 t ht).2.moved hW.alike⟩, h6.moved hW.alike, h7.moved hW.alike, h8.warm hW⟩
theorem gZ.kept {Z : gZT} {A : Nat → Prop} {U : State} {H H1 : Heap} (h : gZ Z A U H) (hq : ∀ a : Nat, a < H.size → ¬ A a → H1[a]? = H[a]?) : gZ Z A U H1 := by
  obtain ⟨h1, h2, h3, h4, h5, h6, h7, h8⟩ := h
  exact ⟨h1, h2, h3.kept hq, h4, fun t ht => ⟨(h5 t ht).1.kept hq, (h5 t ht).2.kept hq⟩, h6.kept hq, h7.kept hq, h8.kept hq⟩
theorem gZ.narrow {Z : gZT} {A B : Nat → Prop} {U : State} {H : Heap} (h : gZ Z A U H) (hAB : ∀ q, B q → A q) : gZ Z B U H := by
  obtain ⟨h1, h2, h3, h4, h5, h6, h7, h8⟩ := h
  exact ⟨h1, h2, h3.narrow hAB, h4, fun t ht => ⟨(h5 t ht).1.narrow hAB, (h5 t ht).2.narrow hAB⟩, h6.narrow hAB, h7.narrow hAB, h8.narrow hAB⟩
theorem gZ_nf {Z : gZT} {A : Nat → Prop} {U : State} {H : Heap} {args : Array Value} (h : gZ Z A U H) (i : Nat) {q : String × Nat × String × String × String} (hq : gNf[i]? = some q) : (Cond.fieldLinkNest q.1 q.2.1 q.2.2.1 q.2.2.2.1 q.2.2.2.2 "MailCharacters").before args U = true := va_Nw.use rfl (h.1 q (List.mem_of_getElem? hq))
theorem gZ_nm {Z : gZT} {A : Nat → Prop} {U : State} {H : Heap} (h : gZ Z A U H) (i : Nat) {q : String × Nat × MethodName} (hq : gNm[i]? = some q) : va_Nw (.methodLinkNest q.1 q.2.1 q.2.2 "MailCharacters") U := h.2.1 q (List.mem_of_getElem? hq)
theorem gZ_str {Z : gZT} {A : Nat → Prop} {U : State} {H : Heap} (h : gZ Z A U H) : vk_S gnS gLen gByt Z.1 Z.2.1 A U H := h.2.2.1
theorem gZ_lit {Z : gZT} {A : Nat → Prop} {U : State} {H : Heap} (h : gZ Z A U H) {i : Nat} (hi : i < gnS) : vk_R (gOwn.getD i "") (gIx.getD i 0) (gTx.getD i "") (Z.1 i) U := h.2.2.2.1 i hi
theorem gZ_st {Z : gZT} {A : Nat → Prop} {U : State} {H : Heap} (h : gZ Z A U H) {t : Nat} (ht : t < gnT) : va_Z "MailCharacters$SingleBytes" (gTn.getD t "") "[I" (.ref (Z.2.2 t)) A U H := (h.2.2.2.2.1 t ht).1
theorem gZ_st0 {Z : gZT} {A : Nat → Prop} {U : State} {H : Heap} (h : gZ Z A U H) : va_Z "MailCharacters$SingleBytes" "LATIN9_PAIRS" "[I" (.ref (Z.2.2 0)) A U H := gZ_st h (t := 0) (by decide)
theorem gZ_st1 {Z : gZT} {A : Nat → Prop} {U : State} {H : Heap} (h : gZ Z A U H) : va_Z "MailCharacters$SingleBytes" "WINDOWS_ROW" "[I" (.ref (Z.2.2 1)) A U H := gZ_st h (t := 1) (by decide)
theorem gZ_st2 {Z : gZT} {A : Nat → Prop} {U : State} {H : Heap} (h : gZ Z A U H) : va_Z "MailCharacters$SingleBytes" "KOI_ROW" "[I" (.ref (Z.2.2 2)) A U H := gZ_st h (t := 2) (by decide)
theorem gZ_tab {Z : gZT} {A : Nat → Prop} {U : State} {H : Heap} (h : gZ Z A U H) {t : Nat} (ht : t < gnT) : va_T .int (Z.2.2 t) (tN t) (fun j => .int (tF t j)) A U H := (h.2.2.2.2.1 t ht).2
theorem gZ_cs {Z : gZT} {A : Nat → Prop} {U : State} {H : Heap} (h : gZ Z A U H) : va_Z "java/lang/String" "COMPACT_STRINGS" "Z" (.int 1) A U H := h.2.2.2.2.2.1
theorem gZ_recv {Z : gZT} {A : Nat → Prop} {s : State} {H : Heap} {locs : List Loc} {i : Nat} (h : gZ Z A s s.heap) (hS : va_S A s.heap H locs) (hi : i < gnS) : ∃ cell : Cell, H[Z.1 i]? = some cell ∧ cell.vm.isStatics = false ∧ s.vm.findClass "java/lang/String" = some cell.cls := vk_recv (gZ_str h) hi hS
theorem gZ_fm {Z : gZT} {A : Nat → Prop} {U : State} {H : Heap} (h : gZ Z A U H) : va_Zq "jdk/internal/util/Preconditions" "SIOOBE_FORMATTER" "Ljava/util/function/BiFunction;" A U H := h.2.2.2.2.2.2.1
theorem gZ_x {Z : gZT} {A : Nat → Prop} {U : State} {H : Heap} (h : gZ Z A U H) : gZx A U H := h.2.2.2.2.2.2.2
theorem gS_small {i : Nat} (h : i < gnS) : gLen.getD i 0 < 2 ^ 31 := by
  revert h
  revert i
  decide

