/-- the words of a throw of E at the state of now -/
def gBad (X : String) : List Cond := [.laysStatic "java/lang/Throwable" "UNASSIGNED_STACK" "[Ljava/lang/StackTraceElement;", .laysStatic "java/lang/Throwable" "SUPPRESSED_SENTINEL" "Ljava/util/List;", .declares ⟨"java/lang/RuntimeException", "<init>", "(Ljava/lang/String;)V"⟩, .declares ⟨"java/lang/Exception", "<init>", "(Ljava/lang/String;)V"⟩, .declares ⟨"java/lang/Throwable", "<init>", "(Ljava/lang/String;)V"⟩, .castable X X, .isRef (.static "java/lang/Throwable" "UNASSIGNED_STACK" "[Ljava/lang/StackTraceElement;"), .isRef (.static "java/lang/Throwable" "SUPPRESSED_SENTINEL" "Ljava/util/List;")]
abbrev gSup : List String := ["java/lang/RuntimeException", "java/lang/Exception"]
theorem g_own {Z : gZT} {A : Nat → Prop} {s T : State} {H : Heap} {locs : List Loc} {args : Array Value} {X : String} {ic : Nat} (hX : X ∈ gCx) (hg : ∀ a ∈ Bundle.ownAtoms "MailCharacters" ic X gSup, goodWord a = true → a ∈ gW ∧ a.onTables = true) (hb : ∀ a ∈ Bundle.ownAtoms "MailCharacters" ic X gSup, goodWord a = false → a ∈ gBad X)
    (hts : ∀ w ∈ gW, w.before args s = true) (hZ : gZ Z A s s.heap) (hS : va_S A s.heap H locs) (hT : T.heap = H) : ∀ a ∈ Bundle.ownAtoms "MailCharacters" ic X gSup, a.before args (g_now s T) = true := by
  intro a ha
  have hx : gZx A (g_now s T) (g_now s T).heap := by
    have h1 := ((gZ_x hZ).kept hS.2.1).same (U := g_now s T) rfl
    rw [g_now_heap, hT]
    exact h1
  cases hgd : goodWord a with
  | true =>
    obtain ⟨h1, h2⟩ := hg a ha hgd
    exact va_tabs (u := s) h2 rfl (hts a h1)
  | false =>
    have hm := hb a ha hgd
    simp only [gBad, List.mem_cons, List.not_mem_nil, or_false] at hm
    rcases hm with rfl | rfl | rfl | rfl | rfl | rfl | rfl | rfl
    · exact hx.2.2.1.lays
    · exact hx.2.2.2.lays
    · exact va_Nw.use rfl (hx.1 _ (by simp [gDx]))
    · exact va_Nw.use rfl (hx.1 _ (by simp [gDx]))
    · exact va_Nw.use rfl (hx.1 _ (by simp [gDx]))
    · exact va_Nw.use rfl (hx.2.1 _ hX)
    · exact hx.2.2.1.isRef
    · exact hx.2.2.2.isRef
set_option maxRecDepth 20000 in
theorem own_IA_g : ∀ a ∈ Bundle.ownAtoms "MailCharacters" 90 "java/lang/IllegalArgumentException" gSup, goodWord a = true → a ∈ gW ∧ a.onTables = true := by decide +kernel
set_option maxRecDepth 20000 in
theorem own_IA_b : ∀ a ∈ Bundle.ownAtoms "MailCharacters" 90 "java/lang/IllegalArgumentException" gSup, goodWord a = false → a ∈ gBad "java/lang/IllegalArgumentException" := by decide +kernel
set_option maxRecDepth 20000 in
theorem own_IS_g : ∀ a ∈ Bundle.ownAtoms "MailCharacters" 141 "java/lang/IllegalStateException" gSup, goodWord a = true → a ∈ gW ∧ a.onTables = true := by decide +kernel
set_option maxRecDepth 20000 in
theorem own_IS_b : ∀ a ∈ Bundle.ownAtoms "MailCharacters" 141 "java/lang/IllegalStateException" gSup, goodWord a = false → a ∈ gBad "java/lang/IllegalStateException" := by decide +kernel

