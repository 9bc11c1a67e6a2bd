def F_Bits : u_T := fun k => match k with
  | 0 => ("MailCharacters$Bits", "value", "I", false)
  | _ => ("MailCharacters$Bits", "held", "I", false)
def t_Bits : Nat → FieldType := fun k => match k with
  | 0 => .int
  | _ => .int
theorem n_Bits : ∀ a, a < 2 → ∀ b, b < 2 → a ≠ b → (F_Bits a).2.1 ≠ (F_Bits b).2.1 := by decide +kernel
theorem t_Bits_ok : ∀ k, k < 2 → parseFieldDescriptor (F_Bits k).2.2.1 = some (t_Bits k) := by decide +kernel
def F_Coder : u_T := fun k => match k with
  | 0 => ("MailCharacters$Coder", "bits", "LMailCharacters$Bits;", true)
  | _ => ("MailCharacters$Coder", "inLine", "I", false)
def t_Coder : Nat → FieldType := fun k => match k with
  | 0 => .object "MailCharacters$Bits"
  | _ => .int
theorem n_Coder : ∀ a, a < 2 → ∀ b, b < 2 → a ≠ b → (F_Coder a).2.1 ≠ (F_Coder b).2.1 := by decide +kernel
theorem t_Coder_ok : ∀ k, k < 2 → parseFieldDescriptor (F_Coder k).2.2.1 = some (t_Coder k) := by decide +kernel
def F_Line : u_T := fun k => match k with
  | 0 => ("MailCharacters$Line", "from", "I", false)
  | 1 => ("MailCharacters$Line", "to", "I", false)
  | 2 => ("MailCharacters$Line", "ended", "Z", false)
  | _ => ("MailCharacters$Line", "next", "I", false)
def t_Line : Nat → FieldType := fun k => match k with
  | 0 => .int
  | 1 => .int
  | 2 => .boolean
  | _ => .int
theorem n_Line : ∀ a, a < 4 → ∀ b, b < 4 → a ≠ b → (F_Line a).2.1 ≠ (F_Line b).2.1 := by decide +kernel
theorem t_Line_ok : ∀ k, k < 4 → parseFieldDescriptor (F_Line k).2.2.1 = some (t_Line k) := by decide +kernel
def F_Reader : u_T := fun k => match k with
  | 0 => ("MailCharacters$Reader", "bits", "LMailCharacters$Bits;", true)
  | _ => ("MailCharacters$Reader", "firstHalf", "I", false)
def t_Reader : Nat → FieldType := fun k => match k with
  | 0 => .object "MailCharacters$Bits"
  | _ => .int
theorem n_Reader : ∀ a, a < 2 → ∀ b, b < 2 → a ≠ b → (F_Reader a).2.1 ≠ (F_Reader b).2.1 := by decide +kernel
theorem t_Reader_ok : ∀ k, k < 2 → parseFieldDescriptor (F_Reader k).2.2.1 = some (t_Reader k) := by decide +kernel
def F_Row : u_T := fun k => match k with
  | 0 => ("MailCharacters$Row", "cells", "[I", true)
  | 1 => ("MailCharacters$Row", "size", "I", false)
  | _ => ("MailCharacters$Row", "over", "Z", false)
def t_Row : Nat → FieldType := fun k => match k with
  | 0 => .array .int
  | 1 => .int
  | _ => .boolean
theorem n_Row : ∀ a, a < 3 → ∀ b, b < 3 → a ≠ b → (F_Row a).2.1 ≠ (F_Row b).2.1 := by decide +kernel
theorem t_Row_ok : ∀ k, k < 3 → parseFieldDescriptor (F_Row k).2.2.1 = some (t_Row k) := by decide +kernel
def F_Uncoder : u_T := fun k => match k with
  | 0 => ("MailCharacters$Uncoder", "bits", "LMailCharacters$Bits;", true)
  | _ => ("MailCharacters$Uncoder", "line", "LMailCharacters$Line;", true)
def t_Uncoder : Nat → FieldType := fun k => match k with
  | 0 => .object "MailCharacters$Bits"
  | _ => .object "MailCharacters$Line"
theorem n_Uncoder : ∀ a, a < 2 → ∀ b, b < 2 → a ≠ b → (F_Uncoder a).2.1 ≠ (F_Uncoder b).2.1 := by decide +kernel
theorem t_Uncoder_ok : ∀ k, k < 2 → parseFieldDescriptor (F_Uncoder k).2.2.1 = some (t_Uncoder k) := by decide +kernel
def F_Word : u_T := fun k => match k with
  | 0 => ("MailCharacters$Word", "charset", "I", false)
  | 1 => ("MailCharacters$Word", "based", "Z", false)
  | 2 => ("MailCharacters$Word", "from", "I", false)
  | 3 => ("MailCharacters$Word", "to", "I", false)
  | _ => ("MailCharacters$Word", "next", "I", false)
def t_Word : Nat → FieldType := fun k => match k with
  | 0 => .int
  | 1 => .boolean
  | 2 => .int
  | 3 => .int
  | _ => .int
theorem n_Word : ∀ a, a < 5 → ∀ b, b < 5 → a ≠ b → (F_Word a).2.1 ≠ (F_Word b).2.1 := by decide +kernel
theorem t_Word_ok : ∀ k, k < 5 → parseFieldDescriptor (F_Word k).2.2.1 = some (t_Word k) := by decide +kernel
def F_Writer : u_T := fun k => match k with
  | _ => ("MailCharacters$Writer", "bits", "LMailCharacters$Bits;", true)
def t_Writer : Nat → FieldType := fun k => match k with
  | _ => .object "MailCharacters$Bits"
theorem n_Writer : ∀ a, a < 1 → ∀ b, b < 1 → a ≠ b → (F_Writer a).2.1 ≠ (F_Writer b).2.1 := by decide +kernel
theorem t_Writer_ok : ∀ k, k < 1 → parseFieldDescriptor (F_Writer k).2.2.1 = some (t_Writer k) := by decide +kernel
def F_MC : u_T := fun k => match k with
  | 0 => ("MailCharacters", "ready", "[I", true)
  | 1 => ("MailCharacters", "text", "LMailCharacters$Row;", true)
  | 2 => ("MailCharacters", "uncoder", "LMailCharacters$Uncoder;", true)
  | 3 => ("MailCharacters", "coder", "LMailCharacters$Coder;", true)
  | 4 => ("MailCharacters", "reader", "LMailCharacters$Reader;", true)
  | 5 => ("MailCharacters", "writer", "LMailCharacters$Writer;", true)
  | 6 => ("MailCharacters", "word", "LMailCharacters$Word;", true)
  | 7 => ("MailCharacters", "tape", "LMailCharacters$Row;", false)
  | _ => ("MailCharacters", "spare", "LMailCharacters$Row;", false)
def t_MC : Nat → FieldType := fun k => match k with
  | 0 => .array .int
  | 1 => .object "MailCharacters$Row"
  | 2 => .object "MailCharacters$Uncoder"
  | 3 => .object "MailCharacters$Coder"
  | 4 => .object "MailCharacters$Reader"
  | 5 => .object "MailCharacters$Writer"
  | 6 => .object "MailCharacters$Word"
  | 7 => .object "MailCharacters$Row"
  | _ => .object "MailCharacters$Row"
theorem n_MC : ∀ a, a < 9 → ∀ b, b < 9 → a ≠ b → (F_MC a).2.1 ≠ (F_MC b).2.1 := by decide +kernel
theorem t_MC_ok : ∀ k, k < 9 → parseFieldDescriptor (F_MC k).2.2.1 = some (t_MC k) := by decide +kernel
abbrev vwCl : List vw_C := [("MailCharacters$Bits", F_Bits, 2), ("MailCharacters$Coder", F_Coder, 2), ("MailCharacters$Line", F_Line, 4), ("MailCharacters$Reader", F_Reader, 2), ("MailCharacters$Row", F_Row, 3), ("MailCharacters$Uncoder", F_Uncoder, 2), ("MailCharacters$Word", F_Word, 5), ("MailCharacters$Writer", F_Writer, 1), ("MailCharacters", F_MC, 9)]
def gW : List Cond := lw_tbl.filter goodWord
theorem gW_at {w : Cond} (i : Nat) (h : lw_tbl[i]? = some w) (g : goodWord w = true) : w ∈ gW := List.mem_filter.mpr ⟨List.mem_of_getElem? h, g⟩
theorem gW_ok {w : Cond} (h : w ∈ gW) : w ∈ gW ∧ ((w.onTables && w.keeps) = true ∨ ∃ ty, w = .arrayClass ty) := ⟨h, good_of_word (List.mem_filter.mp h).2⟩
theorem gW_c {w : Cond} (h : w ∈ gW) : GoodIn gW (w :: gW) := fun x hx => (List.mem_cons.mp hx).elim (fun e => by rw [e]; exact gW_ok h) gW_ok
theorem gW_V {own C : String} {idx maxL : Nat} {y : MethodName} {bb : ByteArray} {ret : Option FieldType} (h1 : Cond.methodLink own idx y ∈ gW) (h2 : Cond.instanceMethod y ∈ gW) (h3 : Cond.selects C y y ∈ gW) (h4 : Cond.initialized C ∈ gW) (h5 : Cond.code y bb maxL ret ∈ gW) : GoodIn gW (wsV own idx C y (Cond.code y bb maxL ret :: gW)) := by
  intro w hw
  rcases List.mem_append.mp hw with h | h
  · simp only [List.mem_cons, List.not_mem_nil, or_false] at h
    rcases h with rfl | rfl | rfl | rfl
    · exact gW_ok h1
    · exact gW_ok h2
    · exact gW_ok h3
    · exact gW_ok h4
  · exact gW_c h5 w h
theorem gW_S {own : String} {idx maxL : Nat} {y : MethodName} {bb : ByteArray} {ret : Option FieldType} (h1 : Cond.methodLink own idx y ∈ gW) (h2 : Cond.static y ∈ gW) (h4 : Cond.initialized y.cls ∈ gW) (h5 : Cond.code y bb maxL ret ∈ gW) : GoodIn gW (va_wsS own idx y (Cond.code y bb maxL ret :: gW)) := by
  intro w hw
  rcases List.mem_append.mp hw with h | h
  · simp only [List.mem_cons, List.not_mem_nil, or_false] at h
    rcases h with rfl | rfl | rfl
    · exact gW_ok h1
    · exact gW_ok h2
    · exact gW_ok h4
  · exact gW_c h5 w h
theorem i_Bits : ∀ w ∈ u_ws "MailCharacters$Bits" F_Bits 2, w ∈ gW := by decide +kernel
theorem i_Coder : ∀ w ∈ u_ws "MailCharacters$Coder" F_Coder 2, w ∈ gW := by decide +kernel
theorem i_Line : ∀ w ∈ u_ws "MailCharacters$Line" F_Line 4, w ∈ gW := by decide +kernel
theorem i_Reader : ∀ w ∈ u_ws "MailCharacters$Reader" F_Reader 2, w ∈ gW := by decide +kernel
theorem i_Row : ∀ w ∈ u_ws "MailCharacters$Row" F_Row 3, w ∈ gW := by decide +kernel
theorem i_Uncoder : ∀ w ∈ u_ws "MailCharacters$Uncoder" F_Uncoder 2, w ∈ gW := by decide +kernel
theorem i_Word : ∀ w ∈ u_ws "MailCharacters$Word" F_Word 5, w ∈ gW := by decide +kernel
theorem i_Writer : ∀ w ∈ u_ws "MailCharacters$Writer" F_Writer 1, w ∈ gW := by decide +kernel
theorem i_MC : ∀ w ∈ u_ws "MailCharacters" F_MC 9, w ∈ gW := by decide +kernel
theorem k_arrInt : Cond.arrayClass .int ∈ gW := gW_at 118 (by decide +kernel) (by decide +kernel)
theorem k_objcode : Cond.code objectInit ⟨#[0xb1]⟩ 1 none ∈ gW := gW_at 97 (by decide +kernel) (by decide +kernel)
theorem k_maxcode : Cond.code Lib.Math.max.name Lib.Math.max.code 2 (some .int) ∈ gW := gW_at 106 (by decide +kernel) (by decide +kernel)
abbrev b_MC_init : ByteArray := prog_1_method_1_code
abbrev y_MC_init : MethodName := ⟨"MailCharacters", "<init>", "()V"⟩
abbrev w_MC_init : List Cond := Cond.code y_MC_init b_MC_init 1 none :: gW
abbrev b_Row_init : ByteArray := prog_8_method_1_code
abbrev y_Row_init : MethodName := ⟨"MailCharacters$Row", "<init>", "(I)V"⟩
abbrev w_Row_init : List Cond := Cond.code y_Row_init b_Row_init 2 none :: gW
abbrev b_Uncoder_init : ByteArray := prog_10_method_1_code
abbrev y_Uncoder_init : MethodName := ⟨"MailCharacters$Uncoder", "<init>", "()V"⟩
abbrev w_Uncoder_init : List Cond := Cond.code y_Uncoder_init b_Uncoder_init 1 none :: gW
abbrev b_Bits_init : ByteArray := prog_2_method_1_code
abbrev y_Bits_init : MethodName := ⟨"MailCharacters$Bits", "<init>", "()V"⟩
abbrev w_Bits_init : List Cond := Cond.code y_Bits_init b_Bits_init 1 none :: gW
abbrev b_Line_init : ByteArray := prog_5_method_1_code
abbrev y_Line_init : MethodName := ⟨"MailCharacters$Line", "<init>", "()V"⟩
abbrev w_Line_init : List Cond := Cond.code y_Line_init b_Line_init 1 none :: gW
abbrev b_Coder_init : ByteArray := prog_3_method_1_code
abbrev y_Coder_init : MethodName := ⟨"MailCharacters$Coder", "<init>", "()V"⟩
abbrev w_Coder_init : List Cond := Cond.code y_Coder_init b_Coder_init 1 none :: gW
abbrev b_Reader_init : ByteArray := prog_7_method_1_code
abbrev y_Reader_init : MethodName := ⟨"MailCharacters$Reader", "<init>", "()V"⟩
abbrev w_Reader_init : List Cond := Cond.code y_Reader_init b_Reader_init 1 none :: gW
abbrev b_Writer_init : ByteArray := prog_12_method_1_code
abbrev y_Writer_init : MethodName := ⟨"MailCharacters$Writer", "<init>", "()V"⟩
abbrev w_Writer_init : List Cond := Cond.code y_Writer_init b_Writer_init 1 none :: gW
abbrev b_Word_init : ByteArray := prog_11_method_1_code
abbrev y_Word_init : MethodName := ⟨"MailCharacters$Word", "<init>", "()V"⟩
abbrev w_Word_init : List Cond := Cond.code y_Word_init b_Word_init 1 none :: gW
abbrev b_MC_feed : ByteArray := prog_1_method_2_code
abbrev y_MC_feed : MethodName := ⟨"MailCharacters", "feed", "(IIIII)V"⟩
abbrev w_MC_feed : List Cond := Cond.code y_MC_feed b_MC_feed 6 none :: gW
abbrev b_MC_end : ByteArray := prog_1_method_3_code
abbrev y_MC_end : MethodName := ⟨"MailCharacters", "end", "(I)I"⟩
abbrev w_MC_end : List Cond := Cond.code y_MC_end b_MC_end 3 (some .int) :: gW
abbrev b_Row_room : ByteArray := prog_8_method_6_code
abbrev y_Row_room : MethodName := ⟨"MailCharacters$Row", "room", "()I"⟩
abbrev w_Row_room : List Cond := Cond.code y_Row_room b_Row_room 1 (some .int) :: gW
abbrev b_Row_put : ByteArray := prog_8_method_3_code
abbrev y_Row_put : MethodName := ⟨"MailCharacters$Row", "put", "(I)V"⟩
abbrev w_Row_put : List Cond := Cond.code y_Row_put b_Row_put 2 none :: gW
abbrev b_Row_size : ByteArray := prog_8_method_5_code
abbrev y_Row_size : MethodName := ⟨"MailCharacters$Row", "size", "()I"⟩
abbrev w_Row_size : List Cond := Cond.code y_Row_size b_Row_size 1 (some .int) :: gW
abbrev b_MC_charset : ByteArray := prog_1_method_4_code
abbrev y_MC_charset : MethodName := ⟨"MailCharacters", "charset", "()I"⟩
abbrev w_MC_charset : List Cond := Cond.code y_MC_charset b_MC_charset 2 (some .int) :: gW
abbrev b_Names_charsetOf : ByteArray := prog_6_method_2_code
abbrev y_Names_charsetOf : MethodName := ⟨"MailCharacters$Names", "charsetOf", "(LMailCharacters$Row;II)I"⟩
abbrev w_Names_charsetOf : List Cond := Cond.code y_Names_charsetOf b_Names_charsetOf 4 (some .int) :: gW
abbrev b_Names_namesOf : ByteArray := prog_6_method_3_code
abbrev y_Names_namesOf : MethodName := ⟨"MailCharacters$Names", "namesOf", "(I)Ljava/lang/String;"⟩
abbrev w_Names_namesOf : List Cond := Cond.code y_Names_namesOf b_Names_namesOf 1 (some (.object "java/lang/String")) :: gW
abbrev b_Names_isOneOf : ByteArray := prog_6_method_4_code
abbrev y_Names_isOneOf : MethodName := ⟨"MailCharacters$Names", "isOneOf", "(LMailCharacters$Row;IILjava/lang/String;)Z"⟩
abbrev w_Names_isOneOf : List Cond := Cond.code y_Names_isOneOf b_Names_isOneOf 6 (some .boolean) :: gW
abbrev b_JString_length : ByteArray := prog_20_method_54_code
abbrev y_JString_length : MethodName := ⟨"java/lang/String", "length", "()I"⟩
abbrev w_JString_length : List Cond := Cond.code y_JString_length b_JString_length 1 (some .int) :: gW
abbrev b_JString_coder : ByteArray := prog_20_method_152_code
abbrev y_JString_coder : MethodName := ⟨"java/lang/String", "coder", "()B"⟩
abbrev w_JString_coder : List Cond := Cond.code y_JString_coder b_JString_coder 1 (some .byte) :: gW
abbrev b_JString_charAt : ByteArray := prog_20_method_56_code
abbrev y_JString_charAt : MethodName := ⟨"java/lang/String", "charAt", "(I)C"⟩
abbrev w_JString_charAt : List Cond := Cond.code y_JString_charAt b_JString_charAt 2 (some .char) :: gW
abbrev b_JString_isLatin1 : ByteArray := prog_20_method_154_code
abbrev y_JString_isLatin1 : MethodName := ⟨"java/lang/String", "isLatin1", "()Z"⟩
abbrev w_JString_isLatin1 : List Cond := Cond.code y_JString_isLatin1 b_JString_isLatin1 1 (some .boolean) :: gW
abbrev b_JStringLatin1_charAt : ByteArray := prog_21_method_2_code
abbrev y_JStringLatin1_charAt : MethodName := ⟨"java/lang/StringLatin1", "charAt", "([BI)C"⟩
abbrev w_JStringLatin1_charAt : List Cond := Cond.code y_JStringLatin1_charAt b_JStringLatin1_charAt 2 (some .char) :: gW
abbrev b_JString_checkIndex : ByteArray := prog_20_method_155_code
abbrev y_JString_checkIndex : MethodName := ⟨"java/lang/String", "checkIndex", "(II)V"⟩
abbrev w_JString_checkIndex : List Cond := Cond.code y_JString_checkIndex b_JString_checkIndex 2 none :: gW
abbrev b_JPreconditions_checkIndex : ByteArray := prog_24_method_11_code
abbrev y_JPreconditions_checkIndex : MethodName := ⟨"jdk/internal/util/Preconditions", "checkIndex", "(IILjava/util/function/BiFunction;)I"⟩
abbrev w_JPreconditions_checkIndex : List Cond := Cond.code y_JPreconditions_checkIndex b_JPreconditions_checkIndex 3 (some .int) :: gW
abbrev b_Names_goesOnAs : ByteArray := prog_6_method_5_code
abbrev y_Names_goesOnAs : MethodName := ⟨"MailCharacters$Names", "goesOnAs", "(LMailCharacters$Row;ILjava/lang/String;II)Z"⟩
abbrev w_Names_goesOnAs : List Cond := Cond.code y_Names_goesOnAs b_Names_goesOnAs 6 (some .boolean) :: gW
abbrev b_Row_get : ByteArray := prog_8_method_4_code
abbrev y_Row_get : MethodName := ⟨"MailCharacters$Row", "get", "(I)I"⟩
abbrev w_Row_get : List Cond := Cond.code y_Row_get b_Row_get 2 (some .int) :: gW
abbrev b_Names_small : ByteArray := prog_6_method_6_code
abbrev y_Names_small : MethodName := ⟨"MailCharacters$Names", "small", "(I)I"⟩
abbrev w_Names_small : List Cond := Cond.code y_Names_small b_Names_small 1 (some .int) :: gW
abbrev b_Row_empty : ByteArray := prog_8_method_2_code
abbrev y_Row_empty : MethodName := ⟨"MailCharacters$Row", "empty", "()V"⟩
abbrev w_Row_empty : List Cond := Cond.code y_Row_empty b_Row_empty 1 none :: gW
abbrev b_MC_words : ByteArray := prog_1_method_7_code
abbrev y_MC_words : MethodName := ⟨"MailCharacters", "words", "()I"⟩
abbrev w_MC_words : List Cond := Cond.code y_MC_words b_MC_words 5 (some .int) :: gW
abbrev b_Word_standsAt : ByteArray := prog_11_method_2_code
abbrev y_Word_standsAt : MethodName := ⟨"MailCharacters$Word", "standsAt", "(LMailCharacters$Row;I)Z"⟩
abbrev w_Word_standsAt : List Cond := Cond.code y_Word_standsAt b_Word_standsAt 4 (some .boolean) :: gW
abbrev b_Word_endOfName : ByteArray := prog_11_method_4_code
abbrev y_Word_endOfName : MethodName := ⟨"MailCharacters$Word", "endOfName", "(LMailCharacters$Row;I)I"⟩
abbrev w_Word_endOfName : List Cond := Cond.code y_Word_endOfName b_Word_endOfName 3 (some .int) :: gW
abbrev b_Word_takesKind : ByteArray := prog_11_method_3_code
abbrev y_Word_takesKind : MethodName := ⟨"MailCharacters$Word", "takesKind", "(I)Z"⟩
abbrev w_Word_takesKind : List Cond := Cond.code y_Word_takesKind b_Word_takesKind 2 (some .boolean) :: gW
abbrev b_Word_endOfBytes : ByteArray := prog_11_method_6_code
abbrev y_Word_endOfBytes : MethodName := ⟨"MailCharacters$Word", "endOfBytes", "(LMailCharacters$Row;I)I"⟩
abbrev w_Word_endOfBytes : List Cond := Cond.code y_Word_endOfBytes b_Word_endOfBytes 4 (some .int) :: gW
abbrev b_Word_starOrEnd : ByteArray := prog_11_method_5_code
abbrev y_Word_starOrEnd : MethodName := ⟨"MailCharacters$Word", "starOrEnd", "(LMailCharacters$Row;II)I"⟩
abbrev w_Word_starOrEnd : List Cond := Cond.code y_Word_starOrEnd b_Word_starOrEnd 4 (some .int) :: gW
abbrev b_MC_isBlank : ByteArray := prog_1_method_15_code
abbrev y_MC_isBlank : MethodName := ⟨"MailCharacters", "isBlank", "(II)Z"⟩
abbrev w_MC_isBlank : List Cond := Cond.code y_MC_isBlank b_MC_isBlank 5 (some .boolean) :: gW
abbrev b_Reader_readInto : ByteArray := prog_7_method_2_code
abbrev y_Reader_readInto : MethodName := ⟨"MailCharacters$Reader", "readInto", "(LMailCharacters$Row;IIILMailCharacters$Row;)V"⟩
abbrev w_Reader_readInto : List Cond := Cond.code y_Reader_readInto b_Reader_readInto 6 none :: gW
abbrev b_Reader_readUtf8 : ByteArray := prog_7_method_4_code
abbrev y_Reader_readUtf8 : MethodName := ⟨"MailCharacters$Reader", "readUtf8", "(LMailCharacters$Row;IILMailCharacters$Row;)V"⟩
abbrev w_Reader_readUtf8 : List Cond := Cond.code y_Reader_readUtf8 b_Reader_readUtf8 10 none :: gW
abbrev b_Reader_bytesBehind : ByteArray := prog_7_method_5_code
abbrev y_Reader_bytesBehind : MethodName := ⟨"MailCharacters$Reader", "bytesBehind", "(I)I"⟩
abbrev w_Reader_bytesBehind : List Cond := Cond.code y_Reader_bytesBehind b_Reader_bytesBehind 1 (some .int) :: gW
abbrev b_Reader_lowestBehind : ByteArray := prog_7_method_6_code
abbrev y_Reader_lowestBehind : MethodName := ⟨"MailCharacters$Reader", "lowestBehind", "(I)I"⟩
abbrev w_Reader_lowestBehind : List Cond := Cond.code y_Reader_lowestBehind b_Reader_lowestBehind 1 (some .int) :: gW
abbrev b_Reader_highestBehind : ByteArray := prog_7_method_7_code
abbrev y_Reader_highestBehind : MethodName := ⟨"MailCharacters$Reader", "highestBehind", "(I)I"⟩
abbrev w_Reader_highestBehind : List Cond := Cond.code y_Reader_highestBehind b_Reader_highestBehind 1 (some .int) :: gW
abbrev b_Reader_readUtf16Marked : ByteArray := prog_7_method_8_code
abbrev y_Reader_readUtf16Marked : MethodName := ⟨"MailCharacters$Reader", "readUtf16Marked", "(LMailCharacters$Row;IILMailCharacters$Row;)V"⟩
abbrev w_Reader_readUtf16Marked : List Cond := Cond.code y_Reader_readUtf16Marked b_Reader_readUtf16Marked 7 none :: gW
abbrev b_Reader_readUtf16 : ByteArray := prog_7_method_9_code
abbrev y_Reader_readUtf16 : MethodName := ⟨"MailCharacters$Reader", "readUtf16", "(LMailCharacters$Row;IIZLMailCharacters$Row;)V"⟩
abbrev w_Reader_readUtf16 : List Cond := Cond.code y_Reader_readUtf16 b_Reader_readUtf16 9 none :: gW
abbrev b_Reader_takeUnit : ByteArray := prog_7_method_12_code
abbrev y_Reader_takeUnit : MethodName := ⟨"MailCharacters$Reader", "takeUnit", "(ILMailCharacters$Row;)V"⟩
abbrev w_Reader_takeUnit : List Cond := Cond.code y_Reader_takeUnit b_Reader_takeUnit 4 none :: gW
abbrev b_Reader_endUnits : ByteArray := prog_7_method_13_code
abbrev y_Reader_endUnits : MethodName := ⟨"MailCharacters$Reader", "endUnits", "(LMailCharacters$Row;)V"⟩
abbrev w_Reader_endUnits : List Cond := Cond.code y_Reader_endUnits b_Reader_endUnits 2 none :: gW
abbrev b_Reader_readUtf7 : ByteArray := prog_7_method_10_code
abbrev y_Reader_readUtf7 : MethodName := ⟨"MailCharacters$Reader", "readUtf7", "(LMailCharacters$Row;IILMailCharacters$Row;)V"⟩
abbrev w_Reader_readUtf7 : List Cond := Cond.code y_Reader_readUtf7 b_Reader_readUtf7 11 none :: gW
abbrev b_Letters_sixBitsOf : ByteArray := prog_4_method_2_code
abbrev y_Letters_sixBitsOf : MethodName := ⟨"MailCharacters$Letters", "sixBitsOf", "(I)I"⟩
abbrev w_Letters_sixBitsOf : List Cond := Cond.code y_Letters_sixBitsOf b_Letters_sixBitsOf 1 (some .int) :: gW
abbrev b_Reader_takeSixBits : ByteArray := prog_7_method_11_code
abbrev y_Reader_takeSixBits : MethodName := ⟨"MailCharacters$Reader", "takeSixBits", "(ILMailCharacters$Row;)V"⟩
abbrev w_Reader_takeSixBits : List Cond := Cond.code y_Reader_takeSixBits b_Reader_takeSixBits 3 none :: gW
abbrev b_Bits_add : ByteArray := prog_2_method_3_code
abbrev y_Bits_add : MethodName := ⟨"MailCharacters$Bits", "add", "(II)V"⟩
abbrev w_Bits_add : List Cond := Cond.code y_Bits_add b_Bits_add 3 none :: gW
abbrev b_Bits_has : ByteArray := prog_2_method_4_code
abbrev y_Bits_has : MethodName := ⟨"MailCharacters$Bits", "has", "(I)Z"⟩
abbrev w_Bits_has : List Cond := Cond.code y_Bits_has b_Bits_has 2 (some .boolean) :: gW
abbrev b_Bits_take : ByteArray := prog_2_method_5_code
abbrev y_Bits_take : MethodName := ⟨"MailCharacters$Bits", "take", "(I)I"⟩
abbrev w_Bits_take : List Cond := Cond.code y_Bits_take b_Bits_take 2 (some .int) :: gW
abbrev b_Bits_clear : ByteArray := prog_2_method_2_code
abbrev y_Bits_clear : MethodName := ⟨"MailCharacters$Bits", "clear", "()V"⟩
abbrev w_Bits_clear : List Cond := Cond.code y_Bits_clear b_Bits_clear 1 none :: gW
abbrev b_Reader_readSingleBytes : ByteArray := prog_7_method_3_code
abbrev y_Reader_readSingleBytes : MethodName := ⟨"MailCharacters$Reader", "readSingleBytes", "(LMailCharacters$Row;IIILMailCharacters$Row;)V"⟩
abbrev w_Reader_readSingleBytes : List Cond := Cond.code y_Reader_readSingleBytes b_Reader_readSingleBytes 6 none :: gW
abbrev b_SingleBytes_characterOf : ByteArray := prog_9_method_2_code
abbrev y_SingleBytes_characterOf : MethodName := ⟨"MailCharacters$SingleBytes", "characterOf", "(II)I"⟩
abbrev w_SingleBytes_characterOf : List Cond := Cond.code y_SingleBytes_characterOf b_SingleBytes_characterOf 2 (some .int) :: gW
abbrev b_SingleBytes_latin9CharacterOf : ByteArray := prog_9_method_4_code
abbrev y_SingleBytes_latin9CharacterOf : MethodName := ⟨"MailCharacters$SingleBytes", "latin9CharacterOf", "(I)I"⟩
abbrev w_SingleBytes_latin9CharacterOf : List Cond := Cond.code y_SingleBytes_latin9CharacterOf b_SingleBytes_latin9CharacterOf 2 (some .int) :: gW
abbrev b_SingleBytes_inRow : ByteArray := prog_9_method_9_code
abbrev y_SingleBytes_inRow : MethodName := ⟨"MailCharacters$SingleBytes", "inRow", "([II)I"⟩
abbrev w_SingleBytes_inRow : List Cond := Cond.code y_SingleBytes_inRow b_SingleBytes_inRow 2 (some .int) :: gW
abbrev b_SingleBytes_koiCharacterOf : ByteArray := prog_9_method_7_code
abbrev y_SingleBytes_koiCharacterOf : MethodName := ⟨"MailCharacters$SingleBytes", "koiCharacterOf", "(I)I"⟩
abbrev w_SingleBytes_koiCharacterOf : List Cond := Cond.code y_SingleBytes_koiCharacterOf b_SingleBytes_koiCharacterOf 1 (some .int) :: gW
abbrev b_MC_readWord : ByteArray := prog_1_method_16_code
abbrev y_MC_readWord : MethodName := ⟨"MailCharacters", "readWord", "()V"⟩
abbrev w_MC_readWord : List Cond := Cond.code y_MC_readWord b_MC_readWord 1 none :: gW
abbrev b_Uncoder_uncodeWord : ByteArray := prog_10_method_3_code
abbrev y_Uncoder_uncodeWord : MethodName := ⟨"MailCharacters$Uncoder", "uncodeWord", "(LMailCharacters$Row;LMailCharacters$Word;LMailCharacters$Row;)V"⟩
abbrev w_Uncoder_uncodeWord : List Cond := Cond.code y_Uncoder_uncodeWord b_Uncoder_uncodeWord 4 none :: gW
abbrev b_Uncoder_unbase : ByteArray := prog_10_method_4_code
abbrev y_Uncoder_unbase : MethodName := ⟨"MailCharacters$Uncoder", "unbase", "(LMailCharacters$Row;IILMailCharacters$Row;)V"⟩
abbrev w_Uncoder_unbase : List Cond := Cond.code y_Uncoder_unbase b_Uncoder_unbase 8 none :: gW
abbrev b_Uncoder_unquote : ByteArray := prog_10_method_7_code
abbrev y_Uncoder_unquote : MethodName := ⟨"MailCharacters$Uncoder", "unquote", "(LMailCharacters$Row;IIZLMailCharacters$Row;)V"⟩
abbrev w_Uncoder_unquote : List Cond := Cond.code y_Uncoder_unquote b_Uncoder_unquote 9 none :: gW
abbrev b_Letters_hexOf : ByteArray := prog_4_method_4_code
abbrev y_Letters_hexOf : MethodName := ⟨"MailCharacters$Letters", "hexOf", "(I)I"⟩
abbrev w_Letters_hexOf : List Cond := Cond.code y_Letters_hexOf b_Letters_hexOf 1 (some .int) :: gW
abbrev b_MC_byteAt : ByteArray := prog_1_method_10_code
abbrev y_MC_byteAt : MethodName := ⟨"MailCharacters", "byteAt", "(I)I"⟩
abbrev w_MC_byteAt : List Cond := Cond.code y_MC_byteAt b_MC_byteAt 2 (some .int) :: gW
abbrev b_MC_at : ByteArray := prog_1_method_11_code
abbrev y_MC_at : MethodName := ⟨"MailCharacters", "at", "(I)I"⟩
abbrev w_MC_at : List Cond := Cond.code y_MC_at b_MC_at 2 (some .int) :: gW
abbrev b_MC_count : ByteArray := prog_1_method_12_code
abbrev y_MC_count : MethodName := ⟨"MailCharacters", "count", "(I)I"⟩
abbrev w_MC_count : List Cond := Cond.code y_MC_count b_MC_count 2 (some .int) :: gW
abbrev b_Row_countOf : ByteArray := prog_8_method_7_code
abbrev y_Row_countOf : MethodName := ⟨"MailCharacters$Row", "countOf", "(I)I"⟩
abbrev w_Row_countOf : List Cond := Cond.code y_Row_countOf b_Row_countOf 4 (some .int) :: gW
abbrev b_MC_uncode : ByteArray := prog_1_method_5_code
abbrev y_MC_uncode : MethodName := ⟨"MailCharacters", "uncode", "(I)I"⟩
abbrev w_MC_uncode : List Cond := Cond.code y_MC_uncode b_MC_uncode 2 (some .int) :: gW
abbrev b_Uncoder_uncodeInto : ByteArray := prog_10_method_2_code
abbrev y_Uncoder_uncodeInto : MethodName := ⟨"MailCharacters$Uncoder", "uncodeInto", "(LMailCharacters$Row;ILMailCharacters$Row;)V"⟩
abbrev w_Uncoder_uncodeInto : List Cond := Cond.code y_Uncoder_uncodeInto b_Uncoder_uncodeInto 4 none :: gW
abbrev b_Uncoder_unquoteLines : ByteArray := prog_10_method_5_code
abbrev y_Uncoder_unquoteLines : MethodName := ⟨"MailCharacters$Uncoder", "unquoteLines", "(LMailCharacters$Row;LMailCharacters$Row;)V"⟩
abbrev w_Uncoder_unquoteLines : List Cond := Cond.code y_Uncoder_unquoteLines b_Uncoder_unquoteLines 6 none :: gW
abbrev b_Line_goToStart : ByteArray := prog_5_method_2_code
abbrev y_Line_goToStart : MethodName := ⟨"MailCharacters$Line", "goToStart", "()V"⟩
abbrev w_Line_goToStart : List Cond := Cond.code y_Line_goToStart b_Line_goToStart 1 none :: gW
abbrev b_Line_step : ByteArray := prog_5_method_3_code
abbrev y_Line_step : MethodName := ⟨"MailCharacters$Line", "step", "(LMailCharacters$Row;)Z"⟩
abbrev w_Line_step : List Cond := Cond.code y_Line_step b_Line_step 3 (some .boolean) :: gW
abbrev b_Uncoder_withoutBlanks : ByteArray := prog_10_method_6_code
abbrev y_Uncoder_withoutBlanks : MethodName := ⟨"MailCharacters$Uncoder", "withoutBlanks", "(LMailCharacters$Row;II)I"⟩
abbrev w_Uncoder_withoutBlanks : List Cond := Cond.code y_Uncoder_withoutBlanks b_Uncoder_withoutBlanks 5 (some .int) :: gW
abbrev b_Uncoder_unhexLines : ByteArray := prog_10_method_8_code
abbrev y_Uncoder_unhexLines : MethodName := ⟨"MailCharacters$Uncoder", "unhexLines", "(LMailCharacters$Row;LMailCharacters$Row;)V"⟩
abbrev w_Uncoder_unhexLines : List Cond := Cond.code y_Uncoder_unhexLines b_Uncoder_unhexLines 5 none :: gW
abbrev b_Line_length : ByteArray := prog_5_method_5_code
abbrev y_Line_length : MethodName := ⟨"MailCharacters$Line", "length", "()I"⟩
abbrev w_Line_length : List Cond := Cond.code y_Line_length b_Line_length 1 (some .int) :: gW
abbrev b_Line_begins : ByteArray := prog_5_method_4_code
abbrev y_Line_begins : MethodName := ⟨"MailCharacters$Line", "begins", "(LMailCharacters$Row;Ljava/lang/String;)Z"⟩
abbrev w_Line_begins : List Cond := Cond.code y_Line_begins b_Line_begins 4 (some .boolean) :: gW
abbrev b_Uncoder_endsHex : ByteArray := prog_10_method_9_code
abbrev y_Uncoder_endsHex : MethodName := ⟨"MailCharacters$Uncoder", "endsHex", "(LMailCharacters$Row;)Z"⟩
abbrev w_Uncoder_endsHex : List Cond := Cond.code y_Uncoder_endsHex b_Uncoder_endsHex 2 (some .boolean) :: gW
abbrev b_Uncoder_hexValue : ByteArray := prog_10_method_11_code
abbrev y_Uncoder_hexValue : MethodName := ⟨"MailCharacters$Uncoder", "hexValue", "(I)I"⟩
abbrev w_Uncoder_hexValue : List Cond := Cond.code y_Uncoder_hexValue b_Uncoder_hexValue 1 (some .int) :: gW
abbrev b_Uncoder_unhexLine : ByteArray := prog_10_method_10_code
abbrev y_Uncoder_unhexLine : MethodName := ⟨"MailCharacters$Uncoder", "unhexLine", "(LMailCharacters$Row;LMailCharacters$Row;)V"⟩
abbrev w_Uncoder_unhexLine : List Cond := Cond.code y_Uncoder_unhexLine b_Uncoder_unhexLine 7 none :: gW
abbrev b_MC_swapTapes : ByteArray := prog_1_method_14_code
abbrev y_MC_swapTapes : MethodName := ⟨"MailCharacters", "swapTapes", "()V"⟩
abbrev w_MC_swapTapes : List Cond := Cond.code y_MC_swapTapes b_MC_swapTapes 2 none :: gW
abbrev b_MC_read : ByteArray := prog_1_method_6_code
abbrev y_MC_read : MethodName := ⟨"MailCharacters", "read", "(I)I"⟩
abbrev w_MC_read : List Cond := Cond.code y_MC_read b_MC_read 2 (some .int) :: gW
abbrev b_MC_isCharset : ByteArray := prog_1_method_13_code
abbrev y_MC_isCharset : MethodName := ⟨"MailCharacters", "isCharset", "(I)Z"⟩
abbrev w_MC_isCharset : List Cond := Cond.code y_MC_isCharset b_MC_isCharset 1 (some .boolean) :: gW
abbrev b_MC_write : ByteArray := prog_1_method_8_code
abbrev y_MC_write : MethodName := ⟨"MailCharacters", "write", "(I)I"⟩
abbrev w_MC_write : List Cond := Cond.code y_MC_write b_MC_write 2 (some .int) :: gW
abbrev b_Writer_writeInto : ByteArray := prog_12_method_2_code
abbrev y_Writer_writeInto : MethodName := ⟨"MailCharacters$Writer", "writeInto", "(LMailCharacters$Row;ILMailCharacters$Row;)V"⟩
abbrev w_Writer_writeInto : List Cond := Cond.code y_Writer_writeInto b_Writer_writeInto 6 none :: gW
abbrev b_Writer_writeUtf7 : ByteArray := prog_12_method_10_code
abbrev y_Writer_writeUtf7 : MethodName := ⟨"MailCharacters$Writer", "writeUtf7", "(LMailCharacters$Row;LMailCharacters$Row;)V"⟩
abbrev w_Writer_writeUtf7 : List Cond := Cond.code y_Writer_writeUtf7 b_Writer_writeUtf7 7 none :: gW
abbrev b_Writer_endOfRun : ByteArray := prog_12_method_14_code
abbrev y_Writer_endOfRun : MethodName := ⟨"MailCharacters$Writer", "endOfRun", "(LMailCharacters$Row;I)I"⟩
abbrev w_Writer_endOfRun : List Cond := Cond.code y_Writer_endOfRun b_Writer_endOfRun 3 (some .int) :: gW
abbrev b_Writer_goesInRun : ByteArray := prog_12_method_13_code
abbrev y_Writer_goesInRun : MethodName := ⟨"MailCharacters$Writer", "goesInRun", "(I)Z"⟩
abbrev w_Writer_goesInRun : List Cond := Cond.code y_Writer_goesInRun b_Writer_goesInRun 1 (some .boolean) :: gW
abbrev b_Writer_widthOfRun : ByteArray := prog_12_method_15_code
abbrev y_Writer_widthOfRun : MethodName := ⟨"MailCharacters$Writer", "widthOfRun", "(LMailCharacters$Row;II)I"⟩
abbrev w_Writer_widthOfRun : List Cond := Cond.code y_Writer_widthOfRun b_Writer_widthOfRun 5 (some .int) :: gW
abbrev b_Writer_unitsOf : ByteArray := prog_12_method_5_code
abbrev y_Writer_unitsOf : MethodName := ⟨"MailCharacters$Writer", "unitsOf", "(I)I"⟩
abbrev w_Writer_unitsOf : List Cond := Cond.code y_Writer_unitsOf b_Writer_unitsOf 1 (some .int) :: gW
abbrev b_Writer_directWidthOf : ByteArray := prog_12_method_11_code
abbrev y_Writer_directWidthOf : MethodName := ⟨"MailCharacters$Writer", "directWidthOf", "(I)I"⟩
abbrev w_Writer_directWidthOf : List Cond := Cond.code y_Writer_directWidthOf b_Writer_directWidthOf 1 (some .int) :: gW
abbrev b_Writer_writeRun : ByteArray := prog_12_method_16_code
abbrev y_Writer_writeRun : MethodName := ⟨"MailCharacters$Writer", "writeRun", "(LMailCharacters$Row;IILMailCharacters$Row;)V"⟩
abbrev w_Writer_writeRun : List Cond := Cond.code y_Writer_writeRun b_Writer_writeRun 8 none :: gW
abbrev b_Writer_unitOf : ByteArray := prog_12_method_6_code
abbrev y_Writer_unitOf : MethodName := ⟨"MailCharacters$Writer", "unitOf", "(II)I"⟩
abbrev w_Writer_unitOf : List Cond := Cond.code y_Writer_unitOf b_Writer_unitOf 2 (some .int) :: gW
abbrev b_Writer_putLetters : ByteArray := prog_12_method_17_code
abbrev y_Writer_putLetters : MethodName := ⟨"MailCharacters$Writer", "putLetters", "(LMailCharacters$Row;)V"⟩
abbrev w_Writer_putLetters : List Cond := Cond.code y_Writer_putLetters b_Writer_putLetters 3 none :: gW
abbrev b_Letters_letterOf : ByteArray := prog_4_method_3_code
abbrev y_Letters_letterOf : MethodName := ⟨"MailCharacters$Letters", "letterOf", "(I)I"⟩
abbrev w_Letters_letterOf : List Cond := Cond.code y_Letters_letterOf b_Letters_letterOf 1 (some .int) :: gW
abbrev b_Bits_fillUp : ByteArray := prog_2_method_6_code
abbrev y_Bits_fillUp : MethodName := ⟨"MailCharacters$Bits", "fillUp", "(I)V"⟩
abbrev w_Bits_fillUp : List Cond := Cond.code y_Bits_fillUp b_Bits_fillUp 2 none :: gW
abbrev b_Writer_writeDirectly : ByteArray := prog_12_method_12_code
abbrev y_Writer_writeDirectly : MethodName := ⟨"MailCharacters$Writer", "writeDirectly", "(ILMailCharacters$Row;)V"⟩
abbrev w_Writer_writeDirectly : List Cond := Cond.code y_Writer_writeDirectly b_Writer_writeDirectly 2 none :: gW
abbrev b_Writer_widthOf : ByteArray := prog_12_method_3_code
abbrev y_Writer_widthOf : MethodName := ⟨"MailCharacters$Writer", "widthOf", "(II)I"⟩
abbrev w_Writer_widthOf : List Cond := Cond.code y_Writer_widthOf b_Writer_widthOf 2 (some .int) :: gW
abbrev b_Writer_utf8WidthOf : ByteArray := prog_12_method_4_code
abbrev y_Writer_utf8WidthOf : MethodName := ⟨"MailCharacters$Writer", "utf8WidthOf", "(I)I"⟩
abbrev w_Writer_utf8WidthOf : List Cond := Cond.code y_Writer_utf8WidthOf b_Writer_utf8WidthOf 1 (some .int) :: gW
abbrev b_Writer_writeCharacter : ByteArray := prog_12_method_7_code
abbrev y_Writer_writeCharacter : MethodName := ⟨"MailCharacters$Writer", "writeCharacter", "(IILMailCharacters$Row;)V"⟩
abbrev w_Writer_writeCharacter : List Cond := Cond.code y_Writer_writeCharacter b_Writer_writeCharacter 3 none :: gW
abbrev b_Writer_writeUtf8 : ByteArray := prog_12_method_8_code
abbrev y_Writer_writeUtf8 : MethodName := ⟨"MailCharacters$Writer", "writeUtf8", "(ILMailCharacters$Row;)V"⟩
abbrev w_Writer_writeUtf8 : List Cond := Cond.code y_Writer_writeUtf8 b_Writer_writeUtf8 2 none :: gW
abbrev b_Writer_writeUtf16 : ByteArray := prog_12_method_9_code
abbrev y_Writer_writeUtf16 : MethodName := ⟨"MailCharacters$Writer", "writeUtf16", "(IZLMailCharacters$Row;)V"⟩
abbrev w_Writer_writeUtf16 : List Cond := Cond.code y_Writer_writeUtf16 b_Writer_writeUtf16 7 none :: gW
abbrev b_SingleBytes_byteOf : ByteArray := prog_9_method_3_code
abbrev y_SingleBytes_byteOf : MethodName := ⟨"MailCharacters$SingleBytes", "byteOf", "(II)I"⟩
abbrev w_SingleBytes_byteOf : List Cond := Cond.code y_SingleBytes_byteOf b_SingleBytes_byteOf 2 (some .int) :: gW
abbrev b_SingleBytes_latin9ByteOf : ByteArray := prog_9_method_5_code
abbrev y_SingleBytes_latin9ByteOf : MethodName := ⟨"MailCharacters$SingleBytes", "latin9ByteOf", "(I)I"⟩
abbrev w_SingleBytes_latin9ByteOf : List Cond := Cond.code y_SingleBytes_latin9ByteOf b_SingleBytes_latin9ByteOf 2 (some .int) :: gW
abbrev b_SingleBytes_windowsByteOf : ByteArray := prog_9_method_6_code
abbrev y_SingleBytes_windowsByteOf : MethodName := ⟨"MailCharacters$SingleBytes", "windowsByteOf", "(I)I"⟩
abbrev w_SingleBytes_windowsByteOf : List Cond := Cond.code y_SingleBytes_windowsByteOf b_SingleBytes_windowsByteOf 2 (some .int) :: gW
abbrev b_SingleBytes_placeIn : ByteArray := prog_9_method_10_code
abbrev y_SingleBytes_placeIn : MethodName := ⟨"MailCharacters$SingleBytes", "placeIn", "([II)I"⟩
abbrev w_SingleBytes_placeIn : List Cond := Cond.code y_SingleBytes_placeIn b_SingleBytes_placeIn 3 (some .int) :: gW
abbrev b_SingleBytes_koiByteOf : ByteArray := prog_9_method_8_code
abbrev y_SingleBytes_koiByteOf : MethodName := ⟨"MailCharacters$SingleBytes", "koiByteOf", "(I)I"⟩
abbrev w_SingleBytes_koiByteOf : List Cond := Cond.code y_SingleBytes_koiByteOf b_SingleBytes_koiByteOf 3 (some .int) :: gW
abbrev b_MC_code : ByteArray := prog_1_method_9_code
abbrev y_MC_code : MethodName := ⟨"MailCharacters", "code", "(I)I"⟩
abbrev w_MC_code : List Cond := Cond.code y_MC_code b_MC_code 2 (some .int) :: gW
abbrev b_Coder_codeInto : ByteArray := prog_3_method_2_code
abbrev y_Coder_codeInto : MethodName := ⟨"MailCharacters$Coder", "codeInto", "(LMailCharacters$Row;ILMailCharacters$Row;)V"⟩
abbrev w_Coder_codeInto : List Cond := Cond.code y_Coder_codeInto b_Coder_codeInto 4 none :: gW
abbrev b_Coder_base : ByteArray := prog_3_method_3_code
abbrev y_Coder_base : MethodName := ⟨"MailCharacters$Coder", "base", "(LMailCharacters$Row;LMailCharacters$Row;)V"⟩
abbrev w_Coder_base : List Cond := Cond.code y_Coder_base b_Coder_base 5 none :: gW
abbrev b_Coder_putLetter : ByteArray := prog_3_method_4_code
abbrev y_Coder_putLetter : MethodName := ⟨"MailCharacters$Coder", "putLetter", "(LMailCharacters$Row;)V"⟩
abbrev w_Coder_putLetter : List Cond := Cond.code y_Coder_putLetter b_Coder_putLetter 2 none :: gW
abbrev b_Coder_endLine : ByteArray := prog_3_method_7_code
abbrev y_Coder_endLine : MethodName := ⟨"MailCharacters$Coder", "endLine", "(LMailCharacters$Row;)V"⟩
abbrev w_Coder_endLine : List Cond := Cond.code y_Coder_endLine b_Coder_endLine 2 none :: gW
abbrev b_Coder_quote : ByteArray := prog_3_method_5_code
abbrev y_Coder_quote : MethodName := ⟨"MailCharacters$Coder", "quote", "(LMailCharacters$Row;LMailCharacters$Row;)V"⟩
abbrev w_Coder_quote : List Cond := Cond.code y_Coder_quote b_Coder_quote 4 none :: gW
abbrev b_Coder_isLineEnd : ByteArray := prog_3_method_8_code
abbrev y_Coder_isLineEnd : MethodName := ⟨"MailCharacters$Coder", "isLineEnd", "(LMailCharacters$Row;I)Z"⟩
abbrev w_Coder_isLineEnd : List Cond := Cond.code y_Coder_isLineEnd b_Coder_isLineEnd 2 (some .boolean) :: gW
abbrev b_Coder_isItself : ByteArray := prog_3_method_9_code
abbrev y_Coder_isItself : MethodName := ⟨"MailCharacters$Coder", "isItself", "(LMailCharacters$Row;I)Z"⟩
abbrev w_Coder_isItself : List Cond := Cond.code y_Coder_isItself b_Coder_isItself 3 (some .boolean) :: gW
abbrev b_Coder_quoteByte : ByteArray := prog_3_method_6_code
abbrev y_Coder_quoteByte : MethodName := ⟨"MailCharacters$Coder", "quoteByte", "(IZLMailCharacters$Row;)V"⟩
abbrev w_Coder_quoteByte : List Cond := Cond.code y_Coder_quoteByte b_Coder_quoteByte 5 none :: gW
abbrev b_Letters_digitOf : ByteArray := prog_4_method_5_code
abbrev y_Letters_digitOf : MethodName := ⟨"MailCharacters$Letters", "digitOf", "(I)I"⟩
abbrev w_Letters_digitOf : List Cond := Cond.code y_Letters_digitOf b_Letters_digitOf 1 (some .int) :: gW
