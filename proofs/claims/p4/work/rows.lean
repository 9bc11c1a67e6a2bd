section
-- ===== PART A: goes FIRST, ahead of the names: the tables' words, and 'selects' of the private methods out of them =====
/-- a private method of a class that the tables say can be made, by its rows of tables_1 -/
def lw_okq (q : MethodName × Nat) : Prop := (q.1.cls ≠ "java/lang/invoke/MethodHandle" ∧ q.1.cls ≠ "java/lang/invoke/VarHandle") ∧ Cond.instantiable q.1.cls q.2 ∈ tables_1 ∧ Cond.privateMethod q.1 ∈ tables_1 ∧ Cond.instanceMethod q.1 ∈ tables_1
theorem lw_p0 : lw_okq (⟨"MailCharacters$Word", "takesKind", "(I)Z"⟩, 5) := ⟨⟨by decide +kernel, by decide +kernel⟩, List.mem_of_getElem? (i := 144) (by decide +kernel), List.mem_of_getElem? (i := 320) (by decide +kernel), List.mem_of_getElem? (i := 321) (by decide +kernel)⟩
theorem lw_p1 : lw_okq (⟨"MailCharacters", "isBlank", "(II)Z"⟩, 9) := ⟨⟨by decide +kernel, by decide +kernel⟩, List.mem_of_getElem? (i := 25) (by decide +kernel), List.mem_of_getElem? (i := 331) (by decide +kernel), List.mem_of_getElem? (i := 332) (by decide +kernel)⟩
theorem lw_p2 : lw_okq (⟨"MailCharacters$Reader", "readUtf16Marked", "(LMailCharacters$Row;IILMailCharacters$Row;)V"⟩, 2) := ⟨⟨by decide +kernel, by decide +kernel⟩, List.mem_of_getElem? (i := 117) (by decide +kernel), List.mem_of_getElem? (i := 355) (by decide +kernel), List.mem_of_getElem? (i := 356) (by decide +kernel)⟩
theorem lw_p3 : lw_okq (⟨"MailCharacters$Reader", "readUtf16", "(LMailCharacters$Row;IIZLMailCharacters$Row;)V"⟩, 2) := ⟨⟨by decide +kernel, by decide +kernel⟩, List.mem_of_getElem? (i := 117) (by decide +kernel), List.mem_of_getElem? (i := 359) (by decide +kernel), List.mem_of_getElem? (i := 360) (by decide +kernel)⟩
theorem lw_p4 : lw_okq (⟨"MailCharacters$Reader", "takeUnit", "(ILMailCharacters$Row;)V"⟩, 2) := ⟨⟨by decide +kernel, by decide +kernel⟩, List.mem_of_getElem? (i := 117) (by decide +kernel), List.mem_of_getElem? (i := 363) (by decide +kernel), List.mem_of_getElem? (i := 364) (by decide +kernel)⟩
theorem lw_p5 : lw_okq (⟨"MailCharacters$Reader", "endUnits", "(LMailCharacters$Row;)V"⟩, 2) := ⟨⟨by decide +kernel, by decide +kernel⟩, List.mem_of_getElem? (i := 117) (by decide +kernel), List.mem_of_getElem? (i := 371) (by decide +kernel), List.mem_of_getElem? (i := 372) (by decide +kernel)⟩
theorem lw_p6 : lw_okq (⟨"MailCharacters$Reader", "readUtf7", "(LMailCharacters$Row;IILMailCharacters$Row;)V"⟩, 2) := ⟨⟨by decide +kernel, by decide +kernel⟩, List.mem_of_getElem? (i := 117) (by decide +kernel), List.mem_of_getElem? (i := 376) (by decide +kernel), List.mem_of_getElem? (i := 377) (by decide +kernel)⟩
theorem lw_p7 : lw_okq (⟨"MailCharacters$Reader", "takeSixBits", "(ILMailCharacters$Row;)V"⟩, 2) := ⟨⟨by decide +kernel, by decide +kernel⟩, List.mem_of_getElem? (i := 117) (by decide +kernel), List.mem_of_getElem? (i := 383) (by decide +kernel), List.mem_of_getElem? (i := 384) (by decide +kernel)⟩
theorem lw_p8 : lw_okq (⟨"MailCharacters", "readWord", "()V"⟩, 9) := ⟨⟨by decide +kernel, by decide +kernel⟩, List.mem_of_getElem? (i := 25) (by decide +kernel), List.mem_of_getElem? (i := 425) (by decide +kernel), List.mem_of_getElem? (i := 426) (by decide +kernel)⟩
theorem lw_p9 : lw_okq (⟨"MailCharacters$Uncoder", "unbase", "(LMailCharacters$Row;IILMailCharacters$Row;)V"⟩, 2) := ⟨⟨by decide +kernel, by decide +kernel⟩, List.mem_of_getElem? (i := 54) (by decide +kernel), List.mem_of_getElem? (i := 433) (by decide +kernel), List.mem_of_getElem? (i := 434) (by decide +kernel)⟩
theorem lw_p10 : lw_okq (⟨"java/lang/Throwable", "fillInStackTrace", "(I)Ljava/lang/Throwable;"⟩, 6) := ⟨⟨by decide +kernel, by decide +kernel⟩, List.mem_of_getElem? (i := 513) (by decide +kernel), List.mem_of_getElem? (i := 511) (by decide +kernel), List.mem_of_getElem? (i := 512) (by decide +kernel)⟩
theorem lw_p11 : lw_okq (⟨"MailCharacters$Uncoder", "unquoteLines", "(LMailCharacters$Row;LMailCharacters$Row;)V"⟩, 2) := ⟨⟨by decide +kernel, by decide +kernel⟩, List.mem_of_getElem? (i := 54) (by decide +kernel), List.mem_of_getElem? (i := 547) (by decide +kernel), List.mem_of_getElem? (i := 548) (by decide +kernel)⟩
theorem lw_p12 : lw_okq (⟨"MailCharacters$Uncoder", "unhexLines", "(LMailCharacters$Row;LMailCharacters$Row;)V"⟩, 2) := ⟨⟨by decide +kernel, by decide +kernel⟩, List.mem_of_getElem? (i := 54) (by decide +kernel), List.mem_of_getElem? (i := 564) (by decide +kernel), List.mem_of_getElem? (i := 565) (by decide +kernel)⟩
theorem lw_p13 : lw_okq (⟨"MailCharacters$Uncoder", "endsHex", "(LMailCharacters$Row;)Z"⟩, 2) := ⟨⟨by decide +kernel, by decide +kernel⟩, List.mem_of_getElem? (i := 54) (by decide +kernel), List.mem_of_getElem? (i := 580) (by decide +kernel), List.mem_of_getElem? (i := 581) (by decide +kernel)⟩
theorem lw_p14 : lw_okq (⟨"MailCharacters$Uncoder", "unhexLine", "(LMailCharacters$Row;LMailCharacters$Row;)V"⟩, 2) := ⟨⟨by decide +kernel, by decide +kernel⟩, List.mem_of_getElem? (i := 54) (by decide +kernel), List.mem_of_getElem? (i := 588) (by decide +kernel), List.mem_of_getElem? (i := 589) (by decide +kernel)⟩
theorem lw_p15 : lw_okq (⟨"MailCharacters", "swapTapes", "()V"⟩, 9) := ⟨⟨by decide +kernel, by decide +kernel⟩, List.mem_of_getElem? (i := 25) (by decide +kernel), List.mem_of_getElem? (i := 592) (by decide +kernel), List.mem_of_getElem? (i := 593) (by decide +kernel)⟩
def lw_privs_1 : List (MethodName × Nat) := [(⟨"MailCharacters$Word", "takesKind", "(I)Z"⟩, 5), (⟨"MailCharacters", "isBlank", "(II)Z"⟩, 9), (⟨"MailCharacters$Reader", "readUtf16Marked", "(LMailCharacters$Row;IILMailCharacters$Row;)V"⟩, 2), (⟨"MailCharacters$Reader", "readUtf16", "(LMailCharacters$Row;IIZLMailCharacters$Row;)V"⟩, 2), (⟨"MailCharacters$Reader", "takeUnit", "(ILMailCharacters$Row;)V"⟩, 2), (⟨"MailCharacters$Reader", "endUnits", "(LMailCharacters$Row;)V"⟩, 2), (⟨"MailCharacters$Reader", "readUtf7", "(LMailCharacters$Row;IILMailCharacters$Row;)V"⟩, 2), (⟨"MailCharacters$Reader", "takeSixBits", "(ILMailCharacters$Row;)V"⟩, 2), (⟨"MailCharacters", "readWord", "()V"⟩, 9), (⟨"MailCharacters$Uncoder", "unbase", "(LMailCharacters$Row;IILMailCharacters$Row;)V"⟩, 2), (⟨"java/lang/Throwable", "fillInStackTrace", "(I)Ljava/lang/Throwable;"⟩, 6), (⟨"MailCharacters$Uncoder", "unquoteLines", "(LMailCharacters$Row;LMailCharacters$Row;)V"⟩, 2), (⟨"MailCharacters$Uncoder", "unhexLines", "(LMailCharacters$Row;LMailCharacters$Row;)V"⟩, 2), (⟨"MailCharacters$Uncoder", "endsHex", "(LMailCharacters$Row;)Z"⟩, 2), (⟨"MailCharacters$Uncoder", "unhexLine", "(LMailCharacters$Row;LMailCharacters$Row;)V"⟩, 2), (⟨"MailCharacters", "swapTapes", "()V"⟩, 9)]
theorem lw_r1 : ∀ q ∈ lw_privs_1, lw_okq q := List.forall_mem_cons.mpr ⟨lw_p0, List.forall_mem_cons.mpr ⟨lw_p1, List.forall_mem_cons.mpr ⟨lw_p2, List.forall_mem_cons.mpr ⟨lw_p3, List.forall_mem_cons.mpr ⟨lw_p4, List.forall_mem_cons.mpr ⟨lw_p5, List.forall_mem_cons.mpr ⟨lw_p6, List.forall_mem_cons.mpr ⟨lw_p7, List.forall_mem_cons.mpr ⟨lw_p8, List.forall_mem_cons.mpr ⟨lw_p9, List.forall_mem_cons.mpr ⟨lw_p10, List.forall_mem_cons.mpr ⟨lw_p11, List.forall_mem_cons.mpr ⟨lw_p12, List.forall_mem_cons.mpr ⟨lw_p13, List.forall_mem_cons.mpr ⟨lw_p14, List.forall_mem_cons.mpr ⟨lw_p15, fun _ h => absurd h List.not_mem_nil⟩⟩⟩⟩⟩⟩⟩⟩⟩⟩⟩⟩⟩⟩⟩⟩
theorem lw_p16 : lw_okq (⟨"MailCharacters$Writer", "writeUtf7", "(LMailCharacters$Row;LMailCharacters$Row;)V"⟩, 1) := ⟨⟨by decide +kernel, by decide +kernel⟩, List.mem_of_getElem? (i := 132) (by decide +kernel), List.mem_of_getElem? (i := 618) (by decide +kernel), List.mem_of_getElem? (i := 619) (by decide +kernel)⟩
theorem lw_p17 : lw_okq (⟨"MailCharacters$Writer", "writeRun", "(LMailCharacters$Row;IILMailCharacters$Row;)V"⟩, 1) := ⟨⟨by decide +kernel, by decide +kernel⟩, List.mem_of_getElem? (i := 132) (by decide +kernel), List.mem_of_getElem? (i := 641) (by decide +kernel), List.mem_of_getElem? (i := 642) (by decide +kernel)⟩
theorem lw_p18 : lw_okq (⟨"MailCharacters$Writer", "putLetters", "(LMailCharacters$Row;)V"⟩, 1) := ⟨⟨by decide +kernel, by decide +kernel⟩, List.mem_of_getElem? (i := 132) (by decide +kernel), List.mem_of_getElem? (i := 653) (by decide +kernel), List.mem_of_getElem? (i := 654) (by decide +kernel)⟩
theorem lw_p19 : lw_okq (⟨"MailCharacters$Coder", "base", "(LMailCharacters$Row;LMailCharacters$Row;)V"⟩, 2) := ⟨⟨by decide +kernel, by decide +kernel⟩, List.mem_of_getElem? (i := 102) (by decide +kernel), List.mem_of_getElem? (i := 713) (by decide +kernel), List.mem_of_getElem? (i := 714) (by decide +kernel)⟩
theorem lw_p20 : lw_okq (⟨"MailCharacters$Coder", "putLetter", "(LMailCharacters$Row;)V"⟩, 2) := ⟨⟨by decide +kernel, by decide +kernel⟩, List.mem_of_getElem? (i := 102) (by decide +kernel), List.mem_of_getElem? (i := 721) (by decide +kernel), List.mem_of_getElem? (i := 722) (by decide +kernel)⟩
theorem lw_p21 : lw_okq (⟨"MailCharacters$Coder", "endLine", "(LMailCharacters$Row;)V"⟩, 2) := ⟨⟨by decide +kernel, by decide +kernel⟩, List.mem_of_getElem? (i := 102) (by decide +kernel), List.mem_of_getElem? (i := 725) (by decide +kernel), List.mem_of_getElem? (i := 726) (by decide +kernel)⟩
theorem lw_p22 : lw_okq (⟨"MailCharacters$Coder", "quote", "(LMailCharacters$Row;LMailCharacters$Row;)V"⟩, 2) := ⟨⟨by decide +kernel, by decide +kernel⟩, List.mem_of_getElem? (i := 102) (by decide +kernel), List.mem_of_getElem? (i := 734) (by decide +kernel), List.mem_of_getElem? (i := 735) (by decide +kernel)⟩
theorem lw_p23 : lw_okq (⟨"MailCharacters$Coder", "quoteByte", "(IZLMailCharacters$Row;)V"⟩, 2) := ⟨⟨by decide +kernel, by decide +kernel⟩, List.mem_of_getElem? (i := 102) (by decide +kernel), List.mem_of_getElem? (i := 744) (by decide +kernel), List.mem_of_getElem? (i := 745) (by decide +kernel)⟩
theorem lw_p24 : lw_okq (⟨"MailCharactersModel", "lay", "(II)V"⟩, 23) := ⟨⟨by decide +kernel, by decide +kernel⟩, List.mem_of_getElem? (i := 769) (by decide +kernel), List.mem_of_getElem? (i := 883) (by decide +kernel), List.mem_of_getElem? (i := 884) (by decide +kernel)⟩
theorem lw_p25 : lw_okq (⟨"MailCharactersModel", "charsetOf", "(II)I"⟩, 23) := ⟨⟨by decide +kernel, by decide +kernel⟩, List.mem_of_getElem? (i := 769) (by decide +kernel), List.mem_of_getElem? (i := 895) (by decide +kernel), List.mem_of_getElem? (i := 896) (by decide +kernel)⟩
theorem lw_p26 : lw_okq (⟨"MailCharactersModel", "unbase", "(II)V"⟩, 23) := ⟨⟨by decide +kernel, by decide +kernel⟩, List.mem_of_getElem? (i := 769) (by decide +kernel), List.mem_of_getElem? (i := 903) (by decide +kernel), List.mem_of_getElem? (i := 904) (by decide +kernel)⟩
theorem lw_p27 : lw_okq (⟨"MailCharactersModel", "put", "(I)V"⟩, 23) := ⟨⟨by decide +kernel, by decide +kernel⟩, List.mem_of_getElem? (i := 769) (by decide +kernel), List.mem_of_getElem? (i := 911) (by decide +kernel), List.mem_of_getElem? (i := 912) (by decide +kernel)⟩
theorem lw_p28 : lw_okq (⟨"MailCharactersModel", "unquote", "()V"⟩, 23) := ⟨⟨by decide +kernel, by decide +kernel⟩, List.mem_of_getElem? (i := 769) (by decide +kernel), List.mem_of_getElem? (i := 915) (by decide +kernel), List.mem_of_getElem? (i := 916) (by decide +kernel)⟩
theorem lw_p29 : lw_okq (⟨"MailCharactersModel", "lineEnd", "(I)I"⟩, 23) := ⟨⟨by decide +kernel, by decide +kernel⟩, List.mem_of_getElem? (i := 769) (by decide +kernel), List.mem_of_getElem? (i := 919) (by decide +kernel), List.mem_of_getElem? (i := 920) (by decide +kernel)⟩
theorem lw_p30 : lw_okq (⟨"MailCharactersModel", "lineStop", "(II)I"⟩, 23) := ⟨⟨by decide +kernel, by decide +kernel⟩, List.mem_of_getElem? (i := 769) (by decide +kernel), List.mem_of_getElem? (i := 923) (by decide +kernel), List.mem_of_getElem? (i := 924) (by decide +kernel)⟩
theorem lw_p31 : lw_okq (⟨"MailCharactersModel", "told", "(II)I"⟩, 23) := ⟨⟨by decide +kernel, by decide +kernel⟩, List.mem_of_getElem? (i := 769) (by decide +kernel), List.mem_of_getElem? (i := 927) (by decide +kernel), List.mem_of_getElem? (i := 928) (by decide +kernel)⟩
def lw_privs_2 : List (MethodName × Nat) := [(⟨"MailCharacters$Writer", "writeUtf7", "(LMailCharacters$Row;LMailCharacters$Row;)V"⟩, 1), (⟨"MailCharacters$Writer", "writeRun", "(LMailCharacters$Row;IILMailCharacters$Row;)V"⟩, 1), (⟨"MailCharacters$Writer", "putLetters", "(LMailCharacters$Row;)V"⟩, 1), (⟨"MailCharacters$Coder", "base", "(LMailCharacters$Row;LMailCharacters$Row;)V"⟩, 2), (⟨"MailCharacters$Coder", "putLetter", "(LMailCharacters$Row;)V"⟩, 2), (⟨"MailCharacters$Coder", "endLine", "(LMailCharacters$Row;)V"⟩, 2), (⟨"MailCharacters$Coder", "quote", "(LMailCharacters$Row;LMailCharacters$Row;)V"⟩, 2), (⟨"MailCharacters$Coder", "quoteByte", "(IZLMailCharacters$Row;)V"⟩, 2), (⟨"MailCharactersModel", "lay", "(II)V"⟩, 23), (⟨"MailCharactersModel", "charsetOf", "(II)I"⟩, 23), (⟨"MailCharactersModel", "unbase", "(II)V"⟩, 23), (⟨"MailCharactersModel", "put", "(I)V"⟩, 23), (⟨"MailCharactersModel", "unquote", "()V"⟩, 23), (⟨"MailCharactersModel", "lineEnd", "(I)I"⟩, 23), (⟨"MailCharactersModel", "lineStop", "(II)I"⟩, 23), (⟨"MailCharactersModel", "told", "(II)I"⟩, 23)]
theorem lw_r2 : ∀ q ∈ lw_privs_2, lw_okq q := List.forall_mem_cons.mpr ⟨lw_p16, List.forall_mem_cons.mpr ⟨lw_p17, List.forall_mem_cons.mpr ⟨lw_p18, List.forall_mem_cons.mpr ⟨lw_p19, List.forall_mem_cons.mpr ⟨lw_p20, List.forall_mem_cons.mpr ⟨lw_p21, List.forall_mem_cons.mpr ⟨lw_p22, List.forall_mem_cons.mpr ⟨lw_p23, List.forall_mem_cons.mpr ⟨lw_p24, List.forall_mem_cons.mpr ⟨lw_p25, List.forall_mem_cons.mpr ⟨lw_p26, List.forall_mem_cons.mpr ⟨lw_p27, List.forall_mem_cons.mpr ⟨lw_p28, List.forall_mem_cons.mpr ⟨lw_p29, List.forall_mem_cons.mpr ⟨lw_p30, List.forall_mem_cons.mpr ⟨lw_p31, fun _ h => absurd h List.not_mem_nil⟩⟩⟩⟩⟩⟩⟩⟩⟩⟩⟩⟩⟩⟩⟩⟩
theorem lw_p32 : lw_okq (⟨"MailCharactersModel", "unhexAll", "()V"⟩, 23) := ⟨⟨by decide +kernel, by decide +kernel⟩, List.mem_of_getElem? (i := 769) (by decide +kernel), List.mem_of_getElem? (i := 934) (by decide +kernel), List.mem_of_getElem? (i := 935) (by decide +kernel)⟩
theorem lw_p33 : lw_okq (⟨"MailCharactersModel", "unhex", "(II)Z"⟩, 23) := ⟨⟨by decide +kernel, by decide +kernel⟩, List.mem_of_getElem? (i := 769) (by decide +kernel), List.mem_of_getElem? (i := 938) (by decide +kernel), List.mem_of_getElem? (i := 939) (by decide +kernel)⟩
theorem lw_p34 : lw_okq (⟨"MailCharactersModel", "less32", "(II)I"⟩, 23) := ⟨⟨by decide +kernel, by decide +kernel⟩, List.mem_of_getElem? (i := 769) (by decide +kernel), List.mem_of_getElem? (i := 942) (by decide +kernel), List.mem_of_getElem? (i := 943) (by decide +kernel)⟩
theorem lw_p35 : lw_okq (⟨"MailCharactersModel", "isEnd", "(II)Z"⟩, 23) := ⟨⟨by decide +kernel, by decide +kernel⟩, List.mem_of_getElem? (i := 769) (by decide +kernel), List.mem_of_getElem? (i := 946) (by decide +kernel), List.mem_of_getElem? (i := 947) (by decide +kernel)⟩
theorem lw_p36 : lw_okq (⟨"MailCharactersModel", "isBegin", "(II)Z"⟩, 23) := ⟨⟨by decide +kernel, by decide +kernel⟩, List.mem_of_getElem? (i := 769) (by decide +kernel), List.mem_of_getElem? (i := 950) (by decide +kernel), List.mem_of_getElem? (i := 951) (by decide +kernel)⟩
theorem lw_p37 : lw_okq (⟨"MailCharactersModel", "outToTape", "()V"⟩, 23) := ⟨⟨by decide +kernel, by decide +kernel⟩, List.mem_of_getElem? (i := 769) (by decide +kernel), List.mem_of_getElem? (i := 954) (by decide +kernel), List.mem_of_getElem? (i := 955) (by decide +kernel)⟩
theorem lw_p38 : lw_okq (⟨"MailCharactersModel", "tapeToSrc", "(II)V"⟩, 23) := ⟨⟨by decide +kernel, by decide +kernel⟩, List.mem_of_getElem? (i := 769) (by decide +kernel), List.mem_of_getElem? (i := 965) (by decide +kernel), List.mem_of_getElem? (i := 966) (by decide +kernel)⟩
theorem lw_p39 : lw_okq (⟨"MailCharactersModel", "readAll", "(I)V"⟩, 23) := ⟨⟨by decide +kernel, by decide +kernel⟩, List.mem_of_getElem? (i := 769) (by decide +kernel), List.mem_of_getElem? (i := 969) (by decide +kernel), List.mem_of_getElem? (i := 970) (by decide +kernel)⟩
theorem lw_p40 : lw_okq (⟨"MailCharactersModel", "readMarked", "()V"⟩, 23) := ⟨⟨by decide +kernel, by decide +kernel⟩, List.mem_of_getElem? (i := 769) (by decide +kernel), List.mem_of_getElem? (i := 973) (by decide +kernel), List.mem_of_getElem? (i := 974) (by decide +kernel)⟩
theorem lw_p41 : lw_okq (⟨"MailCharactersModel", "byteOf", "(I)I"⟩, 23) := ⟨⟨by decide +kernel, by decide +kernel⟩, List.mem_of_getElem? (i := 769) (by decide +kernel), List.mem_of_getElem? (i := 977) (by decide +kernel), List.mem_of_getElem? (i := 978) (by decide +kernel)⟩
theorem lw_p42 : lw_okq (⟨"MailCharactersModel", "readUnits", "(Z)V"⟩, 23) := ⟨⟨by decide +kernel, by decide +kernel⟩, List.mem_of_getElem? (i := 769) (by decide +kernel), List.mem_of_getElem? (i := 981) (by decide +kernel), List.mem_of_getElem? (i := 982) (by decide +kernel)⟩
theorem lw_p43 : lw_okq (⟨"MailCharactersModel", "unit", "(I)V"⟩, 23) := ⟨⟨by decide +kernel, by decide +kernel⟩, List.mem_of_getElem? (i := 769) (by decide +kernel), List.mem_of_getElem? (i := 985) (by decide +kernel), List.mem_of_getElem? (i := 986) (by decide +kernel)⟩
theorem lw_p44 : lw_okq (⟨"MailCharactersModel", "add", "(I)V"⟩, 23) := ⟨⟨by decide +kernel, by decide +kernel⟩, List.mem_of_getElem? (i := 769) (by decide +kernel), List.mem_of_getElem? (i := 996) (by decide +kernel), List.mem_of_getElem? (i := 997) (by decide +kernel)⟩
theorem lw_p45 : lw_okq (⟨"MailCharactersModel", "endUnits", "()V"⟩, 23) := ⟨⟨by decide +kernel, by decide +kernel⟩, List.mem_of_getElem? (i := 769) (by decide +kernel), List.mem_of_getElem? (i := 1000) (by decide +kernel), List.mem_of_getElem? (i := 1001) (by decide +kernel)⟩
theorem lw_p46 : lw_okq (⟨"MailCharactersModel", "takeUtf8", "()V"⟩, 23) := ⟨⟨by decide +kernel, by decide +kernel⟩, List.mem_of_getElem? (i := 769) (by decide +kernel), List.mem_of_getElem? (i := 1008) (by decide +kernel), List.mem_of_getElem? (i := 1009) (by decide +kernel)⟩
theorem lw_p47 : lw_okq (⟨"MailCharactersModel", "takeUtf7", "()V"⟩, 23) := ⟨⟨by decide +kernel, by decide +kernel⟩, List.mem_of_getElem? (i := 769) (by decide +kernel), List.mem_of_getElem? (i := 1015) (by decide +kernel), List.mem_of_getElem? (i := 1016) (by decide +kernel)⟩
def lw_privs_3 : List (MethodName × Nat) := [(⟨"MailCharactersModel", "unhexAll", "()V"⟩, 23), (⟨"MailCharactersModel", "unhex", "(II)Z"⟩, 23), (⟨"MailCharactersModel", "less32", "(II)I"⟩, 23), (⟨"MailCharactersModel", "isEnd", "(II)Z"⟩, 23), (⟨"MailCharactersModel", "isBegin", "(II)Z"⟩, 23), (⟨"MailCharactersModel", "outToTape", "()V"⟩, 23), (⟨"MailCharactersModel", "tapeToSrc", "(II)V"⟩, 23), (⟨"MailCharactersModel", "readAll", "(I)V"⟩, 23), (⟨"MailCharactersModel", "readMarked", "()V"⟩, 23), (⟨"MailCharactersModel", "byteOf", "(I)I"⟩, 23), (⟨"MailCharactersModel", "readUnits", "(Z)V"⟩, 23), (⟨"MailCharactersModel", "unit", "(I)V"⟩, 23), (⟨"MailCharactersModel", "add", "(I)V"⟩, 23), (⟨"MailCharactersModel", "endUnits", "()V"⟩, 23), (⟨"MailCharactersModel", "takeUtf8", "()V"⟩, 23), (⟨"MailCharactersModel", "takeUtf7", "()V"⟩, 23)]
theorem lw_r3 : ∀ q ∈ lw_privs_3, lw_okq q := List.forall_mem_cons.mpr ⟨lw_p32, List.forall_mem_cons.mpr ⟨lw_p33, List.forall_mem_cons.mpr ⟨lw_p34, List.forall_mem_cons.mpr ⟨lw_p35, List.forall_mem_cons.mpr ⟨lw_p36, List.forall_mem_cons.mpr ⟨lw_p37, List.forall_mem_cons.mpr ⟨lw_p38, List.forall_mem_cons.mpr ⟨lw_p39, List.forall_mem_cons.mpr ⟨lw_p40, List.forall_mem_cons.mpr ⟨lw_p41, List.forall_mem_cons.mpr ⟨lw_p42, List.forall_mem_cons.mpr ⟨lw_p43, List.forall_mem_cons.mpr ⟨lw_p44, List.forall_mem_cons.mpr ⟨lw_p45, List.forall_mem_cons.mpr ⟨lw_p46, List.forall_mem_cons.mpr ⟨lw_p47, fun _ h => absurd h List.not_mem_nil⟩⟩⟩⟩⟩⟩⟩⟩⟩⟩⟩⟩⟩⟩⟩⟩
theorem lw_p48 : lw_okq (⟨"MailCharactersModel", "charOf", "(II)I"⟩, 23) := ⟨⟨by decide +kernel, by decide +kernel⟩, List.mem_of_getElem? (i := 769) (by decide +kernel), List.mem_of_getElem? (i := 1020) (by decide +kernel), List.mem_of_getElem? (i := 1021) (by decide +kernel)⟩
theorem lw_p49 : lw_okq (⟨"MailCharactersModel", "isWord", "(I)Z"⟩, 23) := ⟨⟨by decide +kernel, by decide +kernel⟩, List.mem_of_getElem? (i := 769) (by decide +kernel), List.mem_of_getElem? (i := 1031) (by decide +kernel), List.mem_of_getElem? (i := 1032) (by decide +kernel)⟩
theorem lw_p50 : lw_okq (⟨"MailCharactersModel", "tapeAt", "(I)I"⟩, 23) := ⟨⟨by decide +kernel, by decide +kernel⟩, List.mem_of_getElem? (i := 769) (by decide +kernel), List.mem_of_getElem? (i := 1035) (by decide +kernel), List.mem_of_getElem? (i := 1036) (by decide +kernel)⟩
theorem lw_p51 : lw_okq (⟨"MailCharactersModel", "isBlank", "(II)Z"⟩, 23) := ⟨⟨by decide +kernel, by decide +kernel⟩, List.mem_of_getElem? (i := 769) (by decide +kernel), List.mem_of_getElem? (i := 1039) (by decide +kernel), List.mem_of_getElem? (i := 1040) (by decide +kernel)⟩
theorem lw_p52 : lw_okq (⟨"MailCharactersModel", "readPlain", "(II)V"⟩, 23) := ⟨⟨by decide +kernel, by decide +kernel⟩, List.mem_of_getElem? (i := 769) (by decide +kernel), List.mem_of_getElem? (i := 1043) (by decide +kernel), List.mem_of_getElem? (i := 1044) (by decide +kernel)⟩
theorem lw_p53 : lw_okq (⟨"MailCharactersModel", "readWord", "()V"⟩, 23) := ⟨⟨by decide +kernel, by decide +kernel⟩, List.mem_of_getElem? (i := 769) (by decide +kernel), List.mem_of_getElem? (i := 1047) (by decide +kernel), List.mem_of_getElem? (i := 1048) (by decide +kernel)⟩
theorem lw_p54 : lw_okq (⟨"MailCharactersModel", "putNext", "(II)I"⟩, 23) := ⟨⟨by decide +kernel, by decide +kernel⟩, List.mem_of_getElem? (i := 769) (by decide +kernel), List.mem_of_getElem? (i := 1055) (by decide +kernel), List.mem_of_getElem? (i := 1056) (by decide +kernel)⟩
theorem lw_p55 : lw_okq (⟨"MailCharactersModel", "putUtf8", "(I)V"⟩, 23) := ⟨⟨by decide +kernel, by decide +kernel⟩, List.mem_of_getElem? (i := 769) (by decide +kernel), List.mem_of_getElem? (i := 1059) (by decide +kernel), List.mem_of_getElem? (i := 1060) (by decide +kernel)⟩
theorem lw_p56 : lw_okq (⟨"MailCharactersModel", "putUnits", "(IZ)V"⟩, 23) := ⟨⟨by decide +kernel, by decide +kernel⟩, List.mem_of_getElem? (i := 769) (by decide +kernel), List.mem_of_getElem? (i := 1063) (by decide +kernel), List.mem_of_getElem? (i := 1064) (by decide +kernel)⟩
theorem lw_p57 : lw_okq (⟨"MailCharactersModel", "putUnit", "(IZ)V"⟩, 23) := ⟨⟨by decide +kernel, by decide +kernel⟩, List.mem_of_getElem? (i := 769) (by decide +kernel), List.mem_of_getElem? (i := 1067) (by decide +kernel), List.mem_of_getElem? (i := 1068) (by decide +kernel)⟩
theorem lw_p58 : lw_okq (⟨"MailCharactersModel", "byteFor", "(II)I"⟩, 23) := ⟨⟨by decide +kernel, by decide +kernel⟩, List.mem_of_getElem? (i := 769) (by decide +kernel), List.mem_of_getElem? (i := 1071) (by decide +kernel), List.mem_of_getElem? (i := 1072) (by decide +kernel)⟩
theorem lw_p59 : lw_okq (⟨"MailCharactersModel", "putRun", "(I)I"⟩, 23) := ⟨⟨by decide +kernel, by decide +kernel⟩, List.mem_of_getElem? (i := 769) (by decide +kernel), List.mem_of_getElem? (i := 1078) (by decide +kernel), List.mem_of_getElem? (i := 1079) (by decide +kernel)⟩
theorem lw_p60 : lw_okq (⟨"MailCharactersModel", "putBits", "(II)V"⟩, 23) := ⟨⟨by decide +kernel, by decide +kernel⟩, List.mem_of_getElem? (i := 769) (by decide +kernel), List.mem_of_getElem? (i := 1082) (by decide +kernel), List.mem_of_getElem? (i := 1083) (by decide +kernel)⟩
theorem lw_p61 : lw_okq (⟨"MailCharactersModel", "base", "()V"⟩, 23) := ⟨⟨by decide +kernel, by decide +kernel⟩, List.mem_of_getElem? (i := 769) (by decide +kernel), List.mem_of_getElem? (i := 1093) (by decide +kernel), List.mem_of_getElem? (i := 1094) (by decide +kernel)⟩
theorem lw_p62 : lw_okq (⟨"MailCharactersModel", "tapeOr0", "(I)I"⟩, 23) := ⟨⟨by decide +kernel, by decide +kernel⟩, List.mem_of_getElem? (i := 769) (by decide +kernel), List.mem_of_getElem? (i := 1097) (by decide +kernel), List.mem_of_getElem? (i := 1098) (by decide +kernel)⟩
theorem lw_p63 : lw_okq (⟨"MailCharactersModel", "quote", "()V"⟩, 23) := ⟨⟨by decide +kernel, by decide +kernel⟩, List.mem_of_getElem? (i := 769) (by decide +kernel), List.mem_of_getElem? (i := 1101) (by decide +kernel), List.mem_of_getElem? (i := 1102) (by decide +kernel)⟩
def lw_privs_4 : List (MethodName × Nat) := [(⟨"MailCharactersModel", "charOf", "(II)I"⟩, 23), (⟨"MailCharactersModel", "isWord", "(I)Z"⟩, 23), (⟨"MailCharactersModel", "tapeAt", "(I)I"⟩, 23), (⟨"MailCharactersModel", "isBlank", "(II)Z"⟩, 23), (⟨"MailCharactersModel", "readPlain", "(II)V"⟩, 23), (⟨"MailCharactersModel", "readWord", "()V"⟩, 23), (⟨"MailCharactersModel", "putNext", "(II)I"⟩, 23), (⟨"MailCharactersModel", "putUtf8", "(I)V"⟩, 23), (⟨"MailCharactersModel", "putUnits", "(IZ)V"⟩, 23), (⟨"MailCharactersModel", "putUnit", "(IZ)V"⟩, 23), (⟨"MailCharactersModel", "byteFor", "(II)I"⟩, 23), (⟨"MailCharactersModel", "putRun", "(I)I"⟩, 23), (⟨"MailCharactersModel", "putBits", "(II)V"⟩, 23), (⟨"MailCharactersModel", "base", "()V"⟩, 23), (⟨"MailCharactersModel", "tapeOr0", "(I)I"⟩, 23), (⟨"MailCharactersModel", "quote", "()V"⟩, 23)]
theorem lw_r4 : ∀ q ∈ lw_privs_4, lw_okq q := List.forall_mem_cons.mpr ⟨lw_p48, List.forall_mem_cons.mpr ⟨lw_p49, List.forall_mem_cons.mpr ⟨lw_p50, List.forall_mem_cons.mpr ⟨lw_p51, List.forall_mem_cons.mpr ⟨lw_p52, List.forall_mem_cons.mpr ⟨lw_p53, List.forall_mem_cons.mpr ⟨lw_p54, List.forall_mem_cons.mpr ⟨lw_p55, List.forall_mem_cons.mpr ⟨lw_p56, List.forall_mem_cons.mpr ⟨lw_p57, List.forall_mem_cons.mpr ⟨lw_p58, List.forall_mem_cons.mpr ⟨lw_p59, List.forall_mem_cons.mpr ⟨lw_p60, List.forall_mem_cons.mpr ⟨lw_p61, List.forall_mem_cons.mpr ⟨lw_p62, List.forall_mem_cons.mpr ⟨lw_p63, fun _ h => absurd h List.not_mem_nil⟩⟩⟩⟩⟩⟩⟩⟩⟩⟩⟩⟩⟩⟩⟩⟩
theorem lw_p64 : lw_okq (⟨"MailCharactersModel", "isBreak", "(I)Z"⟩, 23) := ⟨⟨by decide +kernel, by decide +kernel⟩, List.mem_of_getElem? (i := 769) (by decide +kernel), List.mem_of_getElem? (i := 1105) (by decide +kernel), List.mem_of_getElem? (i := 1106) (by decide +kernel)⟩
theorem lw_p65 : lw_okq (⟨"MailCharactersModel", "putHex", "(I)V"⟩, 23) := ⟨⟨by decide +kernel, by decide +kernel⟩, List.mem_of_getElem? (i := 769) (by decide +kernel), List.mem_of_getElem? (i := 1109) (by decide +kernel), List.mem_of_getElem? (i := 1110) (by decide +kernel)⟩
def lw_privs_5 : List (MethodName × Nat) := [(⟨"MailCharactersModel", "isBreak", "(I)Z"⟩, 23), (⟨"MailCharactersModel", "putHex", "(I)V"⟩, 23)]
theorem lw_r5 : ∀ q ∈ lw_privs_5, lw_okq q := List.forall_mem_cons.mpr ⟨lw_p64, List.forall_mem_cons.mpr ⟨lw_p65, fun _ h => absurd h List.not_mem_nil⟩⟩
def lw_privs : List (MethodName × Nat) := lw_privs_1 ++ (lw_privs_2 ++ (lw_privs_3 ++ (lw_privs_4 ++ (lw_privs_5))))
def lw_tbl : List Cond := k2_sels lw_privs ++ tables_1
theorem lw_privs_ok : ∀ q ∈ lw_privs, lw_okq q := by
  show ∀ q ∈ lw_privs_1 ++ (lw_privs_2 ++ (lw_privs_3 ++ (lw_privs_4 ++ (lw_privs_5)))), lw_okq q
  exact List.forall_mem_append.mpr ⟨lw_r1, List.forall_mem_append.mpr ⟨lw_r2, List.forall_mem_append.mpr ⟨lw_r3, List.forall_mem_append.mpr ⟨lw_r4, lw_r5⟩⟩⟩⟩
end
section
def F_Bits : u_T := fun k => match k with
  | 0 => ("MailCharacters$Bits", "value", "I", false)
  | _ => ("MailCharacters$Bits", "held", "I", false)
def t_Bits : Nat → FieldType := fun k => match k with
  | 0 => .int
  | _ => .int
theorem n_Bits : ∀ a, a < 2 → ∀ b, b < 2 → a ≠ b → (F_Bits a).2.1 ≠ (F_Bits b).2.1 := by decide +kernel
theorem t_Bits_ok : ∀ k, k < 2 → parseFieldDescriptor (F_Bits k).2.2.1 = some (t_Bits k) := by decide +kernel
def F_Coder : u_T := fun k => match k with
  | 0 => ("MailCharacters$Coder", "bits", "LMailCharacters$Bits;", true)
  | _ => ("MailCharacters$Coder", "inLine", "I", false)
def t_Coder : Nat → FieldType := fun k => match k with
  | 0 => .object "MailCharacters$Bits"
  | _ => .int
theorem n_Coder : ∀ a, a < 2 → ∀ b, b < 2 → a ≠ b → (F_Coder a).2.1 ≠ (F_Coder b).2.1 := by decide +kernel
theorem t_Coder_ok : ∀ k, k < 2 → parseFieldDescriptor (F_Coder k).2.2.1 = some (t_Coder k) := by decide +kernel
def F_Line : u_T := fun k => match k with
  | 0 => ("MailCharacters$Line", "from", "I", false)
  | 1 => ("MailCharacters$Line", "to", "I", false)
  | 2 => ("MailCharacters$Line", "ended", "Z", false)
  | _ => ("MailCharacters$Line", "next", "I", false)
def t_Line : Nat → FieldType := fun k => match k with
  | 0 => .int
  | 1 => .int
  | 2 => .boolean
  | _ => .int
theorem n_Line : ∀ a, a < 4 → ∀ b, b < 4 → a ≠ b → (F_Line a).2.1 ≠ (F_Line b).2.1 := by decide +kernel
theorem t_Line_ok : ∀ k, k < 4 → parseFieldDescriptor (F_Line k).2.2.1 = some (t_Line k) := by decide +kernel
def F_Reader : u_T := fun k => match k with
  | 0 => ("MailCharacters$Reader", "bits", "LMailCharacters$Bits;", true)
  | _ => ("MailCharacters$Reader", "firstHalf", "I", false)
def t_Reader : Nat → FieldType := fun k => match k with
  | 0 => .object "MailCharacters$Bits"
  | _ => .int
theorem n_Reader : ∀ a, a < 2 → ∀ b, b < 2 → a ≠ b → (F_Reader a).2.1 ≠ (F_Reader b).2.1 := by decide +kernel
theorem t_Reader_ok : ∀ k, k < 2 → parseFieldDescriptor (F_Reader k).2.2.1 = some (t_Reader k) := by decide +kernel
def F_Row : u_T := fun k => match k with
  | 0 => ("MailCharacters$Row", "cells", "[I", true)
  | 1 => ("MailCharacters$Row", "size", "I", false)
  | _ => ("MailCharacters$Row", "over", "Z", false)
def t_Row : Nat → FieldType := fun k => match k with
  | 0 => .array .int
  | 1 => .int
  | _ => .boolean
theorem n_Row : ∀ a, a < 3 → ∀ b, b < 3 → a ≠ b → (F_Row a).2.1 ≠ (F_Row b).2.1 := by decide +kernel
theorem t_Row_ok : ∀ k, k < 3 → parseFieldDescriptor (F_Row k).2.2.1 = some (t_Row k) := by decide +kernel
def F_Uncoder : u_T := fun k => match k with
  | 0 => ("MailCharacters$Uncoder", "bits", "LMailCharacters$Bits;", true)
  | _ => ("MailCharacters$Uncoder", "line", "LMailCharacters$Line;", true)
def t_Uncoder : Nat → FieldType := fun k => match k with
  | 0 => .object "MailCharacters$Bits"
  | _ => .object "MailCharacters$Line"
theorem n_Uncoder : ∀ a, a < 2 → ∀ b, b < 2 → a ≠ b → (F_Uncoder a).2.1 ≠ (F_Uncoder b).2.1 := by decide +kernel
theorem t_Uncoder_ok : ∀ k, k < 2 → parseFieldDescriptor (F_Uncoder k).2.2.1 = some (t_Uncoder k) := by decide +kernel
def F_Word : u_T := fun k => match k with
  | 0 => ("MailCharacters$Word", "charset", "I", false)
  | 1 => ("MailCharacters$Word", "based", "Z", false)
  | 2 => ("MailCharacters$Word", "from", "I", false)
  | 3 => ("MailCharacters$Word", "to", "I", false)
  | _ => ("MailCharacters$Word", "next", "I", false)
def t_Word : Nat → FieldType := fun k => match k with
  | 0 => .int
  | 1 => .boolean
  | 2 => .int
  | 3 => .int
  | _ => .int
theorem n_Word : ∀ a, a < 5 → ∀ b, b < 5 → a ≠ b → (F_Word a).2.1 ≠ (F_Word b).2.1 := by decide +kernel
theorem t_Word_ok : ∀ k, k < 5 → parseFieldDescriptor (F_Word k).2.2.1 = some (t_Word k) := by decide +kernel
def F_Writer : u_T := fun k => match k with
  | _ => ("MailCharacters$Writer", "bits", "LMailCharacters$Bits;", true)
def t_Writer : Nat → FieldType := fun k => match k with
  | _ => .object "MailCharacters$Bits"
theorem n_Writer : ∀ a, a < 1 → ∀ b, b < 1 → a ≠ b → (F_Writer a).2.1 ≠ (F_Writer b).2.1 := by decide +kernel
theorem t_Writer_ok : ∀ k, k < 1 → parseFieldDescriptor (F_Writer k).2.2.1 = some (t_Writer k) := by decide +kernel
def F_MC : u_T := fun k => match k with
  | 0 => ("MailCharacters", "ready", "[I", true)
  | 1 => ("MailCharacters", "text", "LMailCharacters$Row;", true)
  | 2 => ("MailCharacters", "uncoder", "LMailCharacters$Uncoder;", true)
  | 3 => ("MailCharacters", "coder", "LMailCharacters$Coder;", true)
  | 4 => ("MailCharacters", "reader", "LMailCharacters$Reader;", true)
  | 5 => ("MailCharacters", "writer", "LMailCharacters$Writer;", true)
  | 6 => ("MailCharacters", "word", "LMailCharacters$Word;", true)
  | 7 => ("MailCharacters", "tape", "LMailCharacters$Row;", false)
  | _ => ("MailCharacters", "spare", "LMailCharacters$Row;", false)
def t_MC : Nat → FieldType := fun k => match k with
  | 0 => .array .int
  | 1 => .object "MailCharacters$Row"
  | 2 => .object "MailCharacters$Uncoder"
  | 3 => .object "MailCharacters$Coder"
  | 4 => .object "MailCharacters$Reader"
  | 5 => .object "MailCharacters$Writer"
  | 6 => .object "MailCharacters$Word"
  | 7 => .object "MailCharacters$Row"
  | _ => .object "MailCharacters$Row"
theorem n_MC : ∀ a, a < 9 → ∀ b, b < 9 → a ≠ b → (F_MC a).2.1 ≠ (F_MC b).2.1 := by decide +kernel
theorem t_MC_ok : ∀ k, k < 9 → parseFieldDescriptor (F_MC k).2.2.1 = some (t_MC k) := by decide +kernel
abbrev vwCl : List vw_C := [("MailCharacters$Bits", F_Bits, 2), ("MailCharacters$Coder", F_Coder, 2), ("MailCharacters$Line", F_Line, 4), ("MailCharacters$Reader", F_Reader, 2), ("MailCharacters$Row", F_Row, 3), ("MailCharacters$Uncoder", F_Uncoder, 2), ("MailCharacters$Word", F_Word, 5), ("MailCharacters$Writer", F_Writer, 1), ("MailCharacters", F_MC, 9)]
def gW : List Cond := lw_tbl.filter goodWord
theorem gW_at {w : Cond} (i : Nat) (h : lw_tbl[i]? = some w) (g : goodWord w = true) : w ∈ gW := List.mem_filter.mpr ⟨List.mem_of_getElem? h, g⟩
theorem gW_ok {w : Cond} (h : w ∈ gW) : w ∈ gW ∧ ((w.onTables && w.keeps) = true ∨ ∃ ty, w = .arrayClass ty) := ⟨h, good_of_word (List.mem_filter.mp h).2⟩
theorem gW_c {w : Cond} (h : w ∈ gW) : GoodIn gW (w :: gW) := fun x hx => (List.mem_cons.mp hx).elim (fun e => by rw [e]; exact gW_ok h) gW_ok
theorem gW_V {own C : String} {idx maxL : Nat} {y : MethodName} {bb : ByteArray} {ret : Option FieldType} (h1 : Cond.methodLink own idx y ∈ gW) (h2 : Cond.instanceMethod y ∈ gW) (h3 : Cond.selects C y y ∈ gW) (h4 : Cond.initialized C ∈ gW) (h5 : Cond.code y bb maxL ret ∈ gW) : GoodIn gW (wsV own idx C y (Cond.code y bb maxL ret :: gW)) := by
  intro w hw
  rcases List.mem_append.mp hw with h | h
  · simp only [List.mem_cons, List.not_mem_nil, or_false] at h
    rcases h with rfl | rfl | rfl | rfl
    · exact gW_ok h1
    · exact gW_ok h2
    · exact gW_ok h3
    · exact gW_ok h4
  · exact gW_c h5 w h
theorem gW_S {own : String} {idx maxL : Nat} {y : MethodName} {bb : ByteArray} {ret : Option FieldType} (h1 : Cond.methodLink own idx y ∈ gW) (h2 : Cond.static y ∈ gW) (h4 : Cond.initialized y.cls ∈ gW) (h5 : Cond.code y bb maxL ret ∈ gW) : GoodIn gW (va_wsS own idx y (Cond.code y bb maxL ret :: gW)) := by
  intro w hw
  rcases List.mem_append.mp hw with h | h
  · simp only [List.mem_cons, List.not_mem_nil, or_false] at h
    rcases h with rfl | rfl | rfl
    · exact gW_ok h1
    · exact gW_ok h2
    · exact gW_ok h4
  · exact gW_c h5 w h
theorem i_Bits : ∀ w ∈ u_ws "MailCharacters$Bits" F_Bits 2, w ∈ gW := by decide +kernel
theorem i_Coder : ∀ w ∈ u_ws "MailCharacters$Coder" F_Coder 2, w ∈ gW := by decide +kernel
theorem i_Line : ∀ w ∈ u_ws "MailCharacters$Line" F_Line 4, w ∈ gW := by decide +kernel
theorem i_Reader : ∀ w ∈ u_ws "MailCharacters$Reader" F_Reader 2, w ∈ gW := by decide +kernel
theorem i_Row : ∀ w ∈ u_ws "MailCharacters$Row" F_Row 3, w ∈ gW := by decide +kernel
theorem i_Uncoder : ∀ w ∈ u_ws "MailCharacters$Uncoder" F_Uncoder 2, w ∈ gW := by decide +kernel
theorem i_Word : ∀ w ∈ u_ws "MailCharacters$Word" F_Word 5, w ∈ gW := by decide +kernel
theorem i_Writer : ∀ w ∈ u_ws "MailCharacters$Writer" F_Writer 1, w ∈ gW := by decide +kernel
theorem i_MC : ∀ w ∈ u_ws "MailCharacters" F_MC 9, w ∈ gW := by decide +kernel
theorem k_arrInt : Cond.arrayClass .int ∈ gW := gW_at 118 (by decide +kernel) (by decide +kernel)
theorem k_objcode : Cond.code objectInit ⟨#[0xb1]⟩ 1 none ∈ gW := gW_at 97 (by decide +kernel) (by decide +kernel)
theorem k_maxcode : Cond.code Lib.Math.max.name Lib.Math.max.code 2 (some .int) ∈ gW := gW_at 106 (by decide +kernel) (by decide +kernel)
abbrev b_MC_init : ByteArray := prog_1_method_1_code
abbrev y_MC_init : MethodName := ⟨"MailCharacters", "<init>", "()V"⟩
abbrev w_MC_init : List Cond := Cond.code y_MC_init b_MC_init 1 none :: gW
abbrev b_Row_init : ByteArray := prog_8_method_1_code
abbrev y_Row_init : MethodName := ⟨"MailCharacters$Row", "<init>", "(I)V"⟩
abbrev w_Row_init : List Cond := Cond.code y_Row_init b_Row_init 2 none :: gW
abbrev b_Uncoder_init : ByteArray := prog_10_method_1_code
abbrev y_Uncoder_init : MethodName := ⟨"MailCharacters$Uncoder", "<init>", "()V"⟩
abbrev w_Uncoder_init : List Cond := Cond.code y_Uncoder_init b_Uncoder_init 1 none :: gW
abbrev b_Bits_init : ByteArray := prog_2_method_1_code
abbrev y_Bits_init : MethodName := ⟨"MailCharacters$Bits", "<init>", "()V"⟩
abbrev w_Bits_init : List Cond := Cond.code y_Bits_init b_Bits_init 1 none :: gW
abbrev b_Line_init : ByteArray := prog_5_method_1_code
abbrev y_Line_init : MethodName := ⟨"MailCharacters$Line", "<init>", "()V"⟩
abbrev w_Line_init : List Cond := Cond.code y_Line_init b_Line_init 1 none :: gW
abbrev b_Coder_init : ByteArray := prog_3_method_1_code
abbrev y_Coder_init : MethodName := ⟨"MailCharacters$Coder", "<init>", "()V"⟩
abbrev w_Coder_init : List Cond := Cond.code y_Coder_init b_Coder_init 1 none :: gW
abbrev b_Reader_init : ByteArray := prog_7_method_1_code
abbrev y_Reader_init : MethodName := ⟨"MailCharacters$Reader", "<init>", "()V"⟩
abbrev w_Reader_init : List Cond := Cond.code y_Reader_init b_Reader_init 1 none :: gW
abbrev b_Writer_init : ByteArray := prog_12_method_1_code
abbrev y_Writer_init : MethodName := ⟨"MailCharacters$Writer", "<init>", "()V"⟩
abbrev w_Writer_init : List Cond := Cond.code y_Writer_init b_Writer_init 1 none :: gW
abbrev b_Word_init : ByteArray := prog_11_method_1_code
abbrev y_Word_init : MethodName := ⟨"MailCharacters$Word", "<init>", "()V"⟩
abbrev w_Word_init : List Cond := Cond.code y_Word_init b_Word_init 1 none :: gW
abbrev b_MC_feed : ByteArray := prog_1_method_2_code
abbrev y_MC_feed : MethodName := ⟨"MailCharacters", "feed", "(IIIII)V"⟩
abbrev w_MC_feed : List Cond := Cond.code y_MC_feed b_MC_feed 6 none :: gW
abbrev b_MC_end : ByteArray := prog_1_method_3_code
abbrev y_MC_end : MethodName := ⟨"MailCharacters", "end", "(I)I"⟩
abbrev w_MC_end : List Cond := Cond.code y_MC_end b_MC_end 3 (some .int) :: gW
abbrev b_Row_room : ByteArray := prog_8_method_6_code
abbrev y_Row_room : MethodName := ⟨"MailCharacters$Row", "room", "()I"⟩
abbrev w_Row_room : List Cond := Cond.code y_Row_room b_Row_room 1 (some .int) :: gW
abbrev b_Row_put : ByteArray := prog_8_method_3_code
abbrev y_Row_put : MethodName := ⟨"MailCharacters$Row", "put", "(I)V"⟩
abbrev w_Row_put : List Cond := Cond.code y_Row_put b_Row_put 2 none :: gW
abbrev b_Row_size : ByteArray := prog_8_method_5_code
abbrev y_Row_size : MethodName := ⟨"MailCharacters$Row", "size", "()I"⟩
abbrev w_Row_size : List Cond := Cond.code y_Row_size b_Row_size 1 (some .int) :: gW
abbrev b_MC_charset : ByteArray := prog_1_method_4_code
abbrev y_MC_charset : MethodName := ⟨"MailCharacters", "charset", "()I"⟩
abbrev w_MC_charset : List Cond := Cond.code y_MC_charset b_MC_charset 2 (some .int) :: gW
abbrev b_Names_charsetOf : ByteArray := prog_6_method_2_code
abbrev y_Names_charsetOf : MethodName := ⟨"MailCharacters$Names", "charsetOf", "(LMailCharacters$Row;II)I"⟩
abbrev w_Names_charsetOf : List Cond := Cond.code y_Names_charsetOf b_Names_charsetOf 4 (some .int) :: gW
abbrev b_Names_namesOf : ByteArray := prog_6_method_3_code
abbrev y_Names_namesOf : MethodName := ⟨"MailCharacters$Names", "namesOf", "(I)Ljava/lang/String;"⟩
abbrev w_Names_namesOf : List Cond := Cond.code y_Names_namesOf b_Names_namesOf 1 (some (.object "java/lang/String")) :: gW
abbrev b_Names_isOneOf : ByteArray := prog_6_method_4_code
abbrev y_Names_isOneOf : MethodName := ⟨"MailCharacters$Names", "isOneOf", "(LMailCharacters$Row;IILjava/lang/String;)Z"⟩
abbrev w_Names_isOneOf : List Cond := Cond.code y_Names_isOneOf b_Names_isOneOf 6 (some .boolean) :: gW
abbrev b_JString_length : ByteArray := prog_20_method_54_code
abbrev y_JString_length : MethodName := ⟨"java/lang/String", "length", "()I"⟩
abbrev w_JString_length : List Cond := Cond.code y_JString_length b_JString_length 1 (some .int) :: gW
abbrev b_JString_coder : ByteArray := prog_20_method_152_code
abbrev y_JString_coder : MethodName := ⟨"java/lang/String", "coder", "()B"⟩
abbrev w_JString_coder : List Cond := Cond.code y_JString_coder b_JString_coder 1 (some .byte) :: gW
abbrev b_JString_charAt : ByteArray := prog_20_method_56_code
abbrev y_JString_charAt : MethodName := ⟨"java/lang/String", "charAt", "(I)C"⟩
abbrev w_JString_charAt : List Cond := Cond.code y_JString_charAt b_JString_charAt 2 (some .char) :: gW
abbrev b_JString_isLatin1 : ByteArray := prog_20_method_154_code
abbrev y_JString_isLatin1 : MethodName := ⟨"java/lang/String", "isLatin1", "()Z"⟩
abbrev w_JString_isLatin1 : List Cond := Cond.code y_JString_isLatin1 b_JString_isLatin1 1 (some .boolean) :: gW
abbrev b_JStringLatin1_charAt : ByteArray := prog_21_method_2_code
abbrev y_JStringLatin1_charAt : MethodName := ⟨"java/lang/StringLatin1", "charAt", "([BI)C"⟩
abbrev w_JStringLatin1_charAt : List Cond := Cond.code y_JStringLatin1_charAt b_JStringLatin1_charAt 2 (some .char) :: gW
abbrev b_JString_checkIndex : ByteArray := prog_20_method_155_code
abbrev y_JString_checkIndex : MethodName := ⟨"java/lang/String", "checkIndex", "(II)V"⟩
abbrev w_JString_checkIndex : List Cond := Cond.code y_JString_checkIndex b_JString_checkIndex 2 none :: gW
abbrev b_JPreconditions_checkIndex : ByteArray := prog_24_method_11_code
abbrev y_JPreconditions_checkIndex : MethodName := ⟨"jdk/internal/util/Preconditions", "checkIndex", "(IILjava/util/function/BiFunction;)I"⟩
abbrev w_JPreconditions_checkIndex : List Cond := Cond.code y_JPreconditions_checkIndex b_JPreconditions_checkIndex 3 (some .int) :: gW
abbrev b_Names_goesOnAs : ByteArray := prog_6_method_5_code
abbrev y_Names_goesOnAs : MethodName := ⟨"MailCharacters$Names", "goesOnAs", "(LMailCharacters$Row;ILjava/lang/String;II)Z"⟩
abbrev w_Names_goesOnAs : List Cond := Cond.code y_Names_goesOnAs b_Names_goesOnAs 6 (some .boolean) :: gW
abbrev b_Row_get : ByteArray := prog_8_method_4_code
abbrev y_Row_get : MethodName := ⟨"MailCharacters$Row", "get", "(I)I"⟩
abbrev w_Row_get : List Cond := Cond.code y_Row_get b_Row_get 2 (some .int) :: gW
abbrev b_Names_small : ByteArray := prog_6_method_6_code
abbrev y_Names_small : MethodName := ⟨"MailCharacters$Names", "small", "(I)I"⟩
abbrev w_Names_small : List Cond := Cond.code y_Names_small b_Names_small 1 (some .int) :: gW
abbrev b_Row_empty : ByteArray := prog_8_method_2_code
abbrev y_Row_empty : MethodName := ⟨"MailCharacters$Row", "empty", "()V"⟩
abbrev w_Row_empty : List Cond := Cond.code y_Row_empty b_Row_empty 1 none :: gW
abbrev b_MC_words : ByteArray := prog_1_method_7_code
abbrev y_MC_words : MethodName := ⟨"MailCharacters", "words", "()I"⟩
abbrev w_MC_words : List Cond := Cond.code y_MC_words b_MC_words 5 (some .int) :: gW
abbrev b_Word_standsAt : ByteArray := prog_11_method_2_code
abbrev y_Word_standsAt : MethodName := ⟨"MailCharacters$Word", "standsAt", "(LMailCharacters$Row;I)Z"⟩
abbrev w_Word_standsAt : List Cond := Cond.code y_Word_standsAt b_Word_standsAt 4 (some .boolean) :: gW
abbrev b_Word_endOfName : ByteArray := prog_11_method_4_code
abbrev y_Word_endOfName : MethodName := ⟨"MailCharacters$Word", "endOfName", "(LMailCharacters$Row;I)I"⟩
abbrev w_Word_endOfName : List Cond := Cond.code y_Word_endOfName b_Word_endOfName 3 (some .int) :: gW
abbrev b_Word_takesKind : ByteArray := prog_11_method_3_code
abbrev y_Word_takesKind : MethodName := ⟨"MailCharacters$Word", "takesKind", "(I)Z"⟩
abbrev w_Word_takesKind : List Cond := Cond.code y_Word_takesKind b_Word_takesKind 2 (some .boolean) :: gW
abbrev b_Word_endOfBytes : ByteArray := prog_11_method_6_code
abbrev y_Word_endOfBytes : MethodName := ⟨"MailCharacters$Word", "endOfBytes", "(LMailCharacters$Row;I)I"⟩
abbrev w_Word_endOfBytes : List Cond := Cond.code y_Word_endOfBytes b_Word_endOfBytes 4 (some .int) :: gW
abbrev b_Word_starOrEnd : ByteArray := prog_11_method_5_code
abbrev y_Word_starOrEnd : MethodName := ⟨"MailCharacters$Word", "starOrEnd", "(LMailCharacters$Row;II)I"⟩
abbrev w_Word_starOrEnd : List Cond := Cond.code y_Word_starOrEnd b_Word_starOrEnd 4 (some .int) :: gW
abbrev b_MC_isBlank : ByteArray := prog_1_method_15_code
abbrev y_MC_isBlank : MethodName := ⟨"MailCharacters", "isBlank", "(II)Z"⟩
abbrev w_MC_isBlank : List Cond := Cond.code y_MC_isBlank b_MC_isBlank 5 (some .boolean) :: gW
abbrev b_Reader_readInto : ByteArray := prog_7_method_2_code
abbrev y_Reader_readInto : MethodName := ⟨"MailCharacters$Reader", "readInto", "(LMailCharacters$Row;IIILMailCharacters$Row;)V"⟩
abbrev w_Reader_readInto : List Cond := Cond.code y_Reader_readInto b_Reader_readInto 6 none :: gW
abbrev b_Reader_readUtf8 : ByteArray := prog_7_method_4_code
abbrev y_Reader_readUtf8 : MethodName := ⟨"MailCharacters$Reader", "readUtf8", "(LMailCharacters$Row;IILMailCharacters$Row;)V"⟩
abbrev w_Reader_readUtf8 : List Cond := Cond.code y_Reader_readUtf8 b_Reader_readUtf8 10 none :: gW
abbrev b_Reader_bytesBehind : ByteArray := prog_7_method_5_code
abbrev y_Reader_bytesBehind : MethodName := ⟨"MailCharacters$Reader", "bytesBehind", "(I)I"⟩
abbrev w_Reader_bytesBehind : List Cond := Cond.code y_Reader_bytesBehind b_Reader_bytesBehind 1 (some .int) :: gW
abbrev b_Reader_lowestBehind : ByteArray := prog_7_method_6_code
abbrev y_Reader_lowestBehind : MethodName := ⟨"MailCharacters$Reader", "lowestBehind", "(I)I"⟩
abbrev w_Reader_lowestBehind : List Cond := Cond.code y_Reader_lowestBehind b_Reader_lowestBehind 1 (some .int) :: gW
abbrev b_Reader_highestBehind : ByteArray := prog_7_method_7_code
abbrev y_Reader_highestBehind : MethodName := ⟨"MailCharacters$Reader", "highestBehind", "(I)I"⟩
abbrev w_Reader_highestBehind : List Cond := Cond.code y_Reader_highestBehind b_Reader_highestBehind 1 (some .int) :: gW
abbrev b_Reader_readUtf16Marked : ByteArray := prog_7_method_8_code
abbrev y_Reader_readUtf16Marked : MethodName := ⟨"MailCharacters$Reader", "readUtf16Marked", "(LMailCharacters$Row;IILMailCharacters$Row;)V"⟩
abbrev w_Reader_readUtf16Marked : List Cond := Cond.code y_Reader_readUtf16Marked b_Reader_readUtf16Marked 7 none :: gW
abbrev b_Reader_readUtf16 : ByteArray := prog_7_method_9_code
abbrev y_Reader_readUtf16 : MethodName := ⟨"MailCharacters$Reader", "readUtf16", "(LMailCharacters$Row;IIZLMailCharacters$Row;)V"⟩
abbrev w_Reader_readUtf16 : List Cond := Cond.code y_Reader_readUtf16 b_Reader_readUtf16 9 none :: gW
abbrev b_Reader_takeUnit : ByteArray := prog_7_method_12_code
abbrev y_Reader_takeUnit : MethodName := ⟨"MailCharacters$Reader", "takeUnit", "(ILMailCharacters$Row;)V"⟩
abbrev w_Reader_takeUnit : List Cond := Cond.code y_Reader_takeUnit b_Reader_takeUnit 4 none :: gW
abbrev b_Reader_endUnits : ByteArray := prog_7_method_13_code
abbrev y_Reader_endUnits : MethodName := ⟨"MailCharacters$Reader", "endUnits", "(LMailCharacters$Row;)V"⟩
abbrev w_Reader_endUnits : List Cond := Cond.code y_Reader_endUnits b_Reader_endUnits 2 none :: gW
abbrev b_Reader_readUtf7 : ByteArray := prog_7_method_10_code
abbrev y_Reader_readUtf7 : MethodName := ⟨"MailCharacters$Reader", "readUtf7", "(LMailCharacters$Row;IILMailCharacters$Row;)V"⟩
abbrev w_Reader_readUtf7 : List Cond := Cond.code y_Reader_readUtf7 b_Reader_readUtf7 11 none :: gW
abbrev b_Letters_sixBitsOf : ByteArray := prog_4_method_2_code
abbrev y_Letters_sixBitsOf : MethodName := ⟨"MailCharacters$Letters", "sixBitsOf", "(I)I"⟩
abbrev w_Letters_sixBitsOf : List Cond := Cond.code y_Letters_sixBitsOf b_Letters_sixBitsOf 1 (some .int) :: gW
abbrev b_Reader_takeSixBits : ByteArray := prog_7_method_11_code
abbrev y_Reader_takeSixBits : MethodName := ⟨"MailCharacters$Reader", "takeSixBits", "(ILMailCharacters$Row;)V"⟩
abbrev w_Reader_takeSixBits : List Cond := Cond.code y_Reader_takeSixBits b_Reader_takeSixBits 3 none :: gW
abbrev b_Bits_add : ByteArray := prog_2_method_3_code
abbrev y_Bits_add : MethodName := ⟨"MailCharacters$Bits", "add", "(II)V"⟩
abbrev w_Bits_add : List Cond := Cond.code y_Bits_add b_Bits_add 3 none :: gW
abbrev b_Bits_has : ByteArray := prog_2_method_4_code
abbrev y_Bits_has : MethodName := ⟨"MailCharacters$Bits", "has", "(I)Z"⟩
abbrev w_Bits_has : List Cond := Cond.code y_Bits_has b_Bits_has 2 (some .boolean) :: gW
abbrev b_Bits_take : ByteArray := prog_2_method_5_code
abbrev y_Bits_take : MethodName := ⟨"MailCharacters$Bits", "take", "(I)I"⟩
abbrev w_Bits_take : List Cond := Cond.code y_Bits_take b_Bits_take 2 (some .int) :: gW
abbrev b_Bits_clear : ByteArray := prog_2_method_2_code
abbrev y_Bits_clear : MethodName := ⟨"MailCharacters$Bits", "clear", "()V"⟩
abbrev w_Bits_clear : List Cond := Cond.code y_Bits_clear b_Bits_clear 1 none :: gW
abbrev b_Reader_readSingleBytes : ByteArray := prog_7_method_3_code
abbrev y_Reader_readSingleBytes : MethodName := ⟨"MailCharacters$Reader", "readSingleBytes", "(LMailCharacters$Row;IIILMailCharacters$Row;)V"⟩
abbrev w_Reader_readSingleBytes : List Cond := Cond.code y_Reader_readSingleBytes b_Reader_readSingleBytes 6 none :: gW
abbrev b_SingleBytes_characterOf : ByteArray := prog_9_method_2_code
abbrev y_SingleBytes_characterOf : MethodName := ⟨"MailCharacters$SingleBytes", "characterOf", "(II)I"⟩
abbrev w_SingleBytes_characterOf : List Cond := Cond.code y_SingleBytes_characterOf b_SingleBytes_characterOf 2 (some .int) :: gW
abbrev b_SingleBytes_latin9CharacterOf : ByteArray := prog_9_method_4_code
abbrev y_SingleBytes_latin9CharacterOf : MethodName := ⟨"MailCharacters$SingleBytes", "latin9CharacterOf", "(I)I"⟩
abbrev w_SingleBytes_latin9CharacterOf : List Cond := Cond.code y_SingleBytes_latin9CharacterOf b_SingleBytes_latin9CharacterOf 2 (some .int) :: gW
abbrev b_SingleBytes_inRow : ByteArray := prog_9_method_9_code
abbrev y_SingleBytes_inRow : MethodName := ⟨"MailCharacters$SingleBytes", "inRow", "([II)I"⟩
abbrev w_SingleBytes_inRow : List Cond := Cond.code y_SingleBytes_inRow b_SingleBytes_inRow 2 (some .int) :: gW
abbrev b_SingleBytes_koiCharacterOf : ByteArray := prog_9_method_7_code
abbrev y_SingleBytes_koiCharacterOf : MethodName := ⟨"MailCharacters$SingleBytes", "koiCharacterOf", "(I)I"⟩
abbrev w_SingleBytes_koiCharacterOf : List Cond := Cond.code y_SingleBytes_koiCharacterOf b_SingleBytes_koiCharacterOf 1 (some .int) :: gW
abbrev b_MC_readWord : ByteArray := prog_1_method_16_code
abbrev y_MC_readWord : MethodName := ⟨"MailCharacters", "readWord", "()V"⟩
abbrev w_MC_readWord : List Cond := Cond.code y_MC_readWord b_MC_readWord 1 none :: gW
abbrev b_Uncoder_uncodeWord : ByteArray := prog_10_method_3_code
abbrev y_Uncoder_uncodeWord : MethodName := ⟨"MailCharacters$Uncoder", "uncodeWord", "(LMailCharacters$Row;LMailCharacters$Word;LMailCharacters$Row;)V"⟩
abbrev w_Uncoder_uncodeWord : List Cond := Cond.code y_Uncoder_uncodeWord b_Uncoder_uncodeWord 4 none :: gW
abbrev b_Uncoder_unbase : ByteArray := prog_10_method_4_code
abbrev y_Uncoder_unbase : MethodName := ⟨"MailCharacters$Uncoder", "unbase", "(LMailCharacters$Row;IILMailCharacters$Row;)V"⟩
abbrev w_Uncoder_unbase : List Cond := Cond.code y_Uncoder_unbase b_Uncoder_unbase 8 none :: gW
abbrev b_Uncoder_unquote : ByteArray := prog_10_method_7_code
abbrev y_Uncoder_unquote : MethodName := ⟨"MailCharacters$Uncoder", "unquote", "(LMailCharacters$Row;IIZLMailCharacters$Row;)V"⟩
abbrev w_Uncoder_unquote : List Cond := Cond.code y_Uncoder_unquote b_Uncoder_unquote 9 none :: gW
abbrev b_Letters_hexOf : ByteArray := prog_4_method_4_code
abbrev y_Letters_hexOf : MethodName := ⟨"MailCharacters$Letters", "hexOf", "(I)I"⟩
abbrev w_Letters_hexOf : List Cond := Cond.code y_Letters_hexOf b_Letters_hexOf 1 (some .int) :: gW
abbrev b_MC_byteAt : ByteArray := prog_1_method_10_code
abbrev y_MC_byteAt : MethodName := ⟨"MailCharacters", "byteAt", "(I)I"⟩
abbrev w_MC_byteAt : List Cond := Cond.code y_MC_byteAt b_MC_byteAt 2 (some .int) :: gW
abbrev b_MC_at : ByteArray := prog_1_method_11_code
abbrev y_MC_at : MethodName := ⟨"MailCharacters", "at", "(I)I"⟩
abbrev w_MC_at : List Cond := Cond.code y_MC_at b_MC_at 2 (some .int) :: gW
abbrev b_MC_count : ByteArray := prog_1_method_12_code
abbrev y_MC_count : MethodName := ⟨"MailCharacters", "count", "(I)I"⟩
abbrev w_MC_count : List Cond := Cond.code y_MC_count b_MC_count 2 (some .int) :: gW
abbrev b_Row_countOf : ByteArray := prog_8_method_7_code
abbrev y_Row_countOf : MethodName := ⟨"MailCharacters$Row", "countOf", "(I)I"⟩
abbrev w_Row_countOf : List Cond := Cond.code y_Row_countOf b_Row_countOf 4 (some .int) :: gW
abbrev b_MC_uncode : ByteArray := prog_1_method_5_code
abbrev y_MC_uncode : MethodName := ⟨"MailCharacters", "uncode", "(I)I"⟩
abbrev w_MC_uncode : List Cond := Cond.code y_MC_uncode b_MC_uncode 2 (some .int) :: gW
abbrev b_Uncoder_uncodeInto : ByteArray := prog_10_method_2_code
abbrev y_Uncoder_uncodeInto : MethodName := ⟨"MailCharacters$Uncoder", "uncodeInto", "(LMailCharacters$Row;ILMailCharacters$Row;)V"⟩
abbrev w_Uncoder_uncodeInto : List Cond := Cond.code y_Uncoder_uncodeInto b_Uncoder_uncodeInto 4 none :: gW
abbrev b_Uncoder_unquoteLines : ByteArray := prog_10_method_5_code
abbrev y_Uncoder_unquoteLines : MethodName := ⟨"MailCharacters$Uncoder", "unquoteLines", "(LMailCharacters$Row;LMailCharacters$Row;)V"⟩
abbrev w_Uncoder_unquoteLines : List Cond := Cond.code y_Uncoder_unquoteLines b_Uncoder_unquoteLines 6 none :: gW
abbrev b_Line_goToStart : ByteArray := prog_5_method_2_code
abbrev y_Line_goToStart : MethodName := ⟨"MailCharacters$Line", "goToStart", "()V"⟩
abbrev w_Line_goToStart : List Cond := Cond.code y_Line_goToStart b_Line_goToStart 1 none :: gW
abbrev b_Line_step : ByteArray := prog_5_method_3_code
abbrev y_Line_step : MethodName := ⟨"MailCharacters$Line", "step", "(LMailCharacters$Row;)Z"⟩
abbrev w_Line_step : List Cond := Cond.code y_Line_step b_Line_step 3 (some .boolean) :: gW
abbrev b_Uncoder_withoutBlanks : ByteArray := prog_10_method_6_code
abbrev y_Uncoder_withoutBlanks : MethodName := ⟨"MailCharacters$Uncoder", "withoutBlanks", "(LMailCharacters$Row;II)I"⟩
abbrev w_Uncoder_withoutBlanks : List Cond := Cond.code y_Uncoder_withoutBlanks b_Uncoder_withoutBlanks 5 (some .int) :: gW
abbrev b_Uncoder_unhexLines : ByteArray := prog_10_method_8_code
abbrev y_Uncoder_unhexLines : MethodName := ⟨"MailCharacters$Uncoder", "unhexLines", "(LMailCharacters$Row;LMailCharacters$Row;)V"⟩
abbrev w_Uncoder_unhexLines : List Cond := Cond.code y_Uncoder_unhexLines b_Uncoder_unhexLines 5 none :: gW
abbrev b_Line_length : ByteArray := prog_5_method_5_code
abbrev y_Line_length : MethodName := ⟨"MailCharacters$Line", "length", "()I"⟩
abbrev w_Line_length : List Cond := Cond.code y_Line_length b_Line_length 1 (some .int) :: gW
abbrev b_Line_begins : ByteArray := prog_5_method_4_code
abbrev y_Line_begins : MethodName := ⟨"MailCharacters$Line", "begins", "(LMailCharacters$Row;Ljava/lang/String;)Z"⟩
abbrev w_Line_begins : List Cond := Cond.code y_Line_begins b_Line_begins 4 (some .boolean) :: gW
abbrev b_Uncoder_endsHex : ByteArray := prog_10_method_9_code
abbrev y_Uncoder_endsHex : MethodName := ⟨"MailCharacters$Uncoder", "endsHex", "(LMailCharacters$Row;)Z"⟩
abbrev w_Uncoder_endsHex : List Cond := Cond.code y_Uncoder_endsHex b_Uncoder_endsHex 2 (some .boolean) :: gW
abbrev b_Uncoder_hexValue : ByteArray := prog_10_method_11_code
abbrev y_Uncoder_hexValue : MethodName := ⟨"MailCharacters$Uncoder", "hexValue", "(I)I"⟩
abbrev w_Uncoder_hexValue : List Cond := Cond.code y_Uncoder_hexValue b_Uncoder_hexValue 1 (some .int) :: gW
abbrev b_Uncoder_unhexLine : ByteArray := prog_10_method_10_code
abbrev y_Uncoder_unhexLine : MethodName := ⟨"MailCharacters$Uncoder", "unhexLine", "(LMailCharacters$Row;LMailCharacters$Row;)V"⟩
abbrev w_Uncoder_unhexLine : List Cond := Cond.code y_Uncoder_unhexLine b_Uncoder_unhexLine 7 none :: gW
abbrev b_MC_swapTapes : ByteArray := prog_1_method_14_code
abbrev y_MC_swapTapes : MethodName := ⟨"MailCharacters", "swapTapes", "()V"⟩
abbrev w_MC_swapTapes : List Cond := Cond.code y_MC_swapTapes b_MC_swapTapes 2 none :: gW
abbrev b_MC_read : ByteArray := prog_1_method_6_code
abbrev y_MC_read : MethodName := ⟨"MailCharacters", "read", "(I)I"⟩
abbrev w_MC_read : List Cond := Cond.code y_MC_read b_MC_read 2 (some .int) :: gW
abbrev b_MC_isCharset : ByteArray := prog_1_method_13_code
abbrev y_MC_isCharset : MethodName := ⟨"MailCharacters", "isCharset", "(I)Z"⟩
abbrev w_MC_isCharset : List Cond := Cond.code y_MC_isCharset b_MC_isCharset 1 (some .boolean) :: gW
abbrev b_MC_write : ByteArray := prog_1_method_8_code
abbrev y_MC_write : MethodName := ⟨"MailCharacters", "write", "(I)I"⟩
abbrev w_MC_write : List Cond := Cond.code y_MC_write b_MC_write 2 (some .int) :: gW
abbrev b_Writer_writeInto : ByteArray := prog_12_method_2_code
abbrev y_Writer_writeInto : MethodName := ⟨"MailCharacters$Writer", "writeInto", "(LMailCharacters$Row;ILMailCharacters$Row;)V"⟩
abbrev w_Writer_writeInto : List Cond := Cond.code y_Writer_writeInto b_Writer_writeInto 6 none :: gW
abbrev b_Writer_writeUtf7 : ByteArray := prog_12_method_10_code
abbrev y_Writer_writeUtf7 : MethodName := ⟨"MailCharacters$Writer", "writeUtf7", "(LMailCharacters$Row;LMailCharacters$Row;)V"⟩
abbrev w_Writer_writeUtf7 : List Cond := Cond.code y_Writer_writeUtf7 b_Writer_writeUtf7 7 none :: gW
abbrev b_Writer_endOfRun : ByteArray := prog_12_method_14_code
abbrev y_Writer_endOfRun : MethodName := ⟨"MailCharacters$Writer", "endOfRun", "(LMailCharacters$Row;I)I"⟩
abbrev w_Writer_endOfRun : List Cond := Cond.code y_Writer_endOfRun b_Writer_endOfRun 3 (some .int) :: gW
abbrev b_Writer_goesInRun : ByteArray := prog_12_method_13_code
abbrev y_Writer_goesInRun : MethodName := ⟨"MailCharacters$Writer", "goesInRun", "(I)Z"⟩
abbrev w_Writer_goesInRun : List Cond := Cond.code y_Writer_goesInRun b_Writer_goesInRun 1 (some .boolean) :: gW
abbrev b_Writer_widthOfRun : ByteArray := prog_12_method_15_code
abbrev y_Writer_widthOfRun : MethodName := ⟨"MailCharacters$Writer", "widthOfRun", "(LMailCharacters$Row;II)I"⟩
abbrev w_Writer_widthOfRun : List Cond := Cond.code y_Writer_widthOfRun b_Writer_widthOfRun 5 (some .int) :: gW
abbrev b_Writer_unitsOf : ByteArray := prog_12_method_5_code
abbrev y_Writer_unitsOf : MethodName := ⟨"MailCharacters$Writer", "unitsOf", "(I)I"⟩
abbrev w_Writer_unitsOf : List Cond := Cond.code y_Writer_unitsOf b_Writer_unitsOf 1 (some .int) :: gW
abbrev b_Writer_directWidthOf : ByteArray := prog_12_method_11_code
abbrev y_Writer_directWidthOf : MethodName := ⟨"MailCharacters$Writer", "directWidthOf", "(I)I"⟩
abbrev w_Writer_directWidthOf : List Cond := Cond.code y_Writer_directWidthOf b_Writer_directWidthOf 1 (some .int) :: gW
abbrev b_Writer_writeRun : ByteArray := prog_12_method_16_code
abbrev y_Writer_writeRun : MethodName := ⟨"MailCharacters$Writer", "writeRun", "(LMailCharacters$Row;IILMailCharacters$Row;)V"⟩
abbrev w_Writer_writeRun : List Cond := Cond.code y_Writer_writeRun b_Writer_writeRun 8 none :: gW
abbrev b_Writer_unitOf : ByteArray := prog_12_method_6_code
abbrev y_Writer_unitOf : MethodName := ⟨"MailCharacters$Writer", "unitOf", "(II)I"⟩
abbrev w_Writer_unitOf : List Cond := Cond.code y_Writer_unitOf b_Writer_unitOf 2 (some .int) :: gW
abbrev b_Writer_putLetters : ByteArray := prog_12_method_17_code
abbrev y_Writer_putLetters : MethodName := ⟨"MailCharacters$Writer", "putLetters", "(LMailCharacters$Row;)V"⟩
abbrev w_Writer_putLetters : List Cond := Cond.code y_Writer_putLetters b_Writer_putLetters 3 none :: gW
abbrev b_Letters_letterOf : ByteArray := prog_4_method_3_code
abbrev y_Letters_letterOf : MethodName := ⟨"MailCharacters$Letters", "letterOf", "(I)I"⟩
abbrev w_Letters_letterOf : List Cond := Cond.code y_Letters_letterOf b_Letters_letterOf 1 (some .int) :: gW
abbrev b_Bits_fillUp : ByteArray := prog_2_method_6_code
abbrev y_Bits_fillUp : MethodName := ⟨"MailCharacters$Bits", "fillUp", "(I)V"⟩
abbrev w_Bits_fillUp : List Cond := Cond.code y_Bits_fillUp b_Bits_fillUp 2 none :: gW
abbrev b_Writer_writeDirectly : ByteArray := prog_12_method_12_code
abbrev y_Writer_writeDirectly : MethodName := ⟨"MailCharacters$Writer", "writeDirectly", "(ILMailCharacters$Row;)V"⟩
abbrev w_Writer_writeDirectly : List Cond := Cond.code y_Writer_writeDirectly b_Writer_writeDirectly 2 none :: gW
abbrev b_Writer_widthOf : ByteArray := prog_12_method_3_code
abbrev y_Writer_widthOf : MethodName := ⟨"MailCharacters$Writer", "widthOf", "(II)I"⟩
abbrev w_Writer_widthOf : List Cond := Cond.code y_Writer_widthOf b_Writer_widthOf 2 (some .int) :: gW
abbrev b_Writer_utf8WidthOf : ByteArray := prog_12_method_4_code
abbrev y_Writer_utf8WidthOf : MethodName := ⟨"MailCharacters$Writer", "utf8WidthOf", "(I)I"⟩
abbrev w_Writer_utf8WidthOf : List Cond := Cond.code y_Writer_utf8WidthOf b_Writer_utf8WidthOf 1 (some .int) :: gW
abbrev b_Writer_writeCharacter : ByteArray := prog_12_method_7_code
abbrev y_Writer_writeCharacter : MethodName := ⟨"MailCharacters$Writer", "writeCharacter", "(IILMailCharacters$Row;)V"⟩
abbrev w_Writer_writeCharacter : List Cond := Cond.code y_Writer_writeCharacter b_Writer_writeCharacter 3 none :: gW
abbrev b_Writer_writeUtf8 : ByteArray := prog_12_method_8_code
abbrev y_Writer_writeUtf8 : MethodName := ⟨"MailCharacters$Writer", "writeUtf8", "(ILMailCharacters$Row;)V"⟩
abbrev w_Writer_writeUtf8 : List Cond := Cond.code y_Writer_writeUtf8 b_Writer_writeUtf8 2 none :: gW
abbrev b_Writer_writeUtf16 : ByteArray := prog_12_method_9_code
abbrev y_Writer_writeUtf16 : MethodName := ⟨"MailCharacters$Writer", "writeUtf16", "(IZLMailCharacters$Row;)V"⟩
abbrev w_Writer_writeUtf16 : List Cond := Cond.code y_Writer_writeUtf16 b_Writer_writeUtf16 7 none :: gW
abbrev b_SingleBytes_byteOf : ByteArray := prog_9_method_3_code
abbrev y_SingleBytes_byteOf : MethodName := ⟨"MailCharacters$SingleBytes", "byteOf", "(II)I"⟩
abbrev w_SingleBytes_byteOf : List Cond := Cond.code y_SingleBytes_byteOf b_SingleBytes_byteOf 2 (some .int) :: gW
abbrev b_SingleBytes_latin9ByteOf : ByteArray := prog_9_method_5_code
abbrev y_SingleBytes_latin9ByteOf : MethodName := ⟨"MailCharacters$SingleBytes", "latin9ByteOf", "(I)I"⟩
abbrev w_SingleBytes_latin9ByteOf : List Cond := Cond.code y_SingleBytes_latin9ByteOf b_SingleBytes_latin9ByteOf 2 (some .int) :: gW
abbrev b_SingleBytes_windowsByteOf : ByteArray := prog_9_method_6_code
abbrev y_SingleBytes_windowsByteOf : MethodName := ⟨"MailCharacters$SingleBytes", "windowsByteOf", "(I)I"⟩
abbrev w_SingleBytes_windowsByteOf : List Cond := Cond.code y_SingleBytes_windowsByteOf b_SingleBytes_windowsByteOf 2 (some .int) :: gW
abbrev b_SingleBytes_placeIn : ByteArray := prog_9_method_10_code
abbrev y_SingleBytes_placeIn : MethodName := ⟨"MailCharacters$SingleBytes", "placeIn", "([II)I"⟩
abbrev w_SingleBytes_placeIn : List Cond := Cond.code y_SingleBytes_placeIn b_SingleBytes_placeIn 3 (some .int) :: gW
abbrev b_SingleBytes_koiByteOf : ByteArray := prog_9_method_8_code
abbrev y_SingleBytes_koiByteOf : MethodName := ⟨"MailCharacters$SingleBytes", "koiByteOf", "(I)I"⟩
abbrev w_SingleBytes_koiByteOf : List Cond := Cond.code y_SingleBytes_koiByteOf b_SingleBytes_koiByteOf 3 (some .int) :: gW
abbrev b_MC_code : ByteArray := prog_1_method_9_code
abbrev y_MC_code : MethodName := ⟨"MailCharacters", "code", "(I)I"⟩
abbrev w_MC_code : List Cond := Cond.code y_MC_code b_MC_code 2 (some .int) :: gW
abbrev b_Coder_codeInto : ByteArray := prog_3_method_2_code
abbrev y_Coder_codeInto : MethodName := ⟨"MailCharacters$Coder", "codeInto", "(LMailCharacters$Row;ILMailCharacters$Row;)V"⟩
abbrev w_Coder_codeInto : List Cond := Cond.code y_Coder_codeInto b_Coder_codeInto 4 none :: gW
abbrev b_Coder_base : ByteArray := prog_3_method_3_code
abbrev y_Coder_base : MethodName := ⟨"MailCharacters$Coder", "base", "(LMailCharacters$Row;LMailCharacters$Row;)V"⟩
abbrev w_Coder_base : List Cond := Cond.code y_Coder_base b_Coder_base 5 none :: gW
abbrev b_Coder_putLetter : ByteArray := prog_3_method_4_code
abbrev y_Coder_putLetter : MethodName := ⟨"MailCharacters$Coder", "putLetter", "(LMailCharacters$Row;)V"⟩
abbrev w_Coder_putLetter : List Cond := Cond.code y_Coder_putLetter b_Coder_putLetter 2 none :: gW
abbrev b_Coder_endLine : ByteArray := prog_3_method_7_code
abbrev y_Coder_endLine : MethodName := ⟨"MailCharacters$Coder", "endLine", "(LMailCharacters$Row;)V"⟩
abbrev w_Coder_endLine : List Cond := Cond.code y_Coder_endLine b_Coder_endLine 2 none :: gW
abbrev b_Coder_quote : ByteArray := prog_3_method_5_code
abbrev y_Coder_quote : MethodName := ⟨"MailCharacters$Coder", "quote", "(LMailCharacters$Row;LMailCharacters$Row;)V"⟩
abbrev w_Coder_quote : List Cond := Cond.code y_Coder_quote b_Coder_quote 4 none :: gW
abbrev b_Coder_isLineEnd : ByteArray := prog_3_method_8_code
abbrev y_Coder_isLineEnd : MethodName := ⟨"MailCharacters$Coder", "isLineEnd", "(LMailCharacters$Row;I)Z"⟩
abbrev w_Coder_isLineEnd : List Cond := Cond.code y_Coder_isLineEnd b_Coder_isLineEnd 2 (some .boolean) :: gW
abbrev b_Coder_isItself : ByteArray := prog_3_method_9_code
abbrev y_Coder_isItself : MethodName := ⟨"MailCharacters$Coder", "isItself", "(LMailCharacters$Row;I)Z"⟩
abbrev w_Coder_isItself : List Cond := Cond.code y_Coder_isItself b_Coder_isItself 3 (some .boolean) :: gW
abbrev b_Coder_quoteByte : ByteArray := prog_3_method_6_code
abbrev y_Coder_quoteByte : MethodName := ⟨"MailCharacters$Coder", "quoteByte", "(IZLMailCharacters$Row;)V"⟩
abbrev w_Coder_quoteByte : List Cond := Cond.code y_Coder_quoteByte b_Coder_quoteByte 5 none :: gW
abbrev b_Letters_digitOf : ByteArray := prog_4_method_5_code
abbrev y_Letters_digitOf : MethodName := ⟨"MailCharacters$Letters", "digitOf", "(I)I"⟩
abbrev w_Letters_digitOf : List Cond := Cond.code y_Letters_digitOf b_Letters_digitOf 1 (some .int) :: gW
end
section
theorem k_0 : Cond.selects "MailCharacters$Word" ⟨"MailCharacters$Word", "takesKind", "(I)Z"⟩ ⟨"MailCharacters$Word", "takesKind", "(I)Z"⟩ ∈ gW := gW_at 0 (by decide +kernel) (by decide +kernel)
theorem k_1 : Cond.selects "MailCharacters" ⟨"MailCharacters", "isBlank", "(II)Z"⟩ ⟨"MailCharacters", "isBlank", "(II)Z"⟩ ∈ gW := gW_at 1 (by decide +kernel) (by decide +kernel)
theorem k_2 : Cond.selects "MailCharacters$Reader" ⟨"MailCharacters$Reader", "readUtf16Marked", "(LMailCharacters$Row;IILMailCharacters$Row;)V"⟩ ⟨"MailCharacters$Reader", "readUtf16Marked", "(LMailCharacters$Row;IILMailCharacters$Row;)V"⟩ ∈ gW := gW_at 2 (by decide +kernel) (by decide +kernel)
theorem k_3 : Cond.selects "MailCharacters$Reader" ⟨"MailCharacters$Reader", "readUtf16", "(LMailCharacters$Row;IIZLMailCharacters$Row;)V"⟩ ⟨"MailCharacters$Reader", "readUtf16", "(LMailCharacters$Row;IIZLMailCharacters$Row;)V"⟩ ∈ gW := gW_at 3 (by decide +kernel) (by decide +kernel)
theorem k_4 : Cond.selects "MailCharacters$Reader" ⟨"MailCharacters$Reader", "takeUnit", "(ILMailCharacters$Row;)V"⟩ ⟨"MailCharacters$Reader", "takeUnit", "(ILMailCharacters$Row;)V"⟩ ∈ gW := gW_at 4 (by decide +kernel) (by decide +kernel)
theorem k_5 : Cond.selects "MailCharacters$Reader" ⟨"MailCharacters$Reader", "endUnits", "(LMailCharacters$Row;)V"⟩ ⟨"MailCharacters$Reader", "endUnits", "(LMailCharacters$Row;)V"⟩ ∈ gW := gW_at 5 (by decide +kernel) (by decide +kernel)
theorem k_6 : Cond.selects "MailCharacters$Reader" ⟨"MailCharacters$Reader", "readUtf7", "(LMailCharacters$Row;IILMailCharacters$Row;)V"⟩ ⟨"MailCharacters$Reader", "readUtf7", "(LMailCharacters$Row;IILMailCharacters$Row;)V"⟩ ∈ gW := gW_at 6 (by decide +kernel) (by decide +kernel)
theorem k_7 : Cond.selects "MailCharacters$Reader" ⟨"MailCharacters$Reader", "takeSixBits", "(ILMailCharacters$Row;)V"⟩ ⟨"MailCharacters$Reader", "takeSixBits", "(ILMailCharacters$Row;)V"⟩ ∈ gW := gW_at 7 (by decide +kernel) (by decide +kernel)
theorem k_8 : Cond.selects "MailCharacters" ⟨"MailCharacters", "readWord", "()V"⟩ ⟨"MailCharacters", "readWord", "()V"⟩ ∈ gW := gW_at 8 (by decide +kernel) (by decide +kernel)
theorem k_9 : Cond.selects "MailCharacters$Uncoder" ⟨"MailCharacters$Uncoder", "unbase", "(LMailCharacters$Row;IILMailCharacters$Row;)V"⟩ ⟨"MailCharacters$Uncoder", "unbase", "(LMailCharacters$Row;IILMailCharacters$Row;)V"⟩ ∈ gW := gW_at 9 (by decide +kernel) (by decide +kernel)
theorem k_11 : Cond.selects "MailCharacters$Uncoder" ⟨"MailCharacters$Uncoder", "unquoteLines", "(LMailCharacters$Row;LMailCharacters$Row;)V"⟩ ⟨"MailCharacters$Uncoder", "unquoteLines", "(LMailCharacters$Row;LMailCharacters$Row;)V"⟩ ∈ gW := gW_at 11 (by decide +kernel) (by decide +kernel)
theorem k_12 : Cond.selects "MailCharacters$Uncoder" ⟨"MailCharacters$Uncoder", "unhexLines", "(LMailCharacters$Row;LMailCharacters$Row;)V"⟩ ⟨"MailCharacters$Uncoder", "unhexLines", "(LMailCharacters$Row;LMailCharacters$Row;)V"⟩ ∈ gW := gW_at 12 (by decide +kernel) (by decide +kernel)
theorem k_13 : Cond.selects "MailCharacters$Uncoder" ⟨"MailCharacters$Uncoder", "endsHex", "(LMailCharacters$Row;)Z"⟩ ⟨"MailCharacters$Uncoder", "endsHex", "(LMailCharacters$Row;)Z"⟩ ∈ gW := gW_at 13 (by decide +kernel) (by decide +kernel)
theorem k_14 : Cond.selects "MailCharacters$Uncoder" ⟨"MailCharacters$Uncoder", "unhexLine", "(LMailCharacters$Row;LMailCharacters$Row;)V"⟩ ⟨"MailCharacters$Uncoder", "unhexLine", "(LMailCharacters$Row;LMailCharacters$Row;)V"⟩ ∈ gW := gW_at 14 (by decide +kernel) (by decide +kernel)
theorem k_15 : Cond.selects "MailCharacters" ⟨"MailCharacters", "swapTapes", "()V"⟩ ⟨"MailCharacters", "swapTapes", "()V"⟩ ∈ gW := gW_at 15 (by decide +kernel) (by decide +kernel)
theorem k_16 : Cond.selects "MailCharacters$Writer" ⟨"MailCharacters$Writer", "writeUtf7", "(LMailCharacters$Row;LMailCharacters$Row;)V"⟩ ⟨"MailCharacters$Writer", "writeUtf7", "(LMailCharacters$Row;LMailCharacters$Row;)V"⟩ ∈ gW := gW_at 16 (by decide +kernel) (by decide +kernel)
theorem k_17 : Cond.selects "MailCharacters$Writer" ⟨"MailCharacters$Writer", "writeRun", "(LMailCharacters$Row;IILMailCharacters$Row;)V"⟩ ⟨"MailCharacters$Writer", "writeRun", "(LMailCharacters$Row;IILMailCharacters$Row;)V"⟩ ∈ gW := gW_at 17 (by decide +kernel) (by decide +kernel)
theorem k_18 : Cond.selects "MailCharacters$Writer" ⟨"MailCharacters$Writer", "putLetters", "(LMailCharacters$Row;)V"⟩ ⟨"MailCharacters$Writer", "putLetters", "(LMailCharacters$Row;)V"⟩ ∈ gW := gW_at 18 (by decide +kernel) (by decide +kernel)
theorem k_19 : Cond.selects "MailCharacters$Coder" ⟨"MailCharacters$Coder", "base", "(LMailCharacters$Row;LMailCharacters$Row;)V"⟩ ⟨"MailCharacters$Coder", "base", "(LMailCharacters$Row;LMailCharacters$Row;)V"⟩ ∈ gW := gW_at 19 (by decide +kernel) (by decide +kernel)
theorem k_20 : Cond.selects "MailCharacters$Coder" ⟨"MailCharacters$Coder", "putLetter", "(LMailCharacters$Row;)V"⟩ ⟨"MailCharacters$Coder", "putLetter", "(LMailCharacters$Row;)V"⟩ ∈ gW := gW_at 20 (by decide +kernel) (by decide +kernel)
theorem k_21 : Cond.selects "MailCharacters$Coder" ⟨"MailCharacters$Coder", "endLine", "(LMailCharacters$Row;)V"⟩ ⟨"MailCharacters$Coder", "endLine", "(LMailCharacters$Row;)V"⟩ ∈ gW := gW_at 21 (by decide +kernel) (by decide +kernel)
theorem k_22 : Cond.selects "MailCharacters$Coder" ⟨"MailCharacters$Coder", "quote", "(LMailCharacters$Row;LMailCharacters$Row;)V"⟩ ⟨"MailCharacters$Coder", "quote", "(LMailCharacters$Row;LMailCharacters$Row;)V"⟩ ∈ gW := gW_at 22 (by decide +kernel) (by decide +kernel)
theorem k_23 : Cond.selects "MailCharacters$Coder" ⟨"MailCharacters$Coder", "quoteByte", "(IZLMailCharacters$Row;)V"⟩ ⟨"MailCharacters$Coder", "quoteByte", "(IZLMailCharacters$Row;)V"⟩ ∈ gW := gW_at 23 (by decide +kernel) (by decide +kernel)
theorem k_67 : Cond.initialized "MailCharacters" ∈ gW := gW_at 67 (by decide +kernel) (by decide +kernel)
theorem k_68 : Cond.initialized "MailCharacters$Row" ∈ gW := gW_at 68 (by decide +kernel) (by decide +kernel)
theorem k_69 : Cond.initialized "java/lang/Math" ∈ gW := gW_at 69 (by decide +kernel) (by decide +kernel)
theorem k_70 : Cond.initialized "MailCharacters$Uncoder" ∈ gW := gW_at 70 (by decide +kernel) (by decide +kernel)
theorem k_71 : Cond.initialized "MailCharacters$Bits" ∈ gW := gW_at 71 (by decide +kernel) (by decide +kernel)
theorem k_72 : Cond.initialized "MailCharacters$Line" ∈ gW := gW_at 72 (by decide +kernel) (by decide +kernel)
theorem k_73 : Cond.initialized "MailCharacters$Coder" ∈ gW := gW_at 73 (by decide +kernel) (by decide +kernel)
theorem k_74 : Cond.initialized "MailCharacters$Reader" ∈ gW := gW_at 74 (by decide +kernel) (by decide +kernel)
theorem k_75 : Cond.initialized "MailCharacters$Writer" ∈ gW := gW_at 75 (by decide +kernel) (by decide +kernel)
theorem k_76 : Cond.initialized "MailCharacters$Word" ∈ gW := gW_at 76 (by decide +kernel) (by decide +kernel)
theorem k_78 : Cond.initialized "MailCharacters$Names" ∈ gW := gW_at 78 (by decide +kernel) (by decide +kernel)
theorem k_79 : Cond.initialized "java/lang/String" ∈ gW := gW_at 79 (by decide +kernel) (by decide +kernel)
theorem k_80 : Cond.initialized "java/lang/StringLatin1" ∈ gW := gW_at 80 (by decide +kernel) (by decide +kernel)
theorem k_81 : Cond.initialized "jdk/internal/util/Preconditions" ∈ gW := gW_at 81 (by decide +kernel) (by decide +kernel)
theorem k_87 : Cond.initialized "MailCharacters$Letters" ∈ gW := gW_at 87 (by decide +kernel) (by decide +kernel)
theorem k_88 : Cond.initialized "MailCharacters$SingleBytes" ∈ gW := gW_at 88 (by decide +kernel) (by decide +kernel)
theorem k_93 : Cond.instanceMethod ⟨"MailCharacters", "<init>", "()V"⟩ ∈ gW := gW_at 93 (by decide +kernel) (by decide +kernel)
theorem k_94 : Cond.code ⟨"MailCharacters", "<init>", "()V"⟩ prog_1_method_1_code 1 none ∈ gW := gW_at 94 (by decide +kernel) (by decide +kernel)
theorem k_95 : Cond.methodLink "MailCharacters" 1 ⟨"java/lang/Object", "<init>", "()V"⟩ ∈ gW := gW_at 95 (by decide +kernel) (by decide +kernel)
theorem k_96 : Cond.instanceMethod ⟨"java/lang/Object", "<init>", "()V"⟩ ∈ gW := gW_at 96 (by decide +kernel) (by decide +kernel)
theorem k_98 : Cond.classLink "MailCharacters" 13 "MailCharacters$Row" ∈ gW := gW_at 98 (by decide +kernel) (by decide +kernel)
theorem k_99 : Cond.instantiable "MailCharacters$Row" 3 ∈ gW := gW_at 99 (by decide +kernel) (by decide +kernel)
theorem k_100 : Cond.methodLink "MailCharacters" 15 ⟨"MailCharacters$Row", "<init>", "(I)V"⟩ ∈ gW := gW_at 100 (by decide +kernel) (by decide +kernel)
theorem k_101 : Cond.instanceMethod ⟨"MailCharacters$Row", "<init>", "(I)V"⟩ ∈ gW := gW_at 101 (by decide +kernel) (by decide +kernel)
theorem k_102 : Cond.code ⟨"MailCharacters$Row", "<init>", "(I)V"⟩ prog_8_method_1_code 2 none ∈ gW := gW_at 102 (by decide +kernel) (by decide +kernel)
theorem k_103 : Cond.methodLink "MailCharacters$Row" 3 ⟨"java/lang/Object", "<init>", "()V"⟩ ∈ gW := gW_at 103 (by decide +kernel) (by decide +kernel)
theorem k_104 : Cond.methodLink "MailCharacters$Row" 9 ⟨"java/lang/Math", "max", "(II)I"⟩ ∈ gW := gW_at 104 (by decide +kernel) (by decide +kernel)
theorem k_105 : Cond.static ⟨"java/lang/Math", "max", "(II)I"⟩ ∈ gW := gW_at 105 (by decide +kernel) (by decide +kernel)
theorem k_107 : Cond.fieldLink "MailCharacters$Row" 15 "MailCharacters$Row" "cells" "[I" ∈ gW := gW_at 107 (by decide +kernel) (by decide +kernel)
theorem k_108 : Cond.fieldLink "MailCharacters$Row" 21 "MailCharacters$Row" "size" "I" ∈ gW := gW_at 108 (by decide +kernel) (by decide +kernel)
theorem k_109 : Cond.fieldLink "MailCharacters$Row" 25 "MailCharacters$Row" "over" "Z" ∈ gW := gW_at 109 (by decide +kernel) (by decide +kernel)
theorem k_119 : Cond.classLink "MailCharacters" 22 "MailCharacters$Uncoder" ∈ gW := gW_at 119 (by decide +kernel) (by decide +kernel)
theorem k_120 : Cond.instantiable "MailCharacters$Uncoder" 2 ∈ gW := gW_at 120 (by decide +kernel) (by decide +kernel)
theorem k_122 : Cond.instanceMethod ⟨"MailCharacters$Uncoder", "<init>", "()V"⟩ ∈ gW := gW_at 122 (by decide +kernel) (by decide +kernel)
theorem k_123 : Cond.code ⟨"MailCharacters$Uncoder", "<init>", "()V"⟩ prog_10_method_1_code 1 none ∈ gW := gW_at 123 (by decide +kernel) (by decide +kernel)
theorem k_124 : Cond.methodLink "MailCharacters$Uncoder" 3 ⟨"java/lang/Object", "<init>", "()V"⟩ ∈ gW := gW_at 124 (by decide +kernel) (by decide +kernel)
theorem k_125 : Cond.classLink "MailCharacters$Uncoder" 9 "MailCharacters$Bits" ∈ gW := gW_at 125 (by decide +kernel) (by decide +kernel)
theorem k_126 : Cond.instantiable "MailCharacters$Bits" 2 ∈ gW := gW_at 126 (by decide +kernel) (by decide +kernel)
theorem k_128 : Cond.instanceMethod ⟨"MailCharacters$Bits", "<init>", "()V"⟩ ∈ gW := gW_at 128 (by decide +kernel) (by decide +kernel)
theorem k_129 : Cond.code ⟨"MailCharacters$Bits", "<init>", "()V"⟩ prog_2_method_1_code 1 none ∈ gW := gW_at 129 (by decide +kernel) (by decide +kernel)
theorem k_130 : Cond.methodLink "MailCharacters$Bits" 1 ⟨"java/lang/Object", "<init>", "()V"⟩ ∈ gW := gW_at 130 (by decide +kernel) (by decide +kernel)
theorem k_131 : Cond.fieldLink "MailCharacters$Bits" 7 "MailCharacters$Bits" "value" "I" ∈ gW := gW_at 131 (by decide +kernel) (by decide +kernel)
theorem k_132 : Cond.fieldLink "MailCharacters$Bits" 13 "MailCharacters$Bits" "held" "I" ∈ gW := gW_at 132 (by decide +kernel) (by decide +kernel)
theorem k_138 : Cond.classLink "MailCharacters$Uncoder" 18 "MailCharacters$Line" ∈ gW := gW_at 138 (by decide +kernel) (by decide +kernel)
theorem k_139 : Cond.instantiable "MailCharacters$Line" 4 ∈ gW := gW_at 139 (by decide +kernel) (by decide +kernel)
theorem k_141 : Cond.instanceMethod ⟨"MailCharacters$Line", "<init>", "()V"⟩ ∈ gW := gW_at 141 (by decide +kernel) (by decide +kernel)
theorem k_142 : Cond.code ⟨"MailCharacters$Line", "<init>", "()V"⟩ prog_5_method_1_code 1 none ∈ gW := gW_at 142 (by decide +kernel) (by decide +kernel)
theorem k_143 : Cond.methodLink "MailCharacters$Line" 3 ⟨"java/lang/Object", "<init>", "()V"⟩ ∈ gW := gW_at 143 (by decide +kernel) (by decide +kernel)
theorem k_144 : Cond.fieldLink "MailCharacters$Line" 21 "MailCharacters$Line" "from" "I" ∈ gW := gW_at 144 (by decide +kernel) (by decide +kernel)
theorem k_146 : Cond.fieldLink "MailCharacters$Line" 24 "MailCharacters$Line" "to" "I" ∈ gW := gW_at 146 (by decide +kernel) (by decide +kernel)
theorem k_148 : Cond.fieldLink "MailCharacters$Line" 31 "MailCharacters$Line" "ended" "Z" ∈ gW := gW_at 148 (by decide +kernel) (by decide +kernel)
theorem k_150 : Cond.fieldLink "MailCharacters$Line" 9 "MailCharacters$Line" "next" "I" ∈ gW := gW_at 150 (by decide +kernel) (by decide +kernel)
theorem k_160 : Cond.fieldLink "MailCharacters$Uncoder" 12 "MailCharacters$Uncoder" "bits" "LMailCharacters$Bits;" ∈ gW := gW_at 160 (by decide +kernel) (by decide +kernel)
theorem k_161 : Cond.fieldLink "MailCharacters$Uncoder" 21 "MailCharacters$Uncoder" "line" "LMailCharacters$Line;" ∈ gW := gW_at 161 (by decide +kernel) (by decide +kernel)
theorem k_167 : Cond.classLink "MailCharacters" 29 "MailCharacters$Coder" ∈ gW := gW_at 167 (by decide +kernel) (by decide +kernel)
theorem k_168 : Cond.instantiable "MailCharacters$Coder" 2 ∈ gW := gW_at 168 (by decide +kernel) (by decide +kernel)
theorem k_170 : Cond.instanceMethod ⟨"MailCharacters$Coder", "<init>", "()V"⟩ ∈ gW := gW_at 170 (by decide +kernel) (by decide +kernel)
theorem k_171 : Cond.code ⟨"MailCharacters$Coder", "<init>", "()V"⟩ prog_3_method_1_code 1 none ∈ gW := gW_at 171 (by decide +kernel) (by decide +kernel)
theorem k_172 : Cond.methodLink "MailCharacters$Coder" 3 ⟨"java/lang/Object", "<init>", "()V"⟩ ∈ gW := gW_at 172 (by decide +kernel) (by decide +kernel)
theorem k_173 : Cond.classLink "MailCharacters$Coder" 9 "MailCharacters$Bits" ∈ gW := gW_at 173 (by decide +kernel) (by decide +kernel)
theorem k_175 : Cond.fieldLink "MailCharacters$Coder" 12 "MailCharacters$Coder" "bits" "LMailCharacters$Bits;" ∈ gW := gW_at 175 (by decide +kernel) (by decide +kernel)
theorem k_176 : Cond.fieldLink "MailCharacters$Coder" 18 "MailCharacters$Coder" "inLine" "I" ∈ gW := gW_at 176 (by decide +kernel) (by decide +kernel)
theorem k_182 : Cond.classLink "MailCharacters" 36 "MailCharacters$Reader" ∈ gW := gW_at 182 (by decide +kernel) (by decide +kernel)
theorem k_183 : Cond.instantiable "MailCharacters$Reader" 2 ∈ gW := gW_at 183 (by decide +kernel) (by decide +kernel)
theorem k_185 : Cond.instanceMethod ⟨"MailCharacters$Reader", "<init>", "()V"⟩ ∈ gW := gW_at 185 (by decide +kernel) (by decide +kernel)
theorem k_186 : Cond.code ⟨"MailCharacters$Reader", "<init>", "()V"⟩ prog_7_method_1_code 1 none ∈ gW := gW_at 186 (by decide +kernel) (by decide +kernel)
theorem k_187 : Cond.methodLink "MailCharacters$Reader" 3 ⟨"java/lang/Object", "<init>", "()V"⟩ ∈ gW := gW_at 187 (by decide +kernel) (by decide +kernel)
theorem k_188 : Cond.classLink "MailCharacters$Reader" 9 "MailCharacters$Bits" ∈ gW := gW_at 188 (by decide +kernel) (by decide +kernel)
theorem k_190 : Cond.fieldLink "MailCharacters$Reader" 12 "MailCharacters$Reader" "bits" "LMailCharacters$Bits;" ∈ gW := gW_at 190 (by decide +kernel) (by decide +kernel)
theorem k_191 : Cond.fieldLink "MailCharacters$Reader" 94 "MailCharacters$Reader" "firstHalf" "I" ∈ gW := gW_at 191 (by decide +kernel) (by decide +kernel)
theorem k_197 : Cond.classLink "MailCharacters" 43 "MailCharacters$Writer" ∈ gW := gW_at 197 (by decide +kernel) (by decide +kernel)
theorem k_198 : Cond.instantiable "MailCharacters$Writer" 1 ∈ gW := gW_at 198 (by decide +kernel) (by decide +kernel)
theorem k_200 : Cond.instanceMethod ⟨"MailCharacters$Writer", "<init>", "()V"⟩ ∈ gW := gW_at 200 (by decide +kernel) (by decide +kernel)
theorem k_201 : Cond.code ⟨"MailCharacters$Writer", "<init>", "()V"⟩ prog_12_method_1_code 1 none ∈ gW := gW_at 201 (by decide +kernel) (by decide +kernel)
theorem k_202 : Cond.methodLink "MailCharacters$Writer" 3 ⟨"java/lang/Object", "<init>", "()V"⟩ ∈ gW := gW_at 202 (by decide +kernel) (by decide +kernel)
theorem k_203 : Cond.classLink "MailCharacters$Writer" 9 "MailCharacters$Bits" ∈ gW := gW_at 203 (by decide +kernel) (by decide +kernel)
theorem k_205 : Cond.fieldLink "MailCharacters$Writer" 12 "MailCharacters$Writer" "bits" "LMailCharacters$Bits;" ∈ gW := gW_at 205 (by decide +kernel) (by decide +kernel)
theorem k_209 : Cond.classLink "MailCharacters" 50 "MailCharacters$Word" ∈ gW := gW_at 209 (by decide +kernel) (by decide +kernel)
theorem k_210 : Cond.instantiable "MailCharacters$Word" 5 ∈ gW := gW_at 210 (by decide +kernel) (by decide +kernel)
theorem k_212 : Cond.instanceMethod ⟨"MailCharacters$Word", "<init>", "()V"⟩ ∈ gW := gW_at 212 (by decide +kernel) (by decide +kernel)
theorem k_213 : Cond.code ⟨"MailCharacters$Word", "<init>", "()V"⟩ prog_11_method_1_code 1 none ∈ gW := gW_at 213 (by decide +kernel) (by decide +kernel)
theorem k_214 : Cond.methodLink "MailCharacters$Word" 3 ⟨"java/lang/Object", "<init>", "()V"⟩ ∈ gW := gW_at 214 (by decide +kernel) (by decide +kernel)
theorem k_215 : Cond.fieldLink "MailCharacters$Word" 47 "MailCharacters$Word" "charset" "I" ∈ gW := gW_at 215 (by decide +kernel) (by decide +kernel)
theorem k_218 : Cond.fieldLink "MailCharacters$Word" 50 "MailCharacters$Word" "based" "Z" ∈ gW := gW_at 218 (by decide +kernel) (by decide +kernel)
theorem k_219 : Cond.fieldLink "MailCharacters$Word" 25 "MailCharacters$Word" "from" "I" ∈ gW := gW_at 219 (by decide +kernel) (by decide +kernel)
theorem k_221 : Cond.fieldLink "MailCharacters$Word" 32 "MailCharacters$Word" "to" "I" ∈ gW := gW_at 221 (by decide +kernel) (by decide +kernel)
theorem k_223 : Cond.fieldLink "MailCharacters$Word" 35 "MailCharacters$Word" "next" "I" ∈ gW := gW_at 223 (by decide +kernel) (by decide +kernel)
theorem k_236 : Cond.fieldLink "MailCharacters" 9 "MailCharacters" "ready" "[I" ∈ gW := gW_at 236 (by decide +kernel) (by decide +kernel)
theorem k_237 : Cond.fieldLink "MailCharacters" 18 "MailCharacters" "text" "LMailCharacters$Row;" ∈ gW := gW_at 237 (by decide +kernel) (by decide +kernel)
theorem k_238 : Cond.fieldLink "MailCharacters" 25 "MailCharacters" "uncoder" "LMailCharacters$Uncoder;" ∈ gW := gW_at 238 (by decide +kernel) (by decide +kernel)
theorem k_239 : Cond.fieldLink "MailCharacters" 32 "MailCharacters" "coder" "LMailCharacters$Coder;" ∈ gW := gW_at 239 (by decide +kernel) (by decide +kernel)
theorem k_240 : Cond.fieldLink "MailCharacters" 39 "MailCharacters" "reader" "LMailCharacters$Reader;" ∈ gW := gW_at 240 (by decide +kernel) (by decide +kernel)
theorem k_241 : Cond.fieldLink "MailCharacters" 46 "MailCharacters" "writer" "LMailCharacters$Writer;" ∈ gW := gW_at 241 (by decide +kernel) (by decide +kernel)
theorem k_242 : Cond.fieldLink "MailCharacters" 53 "MailCharacters" "word" "LMailCharacters$Word;" ∈ gW := gW_at 242 (by decide +kernel) (by decide +kernel)
theorem k_243 : Cond.fieldLink "MailCharacters" 57 "MailCharacters" "tape" "LMailCharacters$Row;" ∈ gW := gW_at 243 (by decide +kernel) (by decide +kernel)
theorem k_244 : Cond.fieldLink "MailCharacters" 60 "MailCharacters" "spare" "LMailCharacters$Row;" ∈ gW := gW_at 244 (by decide +kernel) (by decide +kernel)
theorem k_265 : Cond.instanceMethod ⟨"MailCharacters", "feed", "(IIIII)V"⟩ ∈ gW := gW_at 265 (by decide +kernel) (by decide +kernel)
theorem k_266 : Cond.selects "MailCharacters" ⟨"MailCharacters", "feed", "(IIIII)V"⟩ ⟨"MailCharacters", "feed", "(IIIII)V"⟩ ∈ gW := gW_at 266 (by decide +kernel) (by decide +kernel)
theorem k_267 : Cond.code ⟨"MailCharacters", "feed", "(IIIII)V"⟩ prog_1_method_2_code 6 none ∈ gW := gW_at 267 (by decide +kernel) (by decide +kernel)
theorem k_269 : Cond.instanceMethod ⟨"MailCharacters", "end", "(I)I"⟩ ∈ gW := gW_at 269 (by decide +kernel) (by decide +kernel)
theorem k_270 : Cond.selects "MailCharacters" ⟨"MailCharacters", "end", "(I)I"⟩ ⟨"MailCharacters", "end", "(I)I"⟩ ∈ gW := gW_at 270 (by decide +kernel) (by decide +kernel)
theorem k_271 : Cond.code ⟨"MailCharacters", "end", "(I)I"⟩ prog_1_method_3_code 3 (some FieldType.int) ∈ gW := gW_at 271 (by decide +kernel) (by decide +kernel)
theorem k_272 : Cond.methodLink "MailCharacters" 63 ⟨"MailCharacters$Row", "room", "()I"⟩ ∈ gW := gW_at 272 (by decide +kernel) (by decide +kernel)
theorem k_273 : Cond.instanceMethod ⟨"MailCharacters$Row", "room", "()I"⟩ ∈ gW := gW_at 273 (by decide +kernel) (by decide +kernel)
theorem k_274 : Cond.selects "MailCharacters$Row" ⟨"MailCharacters$Row", "room", "()I"⟩ ⟨"MailCharacters$Row", "room", "()I"⟩ ∈ gW := gW_at 274 (by decide +kernel) (by decide +kernel)
theorem k_275 : Cond.code ⟨"MailCharacters$Row", "room", "()I"⟩ prog_8_method_6_code 1 (some FieldType.int) ∈ gW := gW_at 275 (by decide +kernel) (by decide +kernel)
theorem k_276 : Cond.methodLink "MailCharacters" 67 ⟨"MailCharacters$Row", "put", "(I)V"⟩ ∈ gW := gW_at 276 (by decide +kernel) (by decide +kernel)
theorem k_277 : Cond.instanceMethod ⟨"MailCharacters$Row", "put", "(I)V"⟩ ∈ gW := gW_at 277 (by decide +kernel) (by decide +kernel)
theorem k_278 : Cond.selects "MailCharacters$Row" ⟨"MailCharacters$Row", "put", "(I)V"⟩ ⟨"MailCharacters$Row", "put", "(I)V"⟩ ∈ gW := gW_at 278 (by decide +kernel) (by decide +kernel)
theorem k_279 : Cond.code ⟨"MailCharacters$Row", "put", "(I)V"⟩ prog_8_method_3_code 2 none ∈ gW := gW_at 279 (by decide +kernel) (by decide +kernel)
theorem k_280 : Cond.methodLink "MailCharacters" 70 ⟨"MailCharacters", "feed", "(IIIII)V"⟩ ∈ gW := gW_at 280 (by decide +kernel) (by decide +kernel)
theorem k_281 : Cond.methodLink "MailCharacters" 74 ⟨"MailCharacters$Row", "size", "()I"⟩ ∈ gW := gW_at 281 (by decide +kernel) (by decide +kernel)
theorem k_282 : Cond.instanceMethod ⟨"MailCharacters$Row", "size", "()I"⟩ ∈ gW := gW_at 282 (by decide +kernel) (by decide +kernel)
theorem k_283 : Cond.selects "MailCharacters$Row" ⟨"MailCharacters$Row", "size", "()I"⟩ ⟨"MailCharacters$Row", "size", "()I"⟩ ∈ gW := gW_at 283 (by decide +kernel) (by decide +kernel)
theorem k_284 : Cond.code ⟨"MailCharacters$Row", "size", "()I"⟩ prog_8_method_5_code 1 (some FieldType.int) ∈ gW := gW_at 284 (by decide +kernel) (by decide +kernel)
theorem k_286 : Cond.instanceMethod ⟨"MailCharacters", "charset", "()I"⟩ ∈ gW := gW_at 286 (by decide +kernel) (by decide +kernel)
theorem k_287 : Cond.selects "MailCharacters" ⟨"MailCharacters", "charset", "()I"⟩ ⟨"MailCharacters", "charset", "()I"⟩ ∈ gW := gW_at 287 (by decide +kernel) (by decide +kernel)
theorem k_288 : Cond.code ⟨"MailCharacters", "charset", "()I"⟩ prog_1_method_4_code 2 (some FieldType.int) ∈ gW := gW_at 288 (by decide +kernel) (by decide +kernel)
theorem k_289 : Cond.methodLink "MailCharacters" 77 ⟨"MailCharacters$Names", "charsetOf", "(LMailCharacters$Row;II)I"⟩ ∈ gW := gW_at 289 (by decide +kernel) (by decide +kernel)
theorem k_290 : Cond.static ⟨"MailCharacters$Names", "charsetOf", "(LMailCharacters$Row;II)I"⟩ ∈ gW := gW_at 290 (by decide +kernel) (by decide +kernel)
theorem k_291 : Cond.code ⟨"MailCharacters$Names", "charsetOf", "(LMailCharacters$Row;II)I"⟩ prog_6_method_2_code 4 (some FieldType.int) ∈ gW := gW_at 291 (by decide +kernel) (by decide +kernel)
theorem k_292 : Cond.methodLink "MailCharacters$Names" 9 ⟨"MailCharacters$Names", "namesOf", "(I)Ljava/lang/String;"⟩ ∈ gW := gW_at 292 (by decide +kernel) (by decide +kernel)
theorem k_293 : Cond.static ⟨"MailCharacters$Names", "namesOf", "(I)Ljava/lang/String;"⟩ ∈ gW := gW_at 293 (by decide +kernel) (by decide +kernel)
theorem k_294 : Cond.code ⟨"MailCharacters$Names", "namesOf", "(I)Ljava/lang/String;"⟩ prog_6_method_3_code 1 (some (FieldType.object "java/lang/String")) ∈ gW := gW_at 294 (by decide +kernel) (by decide +kernel)
theorem k_306 : Cond.methodLink "MailCharacters$Names" 15 ⟨"MailCharacters$Names", "isOneOf", "(LMailCharacters$Row;IILjava/lang/String;)Z"⟩ ∈ gW := gW_at 306 (by decide +kernel) (by decide +kernel)
theorem k_307 : Cond.static ⟨"MailCharacters$Names", "isOneOf", "(LMailCharacters$Row;IILjava/lang/String;)Z"⟩ ∈ gW := gW_at 307 (by decide +kernel) (by decide +kernel)
theorem k_308 : Cond.code ⟨"MailCharacters$Names", "isOneOf", "(LMailCharacters$Row;IILjava/lang/String;)Z"⟩ prog_6_method_4_code 6 (some FieldType.boolean) ∈ gW := gW_at 308 (by decide +kernel) (by decide +kernel)
theorem k_309 : Cond.methodLink "MailCharacters$Names" 41 ⟨"java/lang/String", "length", "()I"⟩ ∈ gW := gW_at 309 (by decide +kernel) (by decide +kernel)
theorem k_310 : Cond.instanceMethod ⟨"java/lang/String", "length", "()I"⟩ ∈ gW := gW_at 310 (by decide +kernel) (by decide +kernel)
theorem k_311 : Cond.selects "java/lang/String" ⟨"java/lang/String", "length", "()I"⟩ ⟨"java/lang/String", "length", "()I"⟩ ∈ gW := gW_at 311 (by decide +kernel) (by decide +kernel)
theorem k_312 : Cond.code ⟨"java/lang/String", "length", "()I"⟩ prog_20_method_54_code 1 (some FieldType.int) ∈ gW := gW_at 312 (by decide +kernel) (by decide +kernel)
theorem k_313 : Cond.methodLink "java/lang/String" 335 ⟨"java/lang/String", "coder", "()B"⟩ ∈ gW := gW_at 313 (by decide +kernel) (by decide +kernel)
theorem k_314 : Cond.instanceMethod ⟨"java/lang/String", "coder", "()B"⟩ ∈ gW := gW_at 314 (by decide +kernel) (by decide +kernel)
theorem k_315 : Cond.selects "java/lang/String" ⟨"java/lang/String", "coder", "()B"⟩ ⟨"java/lang/String", "coder", "()B"⟩ ∈ gW := gW_at 315 (by decide +kernel) (by decide +kernel)
theorem k_316 : Cond.code ⟨"java/lang/String", "coder", "()B"⟩ prog_20_method_152_code 1 (some FieldType.byte) ∈ gW := gW_at 316 (by decide +kernel) (by decide +kernel)
theorem k_317 : Cond.fieldLink "java/lang/String" 38 "java/lang/String" "COMPACT_STRINGS" "Z" ∈ gW := gW_at 317 (by decide +kernel) (by decide +kernel)
theorem k_319 : Cond.methodLink "MailCharacters$Names" 47 ⟨"java/lang/String", "charAt", "(I)C"⟩ ∈ gW := gW_at 319 (by decide +kernel) (by decide +kernel)
theorem k_320 : Cond.instanceMethod ⟨"java/lang/String", "charAt", "(I)C"⟩ ∈ gW := gW_at 320 (by decide +kernel) (by decide +kernel)
theorem k_321 : Cond.selects "java/lang/String" ⟨"java/lang/String", "charAt", "(I)C"⟩ ⟨"java/lang/String", "charAt", "(I)C"⟩ ∈ gW := gW_at 321 (by decide +kernel) (by decide +kernel)
theorem k_322 : Cond.code ⟨"java/lang/String", "charAt", "(I)C"⟩ prog_20_method_56_code 2 (some FieldType.char) ∈ gW := gW_at 322 (by decide +kernel) (by decide +kernel)
theorem k_323 : Cond.methodLink "java/lang/String" 492 ⟨"java/lang/String", "isLatin1", "()Z"⟩ ∈ gW := gW_at 323 (by decide +kernel) (by decide +kernel)
theorem k_324 : Cond.instanceMethod ⟨"java/lang/String", "isLatin1", "()Z"⟩ ∈ gW := gW_at 324 (by decide +kernel) (by decide +kernel)
theorem k_325 : Cond.selects "java/lang/String" ⟨"java/lang/String", "isLatin1", "()Z"⟩ ⟨"java/lang/String", "isLatin1", "()Z"⟩ ∈ gW := gW_at 325 (by decide +kernel) (by decide +kernel)
theorem k_326 : Cond.code ⟨"java/lang/String", "isLatin1", "()Z"⟩ prog_20_method_154_code 1 (some FieldType.boolean) ∈ gW := gW_at 326 (by decide +kernel) (by decide +kernel)
theorem k_327 : Cond.methodLink "java/lang/String" 495 ⟨"java/lang/StringLatin1", "charAt", "([BI)C"⟩ ∈ gW := gW_at 327 (by decide +kernel) (by decide +kernel)
theorem k_328 : Cond.static ⟨"java/lang/StringLatin1", "charAt", "([BI)C"⟩ ∈ gW := gW_at 328 (by decide +kernel) (by decide +kernel)
theorem k_329 : Cond.code ⟨"java/lang/StringLatin1", "charAt", "([BI)C"⟩ prog_21_method_2_code 2 (some FieldType.char) ∈ gW := gW_at 329 (by decide +kernel) (by decide +kernel)
theorem k_330 : Cond.methodLink "java/lang/StringLatin1" 9 ⟨"java/lang/String", "checkIndex", "(II)V"⟩ ∈ gW := gW_at 330 (by decide +kernel) (by decide +kernel)
theorem k_331 : Cond.static ⟨"java/lang/String", "checkIndex", "(II)V"⟩ ∈ gW := gW_at 331 (by decide +kernel) (by decide +kernel)
theorem k_332 : Cond.code ⟨"java/lang/String", "checkIndex", "(II)V"⟩ prog_20_method_155_code 2 none ∈ gW := gW_at 332 (by decide +kernel) (by decide +kernel)
theorem k_333 : Cond.fieldLink "java/lang/String" 1053 "jdk/internal/util/Preconditions" "SIOOBE_FORMATTER" "Ljava/util/function/BiFunction;" ∈ gW := gW_at 333 (by decide +kernel) (by decide +kernel)
theorem k_335 : Cond.methodLink "java/lang/String" 1059 ⟨"jdk/internal/util/Preconditions", "checkIndex", "(IILjava/util/function/BiFunction;)I"⟩ ∈ gW := gW_at 335 (by decide +kernel) (by decide +kernel)
theorem k_336 : Cond.static ⟨"jdk/internal/util/Preconditions", "checkIndex", "(IILjava/util/function/BiFunction;)I"⟩ ∈ gW := gW_at 336 (by decide +kernel) (by decide +kernel)
theorem k_337 : Cond.code ⟨"jdk/internal/util/Preconditions", "checkIndex", "(IILjava/util/function/BiFunction;)I"⟩ prog_24_method_11_code 3 (some FieldType.int) ∈ gW := gW_at 337 (by decide +kernel) (by decide +kernel)
theorem k_357 : Cond.methodLink "MailCharacters$Names" 51 ⟨"MailCharacters$Names", "goesOnAs", "(LMailCharacters$Row;ILjava/lang/String;II)Z"⟩ ∈ gW := gW_at 357 (by decide +kernel) (by decide +kernel)
theorem k_358 : Cond.static ⟨"MailCharacters$Names", "goesOnAs", "(LMailCharacters$Row;ILjava/lang/String;II)Z"⟩ ∈ gW := gW_at 358 (by decide +kernel) (by decide +kernel)
theorem k_359 : Cond.code ⟨"MailCharacters$Names", "goesOnAs", "(LMailCharacters$Row;ILjava/lang/String;II)Z"⟩ prog_6_method_5_code 6 (some FieldType.boolean) ∈ gW := gW_at 359 (by decide +kernel) (by decide +kernel)
theorem k_360 : Cond.methodLink "MailCharacters$Names" 55 ⟨"MailCharacters$Row", "get", "(I)I"⟩ ∈ gW := gW_at 360 (by decide +kernel) (by decide +kernel)
theorem k_361 : Cond.instanceMethod ⟨"MailCharacters$Row", "get", "(I)I"⟩ ∈ gW := gW_at 361 (by decide +kernel) (by decide +kernel)
theorem k_362 : Cond.selects "MailCharacters$Row" ⟨"MailCharacters$Row", "get", "(I)I"⟩ ⟨"MailCharacters$Row", "get", "(I)I"⟩ ∈ gW := gW_at 362 (by decide +kernel) (by decide +kernel)
theorem k_363 : Cond.code ⟨"MailCharacters$Row", "get", "(I)I"⟩ prog_8_method_4_code 2 (some FieldType.int) ∈ gW := gW_at 363 (by decide +kernel) (by decide +kernel)
theorem k_364 : Cond.methodLink "MailCharacters$Names" 61 ⟨"MailCharacters$Names", "small", "(I)I"⟩ ∈ gW := gW_at 364 (by decide +kernel) (by decide +kernel)
theorem k_365 : Cond.static ⟨"MailCharacters$Names", "small", "(I)I"⟩ ∈ gW := gW_at 365 (by decide +kernel) (by decide +kernel)
theorem k_366 : Cond.code ⟨"MailCharacters$Names", "small", "(I)I"⟩ prog_6_method_6_code 1 (some FieldType.int) ∈ gW := gW_at 366 (by decide +kernel) (by decide +kernel)
theorem k_367 : Cond.methodLink "MailCharacters" 83 ⟨"MailCharacters$Row", "empty", "()V"⟩ ∈ gW := gW_at 367 (by decide +kernel) (by decide +kernel)
theorem k_368 : Cond.instanceMethod ⟨"MailCharacters$Row", "empty", "()V"⟩ ∈ gW := gW_at 368 (by decide +kernel) (by decide +kernel)
theorem k_369 : Cond.selects "MailCharacters$Row" ⟨"MailCharacters$Row", "empty", "()V"⟩ ⟨"MailCharacters$Row", "empty", "()V"⟩ ∈ gW := gW_at 369 (by decide +kernel) (by decide +kernel)
theorem k_370 : Cond.code ⟨"MailCharacters$Row", "empty", "()V"⟩ prog_8_method_2_code 1 none ∈ gW := gW_at 370 (by decide +kernel) (by decide +kernel)
theorem k_373 : Cond.instanceMethod ⟨"MailCharacters", "words", "()I"⟩ ∈ gW := gW_at 373 (by decide +kernel) (by decide +kernel)
theorem k_374 : Cond.selects "MailCharacters" ⟨"MailCharacters", "words", "()I"⟩ ⟨"MailCharacters", "words", "()I"⟩ ∈ gW := gW_at 374 (by decide +kernel) (by decide +kernel)
theorem k_375 : Cond.code ⟨"MailCharacters", "words", "()I"⟩ prog_1_method_7_code 5 (some FieldType.int) ∈ gW := gW_at 375 (by decide +kernel) (by decide +kernel)
theorem k_376 : Cond.methodLink "MailCharacters" 110 ⟨"MailCharacters$Word", "standsAt", "(LMailCharacters$Row;I)Z"⟩ ∈ gW := gW_at 376 (by decide +kernel) (by decide +kernel)
theorem k_377 : Cond.instanceMethod ⟨"MailCharacters$Word", "standsAt", "(LMailCharacters$Row;I)Z"⟩ ∈ gW := gW_at 377 (by decide +kernel) (by decide +kernel)
theorem k_378 : Cond.selects "MailCharacters$Word" ⟨"MailCharacters$Word", "standsAt", "(LMailCharacters$Row;I)Z"⟩ ⟨"MailCharacters$Word", "standsAt", "(LMailCharacters$Row;I)Z"⟩ ∈ gW := gW_at 378 (by decide +kernel) (by decide +kernel)
theorem k_379 : Cond.code ⟨"MailCharacters$Word", "standsAt", "(LMailCharacters$Row;I)Z"⟩ prog_11_method_2_code 4 (some FieldType.boolean) ∈ gW := gW_at 379 (by decide +kernel) (by decide +kernel)
theorem k_380 : Cond.methodLink "MailCharacters$Word" 9 ⟨"MailCharacters$Row", "get", "(I)I"⟩ ∈ gW := gW_at 380 (by decide +kernel) (by decide +kernel)
theorem k_381 : Cond.methodLink "MailCharacters$Word" 15 ⟨"MailCharacters$Word", "endOfName", "(LMailCharacters$Row;I)I"⟩ ∈ gW := gW_at 381 (by decide +kernel) (by decide +kernel)
theorem k_382 : Cond.static ⟨"MailCharacters$Word", "endOfName", "(LMailCharacters$Row;I)I"⟩ ∈ gW := gW_at 382 (by decide +kernel) (by decide +kernel)
theorem k_383 : Cond.code ⟨"MailCharacters$Word", "endOfName", "(LMailCharacters$Row;I)I"⟩ prog_11_method_4_code 3 (some FieldType.int) ∈ gW := gW_at 383 (by decide +kernel) (by decide +kernel)
theorem k_384 : Cond.methodLink "MailCharacters$Word" 54 ⟨"MailCharacters$Row", "size", "()I"⟩ ∈ gW := gW_at 384 (by decide +kernel) (by decide +kernel)
theorem k_385 : Cond.methodLink "MailCharacters$Word" 21 ⟨"MailCharacters$Word", "takesKind", "(I)Z"⟩ ∈ gW := gW_at 385 (by decide +kernel) (by decide +kernel)
theorem k_387 : Cond.instanceMethod ⟨"MailCharacters$Word", "takesKind", "(I)Z"⟩ ∈ gW := gW_at 387 (by decide +kernel) (by decide +kernel)
theorem k_388 : Cond.code ⟨"MailCharacters$Word", "takesKind", "(I)Z"⟩ prog_11_method_3_code 2 (some FieldType.boolean) ∈ gW := gW_at 388 (by decide +kernel) (by decide +kernel)
theorem k_389 : Cond.methodLink "MailCharacters$Word" 29 ⟨"MailCharacters$Word", "endOfBytes", "(LMailCharacters$Row;I)I"⟩ ∈ gW := gW_at 389 (by decide +kernel) (by decide +kernel)
theorem k_390 : Cond.static ⟨"MailCharacters$Word", "endOfBytes", "(LMailCharacters$Row;I)I"⟩ ∈ gW := gW_at 390 (by decide +kernel) (by decide +kernel)
theorem k_391 : Cond.code ⟨"MailCharacters$Word", "endOfBytes", "(LMailCharacters$Row;I)I"⟩ prog_11_method_6_code 4 (some FieldType.int) ∈ gW := gW_at 391 (by decide +kernel) (by decide +kernel)
theorem k_392 : Cond.methodLink "MailCharacters$Word" 38 ⟨"MailCharacters$Word", "starOrEnd", "(LMailCharacters$Row;II)I"⟩ ∈ gW := gW_at 392 (by decide +kernel) (by decide +kernel)
theorem k_393 : Cond.static ⟨"MailCharacters$Word", "starOrEnd", "(LMailCharacters$Row;II)I"⟩ ∈ gW := gW_at 393 (by decide +kernel) (by decide +kernel)
theorem k_394 : Cond.code ⟨"MailCharacters$Word", "starOrEnd", "(LMailCharacters$Row;II)I"⟩ prog_11_method_5_code 4 (some FieldType.int) ∈ gW := gW_at 394 (by decide +kernel) (by decide +kernel)
theorem k_395 : Cond.methodLink "MailCharacters$Word" 42 ⟨"MailCharacters$Names", "charsetOf", "(LMailCharacters$Row;II)I"⟩ ∈ gW := gW_at 395 (by decide +kernel) (by decide +kernel)
theorem k_396 : Cond.methodLink "MailCharacters" 114 ⟨"MailCharacters", "isBlank", "(II)Z"⟩ ∈ gW := gW_at 396 (by decide +kernel) (by decide +kernel)
theorem k_398 : Cond.instanceMethod ⟨"MailCharacters", "isBlank", "(II)Z"⟩ ∈ gW := gW_at 398 (by decide +kernel) (by decide +kernel)
theorem k_399 : Cond.code ⟨"MailCharacters", "isBlank", "(II)Z"⟩ prog_1_method_15_code 5 (some FieldType.boolean) ∈ gW := gW_at 399 (by decide +kernel) (by decide +kernel)
theorem k_400 : Cond.methodLink "MailCharacters" 142 ⟨"MailCharacters$Row", "get", "(I)I"⟩ ∈ gW := gW_at 400 (by decide +kernel) (by decide +kernel)
theorem k_401 : Cond.methodLink "MailCharacters" 106 ⟨"MailCharacters$Reader", "readInto", "(LMailCharacters$Row;IIILMailCharacters$Row;)V"⟩ ∈ gW := gW_at 401 (by decide +kernel) (by decide +kernel)
theorem k_402 : Cond.instanceMethod ⟨"MailCharacters$Reader", "readInto", "(LMailCharacters$Row;IIILMailCharacters$Row;)V"⟩ ∈ gW := gW_at 402 (by decide +kernel) (by decide +kernel)
theorem k_403 : Cond.selects "MailCharacters$Reader" ⟨"MailCharacters$Reader", "readInto", "(LMailCharacters$Row;IIILMailCharacters$Row;)V"⟩ ⟨"MailCharacters$Reader", "readInto", "(LMailCharacters$Row;IIILMailCharacters$Row;)V"⟩ ∈ gW := gW_at 403 (by decide +kernel) (by decide +kernel)
theorem k_404 : Cond.code ⟨"MailCharacters$Reader", "readInto", "(LMailCharacters$Row;IIILMailCharacters$Row;)V"⟩ prog_7_method_2_code 6 none ∈ gW := gW_at 404 (by decide +kernel) (by decide +kernel)
theorem k_405 : Cond.methodLink "MailCharacters$Reader" 18 ⟨"MailCharacters$Reader", "readUtf8", "(LMailCharacters$Row;IILMailCharacters$Row;)V"⟩ ∈ gW := gW_at 405 (by decide +kernel) (by decide +kernel)
theorem k_406 : Cond.static ⟨"MailCharacters$Reader", "readUtf8", "(LMailCharacters$Row;IILMailCharacters$Row;)V"⟩ ∈ gW := gW_at 406 (by decide +kernel) (by decide +kernel)
theorem k_407 : Cond.code ⟨"MailCharacters$Reader", "readUtf8", "(LMailCharacters$Row;IILMailCharacters$Row;)V"⟩ prog_7_method_4_code 10 none ∈ gW := gW_at 407 (by decide +kernel) (by decide +kernel)
theorem k_408 : Cond.methodLink "MailCharacters$Reader" 36 ⟨"MailCharacters$Row", "get", "(I)I"⟩ ∈ gW := gW_at 408 (by decide +kernel) (by decide +kernel)
theorem k_409 : Cond.methodLink "MailCharacters$Reader" 48 ⟨"MailCharacters$Row", "put", "(I)V"⟩ ∈ gW := gW_at 409 (by decide +kernel) (by decide +kernel)
theorem k_410 : Cond.constant "MailCharacters$Reader" 52 65533 ∈ gW := gW_at 410 (by decide +kernel) (by decide +kernel)
theorem k_411 : Cond.methodLink "MailCharacters$Reader" 53 ⟨"MailCharacters$Reader", "bytesBehind", "(I)I"⟩ ∈ gW := gW_at 411 (by decide +kernel) (by decide +kernel)
theorem k_412 : Cond.static ⟨"MailCharacters$Reader", "bytesBehind", "(I)I"⟩ ∈ gW := gW_at 412 (by decide +kernel) (by decide +kernel)
theorem k_413 : Cond.code ⟨"MailCharacters$Reader", "bytesBehind", "(I)I"⟩ prog_7_method_5_code 1 (some FieldType.int) ∈ gW := gW_at 413 (by decide +kernel) (by decide +kernel)
theorem k_414 : Cond.methodLink "MailCharacters$Reader" 56 ⟨"MailCharacters$Reader", "lowestBehind", "(I)I"⟩ ∈ gW := gW_at 414 (by decide +kernel) (by decide +kernel)
theorem k_415 : Cond.static ⟨"MailCharacters$Reader", "lowestBehind", "(I)I"⟩ ∈ gW := gW_at 415 (by decide +kernel) (by decide +kernel)
theorem k_416 : Cond.code ⟨"MailCharacters$Reader", "lowestBehind", "(I)I"⟩ prog_7_method_6_code 1 (some FieldType.int) ∈ gW := gW_at 416 (by decide +kernel) (by decide +kernel)
theorem k_417 : Cond.methodLink "MailCharacters$Reader" 59 ⟨"MailCharacters$Reader", "highestBehind", "(I)I"⟩ ∈ gW := gW_at 417 (by decide +kernel) (by decide +kernel)
theorem k_418 : Cond.static ⟨"MailCharacters$Reader", "highestBehind", "(I)I"⟩ ∈ gW := gW_at 418 (by decide +kernel) (by decide +kernel)
theorem k_419 : Cond.code ⟨"MailCharacters$Reader", "highestBehind", "(I)I"⟩ prog_7_method_7_code 1 (some FieldType.int) ∈ gW := gW_at 419 (by decide +kernel) (by decide +kernel)
theorem k_420 : Cond.methodLink "MailCharacters$Reader" 22 ⟨"MailCharacters$Reader", "readUtf16Marked", "(LMailCharacters$Row;IILMailCharacters$Row;)V"⟩ ∈ gW := gW_at 420 (by decide +kernel) (by decide +kernel)
theorem k_422 : Cond.instanceMethod ⟨"MailCharacters$Reader", "readUtf16Marked", "(LMailCharacters$Row;IILMailCharacters$Row;)V"⟩ ∈ gW := gW_at 422 (by decide +kernel) (by decide +kernel)
theorem k_423 : Cond.code ⟨"MailCharacters$Reader", "readUtf16Marked", "(LMailCharacters$Row;IILMailCharacters$Row;)V"⟩ prog_7_method_8_code 7 none ∈ gW := gW_at 423 (by decide +kernel) (by decide +kernel)
theorem k_424 : Cond.methodLink "MailCharacters$Reader" 25 ⟨"MailCharacters$Reader", "readUtf16", "(LMailCharacters$Row;IIZLMailCharacters$Row;)V"⟩ ∈ gW := gW_at 424 (by decide +kernel) (by decide +kernel)
theorem k_426 : Cond.instanceMethod ⟨"MailCharacters$Reader", "readUtf16", "(LMailCharacters$Row;IIZLMailCharacters$Row;)V"⟩ ∈ gW := gW_at 426 (by decide +kernel) (by decide +kernel)
theorem k_427 : Cond.code ⟨"MailCharacters$Reader", "readUtf16", "(LMailCharacters$Row;IIZLMailCharacters$Row;)V"⟩ prog_7_method_9_code 9 none ∈ gW := gW_at 427 (by decide +kernel) (by decide +kernel)
theorem k_428 : Cond.methodLink "MailCharacters$Reader" 62 ⟨"MailCharacters$Reader", "takeUnit", "(ILMailCharacters$Row;)V"⟩ ∈ gW := gW_at 428 (by decide +kernel) (by decide +kernel)
theorem k_430 : Cond.instanceMethod ⟨"MailCharacters$Reader", "takeUnit", "(ILMailCharacters$Row;)V"⟩ ∈ gW := gW_at 430 (by decide +kernel) (by decide +kernel)
theorem k_431 : Cond.code ⟨"MailCharacters$Reader", "takeUnit", "(ILMailCharacters$Row;)V"⟩ prog_7_method_12_code 4 none ∈ gW := gW_at 431 (by decide +kernel) (by decide +kernel)
theorem k_432 : Cond.constant "MailCharacters$Reader" 92 56320 ∈ gW := gW_at 432 (by decide +kernel) (by decide +kernel)
theorem k_433 : Cond.constant "MailCharacters$Reader" 93 57343 ∈ gW := gW_at 433 (by decide +kernel) (by decide +kernel)
theorem k_434 : Cond.constant "MailCharacters$Reader" 98 65536 ∈ gW := gW_at 434 (by decide +kernel) (by decide +kernel)
theorem k_435 : Cond.constant "MailCharacters$Reader" 99 55296 ∈ gW := gW_at 435 (by decide +kernel) (by decide +kernel)
theorem k_436 : Cond.methodLink "MailCharacters$Reader" 66 ⟨"MailCharacters$Reader", "endUnits", "(LMailCharacters$Row;)V"⟩ ∈ gW := gW_at 436 (by decide +kernel) (by decide +kernel)
theorem k_438 : Cond.instanceMethod ⟨"MailCharacters$Reader", "endUnits", "(LMailCharacters$Row;)V"⟩ ∈ gW := gW_at 438 (by decide +kernel) (by decide +kernel)
theorem k_439 : Cond.code ⟨"MailCharacters$Reader", "endUnits", "(LMailCharacters$Row;)V"⟩ prog_7_method_13_code 2 none ∈ gW := gW_at 439 (by decide +kernel) (by decide +kernel)
theorem k_440 : Cond.constant "MailCharacters$Reader" 100 56319 ∈ gW := gW_at 440 (by decide +kernel) (by decide +kernel)
theorem k_441 : Cond.methodLink "MailCharacters$Reader" 29 ⟨"MailCharacters$Reader", "readUtf7", "(LMailCharacters$Row;IILMailCharacters$Row;)V"⟩ ∈ gW := gW_at 441 (by decide +kernel) (by decide +kernel)
theorem k_443 : Cond.instanceMethod ⟨"MailCharacters$Reader", "readUtf7", "(LMailCharacters$Row;IILMailCharacters$Row;)V"⟩ ∈ gW := gW_at 443 (by decide +kernel) (by decide +kernel)
theorem k_444 : Cond.code ⟨"MailCharacters$Reader", "readUtf7", "(LMailCharacters$Row;IILMailCharacters$Row;)V"⟩ prog_7_method_10_code 11 none ∈ gW := gW_at 444 (by decide +kernel) (by decide +kernel)
theorem k_445 : Cond.methodLink "MailCharacters$Reader" 70 ⟨"MailCharacters$Letters", "sixBitsOf", "(I)I"⟩ ∈ gW := gW_at 445 (by decide +kernel) (by decide +kernel)
theorem k_446 : Cond.static ⟨"MailCharacters$Letters", "sixBitsOf", "(I)I"⟩ ∈ gW := gW_at 446 (by decide +kernel) (by decide +kernel)
theorem k_447 : Cond.code ⟨"MailCharacters$Letters", "sixBitsOf", "(I)I"⟩ prog_4_method_2_code 1 (some FieldType.int) ∈ gW := gW_at 447 (by decide +kernel) (by decide +kernel)
theorem k_448 : Cond.methodLink "MailCharacters$Reader" 75 ⟨"MailCharacters$Reader", "takeSixBits", "(ILMailCharacters$Row;)V"⟩ ∈ gW := gW_at 448 (by decide +kernel) (by decide +kernel)
theorem k_450 : Cond.instanceMethod ⟨"MailCharacters$Reader", "takeSixBits", "(ILMailCharacters$Row;)V"⟩ ∈ gW := gW_at 450 (by decide +kernel) (by decide +kernel)
theorem k_451 : Cond.code ⟨"MailCharacters$Reader", "takeSixBits", "(ILMailCharacters$Row;)V"⟩ prog_7_method_11_code 3 none ∈ gW := gW_at 451 (by decide +kernel) (by decide +kernel)
theorem k_452 : Cond.methodLink "MailCharacters$Reader" 81 ⟨"MailCharacters$Bits", "add", "(II)V"⟩ ∈ gW := gW_at 452 (by decide +kernel) (by decide +kernel)
theorem k_453 : Cond.instanceMethod ⟨"MailCharacters$Bits", "add", "(II)V"⟩ ∈ gW := gW_at 453 (by decide +kernel) (by decide +kernel)
theorem k_454 : Cond.selects "MailCharacters$Bits" ⟨"MailCharacters$Bits", "add", "(II)V"⟩ ⟨"MailCharacters$Bits", "add", "(II)V"⟩ ∈ gW := gW_at 454 (by decide +kernel) (by decide +kernel)
theorem k_455 : Cond.code ⟨"MailCharacters$Bits", "add", "(II)V"⟩ prog_2_method_3_code 3 none ∈ gW := gW_at 455 (by decide +kernel) (by decide +kernel)
theorem k_456 : Cond.methodLink "MailCharacters$Reader" 85 ⟨"MailCharacters$Bits", "has", "(I)Z"⟩ ∈ gW := gW_at 456 (by decide +kernel) (by decide +kernel)
theorem k_457 : Cond.instanceMethod ⟨"MailCharacters$Bits", "has", "(I)Z"⟩ ∈ gW := gW_at 457 (by decide +kernel) (by decide +kernel)
theorem k_458 : Cond.selects "MailCharacters$Bits" ⟨"MailCharacters$Bits", "has", "(I)Z"⟩ ⟨"MailCharacters$Bits", "has", "(I)Z"⟩ ∈ gW := gW_at 458 (by decide +kernel) (by decide +kernel)
theorem k_459 : Cond.code ⟨"MailCharacters$Bits", "has", "(I)Z"⟩ prog_2_method_4_code 2 (some FieldType.boolean) ∈ gW := gW_at 459 (by decide +kernel) (by decide +kernel)
theorem k_460 : Cond.methodLink "MailCharacters$Reader" 89 ⟨"MailCharacters$Bits", "take", "(I)I"⟩ ∈ gW := gW_at 460 (by decide +kernel) (by decide +kernel)
theorem k_461 : Cond.instanceMethod ⟨"MailCharacters$Bits", "take", "(I)I"⟩ ∈ gW := gW_at 461 (by decide +kernel) (by decide +kernel)
theorem k_462 : Cond.selects "MailCharacters$Bits" ⟨"MailCharacters$Bits", "take", "(I)I"⟩ ⟨"MailCharacters$Bits", "take", "(I)I"⟩ ∈ gW := gW_at 462 (by decide +kernel) (by decide +kernel)
theorem k_463 : Cond.code ⟨"MailCharacters$Bits", "take", "(I)I"⟩ prog_2_method_5_code 2 (some FieldType.int) ∈ gW := gW_at 463 (by decide +kernel) (by decide +kernel)
theorem k_464 : Cond.methodLink "MailCharacters$Reader" 78 ⟨"MailCharacters$Bits", "clear", "()V"⟩ ∈ gW := gW_at 464 (by decide +kernel) (by decide +kernel)
theorem k_465 : Cond.instanceMethod ⟨"MailCharacters$Bits", "clear", "()V"⟩ ∈ gW := gW_at 465 (by decide +kernel) (by decide +kernel)
theorem k_466 : Cond.selects "MailCharacters$Bits" ⟨"MailCharacters$Bits", "clear", "()V"⟩ ⟨"MailCharacters$Bits", "clear", "()V"⟩ ∈ gW := gW_at 466 (by decide +kernel) (by decide +kernel)
theorem k_467 : Cond.code ⟨"MailCharacters$Bits", "clear", "()V"⟩ prog_2_method_2_code 1 none ∈ gW := gW_at 467 (by decide +kernel) (by decide +kernel)
theorem k_468 : Cond.methodLink "MailCharacters$Reader" 32 ⟨"MailCharacters$Reader", "readSingleBytes", "(LMailCharacters$Row;IIILMailCharacters$Row;)V"⟩ ∈ gW := gW_at 468 (by decide +kernel) (by decide +kernel)
theorem k_469 : Cond.static ⟨"MailCharacters$Reader", "readSingleBytes", "(LMailCharacters$Row;IIILMailCharacters$Row;)V"⟩ ∈ gW := gW_at 469 (by decide +kernel) (by decide +kernel)
theorem k_470 : Cond.code ⟨"MailCharacters$Reader", "readSingleBytes", "(LMailCharacters$Row;IIILMailCharacters$Row;)V"⟩ prog_7_method_3_code 6 none ∈ gW := gW_at 470 (by decide +kernel) (by decide +kernel)
theorem k_471 : Cond.methodLink "MailCharacters$Reader" 42 ⟨"MailCharacters$SingleBytes", "characterOf", "(II)I"⟩ ∈ gW := gW_at 471 (by decide +kernel) (by decide +kernel)
theorem k_472 : Cond.static ⟨"MailCharacters$SingleBytes", "characterOf", "(II)I"⟩ ∈ gW := gW_at 472 (by decide +kernel) (by decide +kernel)
theorem k_473 : Cond.code ⟨"MailCharacters$SingleBytes", "characterOf", "(II)I"⟩ prog_9_method_2_code 2 (some FieldType.int) ∈ gW := gW_at 473 (by decide +kernel) (by decide +kernel)
theorem k_474 : Cond.methodLink "MailCharacters$SingleBytes" 9 ⟨"MailCharacters$SingleBytes", "latin9CharacterOf", "(I)I"⟩ ∈ gW := gW_at 474 (by decide +kernel) (by decide +kernel)
theorem k_475 : Cond.static ⟨"MailCharacters$SingleBytes", "latin9CharacterOf", "(I)I"⟩ ∈ gW := gW_at 475 (by decide +kernel) (by decide +kernel)
theorem k_476 : Cond.code ⟨"MailCharacters$SingleBytes", "latin9CharacterOf", "(I)I"⟩ prog_9_method_4_code 2 (some FieldType.int) ∈ gW := gW_at 476 (by decide +kernel) (by decide +kernel)
theorem k_477 : Cond.fieldLink "MailCharacters$SingleBytes" 36 "MailCharacters$SingleBytes" "LATIN9_PAIRS" "[I" ∈ gW := gW_at 477 (by decide +kernel) (by decide +kernel)
theorem k_479 : Cond.fieldLink "MailCharacters$SingleBytes" 15 "MailCharacters$SingleBytes" "WINDOWS_ROW" "[I" ∈ gW := gW_at 479 (by decide +kernel) (by decide +kernel)
theorem k_481 : Cond.methodLink "MailCharacters$SingleBytes" 19 ⟨"MailCharacters$SingleBytes", "inRow", "([II)I"⟩ ∈ gW := gW_at 481 (by decide +kernel) (by decide +kernel)
theorem k_482 : Cond.static ⟨"MailCharacters$SingleBytes", "inRow", "([II)I"⟩ ∈ gW := gW_at 482 (by decide +kernel) (by decide +kernel)
theorem k_483 : Cond.code ⟨"MailCharacters$SingleBytes", "inRow", "([II)I"⟩ prog_9_method_9_code 2 (some FieldType.int) ∈ gW := gW_at 483 (by decide +kernel) (by decide +kernel)
theorem k_484 : Cond.constant "MailCharacters$SingleBytes" 26 65533 ∈ gW := gW_at 484 (by decide +kernel) (by decide +kernel)
theorem k_485 : Cond.methodLink "MailCharacters$SingleBytes" 23 ⟨"MailCharacters$SingleBytes", "koiCharacterOf", "(I)I"⟩ ∈ gW := gW_at 485 (by decide +kernel) (by decide +kernel)
theorem k_486 : Cond.static ⟨"MailCharacters$SingleBytes", "koiCharacterOf", "(I)I"⟩ ∈ gW := gW_at 486 (by decide +kernel) (by decide +kernel)
theorem k_487 : Cond.code ⟨"MailCharacters$SingleBytes", "koiCharacterOf", "(I)I"⟩ prog_9_method_7_code 1 (some FieldType.int) ∈ gW := gW_at 487 (by decide +kernel) (by decide +kernel)
theorem k_488 : Cond.fieldLink "MailCharacters$SingleBytes" 42 "MailCharacters$SingleBytes" "KOI_ROW" "[I" ∈ gW := gW_at 488 (by decide +kernel) (by decide +kernel)
theorem k_490 : Cond.methodLink "MailCharacters" 118 ⟨"MailCharacters", "readWord", "()V"⟩ ∈ gW := gW_at 490 (by decide +kernel) (by decide +kernel)
theorem k_492 : Cond.instanceMethod ⟨"MailCharacters", "readWord", "()V"⟩ ∈ gW := gW_at 492 (by decide +kernel) (by decide +kernel)
theorem k_493 : Cond.code ⟨"MailCharacters", "readWord", "()V"⟩ prog_1_method_16_code 1 none ∈ gW := gW_at 493 (by decide +kernel) (by decide +kernel)
theorem k_494 : Cond.methodLink "MailCharacters" 150 ⟨"MailCharacters$Uncoder", "uncodeWord", "(LMailCharacters$Row;LMailCharacters$Word;LMailCharacters$Row;)V"⟩ ∈ gW := gW_at 494 (by decide +kernel) (by decide +kernel)
theorem k_495 : Cond.instanceMethod ⟨"MailCharacters$Uncoder", "uncodeWord", "(LMailCharacters$Row;LMailCharacters$Word;LMailCharacters$Row;)V"⟩ ∈ gW := gW_at 495 (by decide +kernel) (by decide +kernel)
theorem k_496 : Cond.selects "MailCharacters$Uncoder" ⟨"MailCharacters$Uncoder", "uncodeWord", "(LMailCharacters$Row;LMailCharacters$Word;LMailCharacters$Row;)V"⟩ ⟨"MailCharacters$Uncoder", "uncodeWord", "(LMailCharacters$Row;LMailCharacters$Word;LMailCharacters$Row;)V"⟩ ∈ gW := gW_at 496 (by decide +kernel) (by decide +kernel)
theorem k_497 : Cond.code ⟨"MailCharacters$Uncoder", "uncodeWord", "(LMailCharacters$Row;LMailCharacters$Word;LMailCharacters$Row;)V"⟩ prog_10_method_3_code 4 none ∈ gW := gW_at 497 (by decide +kernel) (by decide +kernel)
theorem k_498 : Cond.methodLink "MailCharacters$Uncoder" 31 ⟨"MailCharacters$Uncoder", "unbase", "(LMailCharacters$Row;IILMailCharacters$Row;)V"⟩ ∈ gW := gW_at 498 (by decide +kernel) (by decide +kernel)
theorem k_500 : Cond.instanceMethod ⟨"MailCharacters$Uncoder", "unbase", "(LMailCharacters$Row;IILMailCharacters$Row;)V"⟩ ∈ gW := gW_at 500 (by decide +kernel) (by decide +kernel)
theorem k_501 : Cond.code ⟨"MailCharacters$Uncoder", "unbase", "(LMailCharacters$Row;IILMailCharacters$Row;)V"⟩ prog_10_method_4_code 8 none ∈ gW := gW_at 501 (by decide +kernel) (by decide +kernel)
theorem k_502 : Cond.methodLink "MailCharacters$Uncoder" 59 ⟨"MailCharacters$Bits", "clear", "()V"⟩ ∈ gW := gW_at 502 (by decide +kernel) (by decide +kernel)
theorem k_503 : Cond.methodLink "MailCharacters$Uncoder" 62 ⟨"MailCharacters$Row", "get", "(I)I"⟩ ∈ gW := gW_at 503 (by decide +kernel) (by decide +kernel)
theorem k_504 : Cond.methodLink "MailCharacters$Uncoder" 66 ⟨"MailCharacters$Letters", "sixBitsOf", "(I)I"⟩ ∈ gW := gW_at 504 (by decide +kernel) (by decide +kernel)
theorem k_505 : Cond.methodLink "MailCharacters$Uncoder" 71 ⟨"MailCharacters$Bits", "add", "(II)V"⟩ ∈ gW := gW_at 505 (by decide +kernel) (by decide +kernel)
theorem k_506 : Cond.methodLink "MailCharacters$Uncoder" 75 ⟨"MailCharacters$Bits", "has", "(I)Z"⟩ ∈ gW := gW_at 506 (by decide +kernel) (by decide +kernel)
theorem k_507 : Cond.methodLink "MailCharacters$Uncoder" 79 ⟨"MailCharacters$Bits", "take", "(I)I"⟩ ∈ gW := gW_at 507 (by decide +kernel) (by decide +kernel)
theorem k_508 : Cond.methodLink "MailCharacters$Uncoder" 82 ⟨"MailCharacters$Row", "put", "(I)V"⟩ ∈ gW := gW_at 508 (by decide +kernel) (by decide +kernel)
theorem k_509 : Cond.methodLink "MailCharacters$Uncoder" 55 ⟨"MailCharacters$Uncoder", "unquote", "(LMailCharacters$Row;IIZLMailCharacters$Row;)V"⟩ ∈ gW := gW_at 509 (by decide +kernel) (by decide +kernel)
theorem k_510 : Cond.static ⟨"MailCharacters$Uncoder", "unquote", "(LMailCharacters$Row;IIZLMailCharacters$Row;)V"⟩ ∈ gW := gW_at 510 (by decide +kernel) (by decide +kernel)
theorem k_511 : Cond.code ⟨"MailCharacters$Uncoder", "unquote", "(LMailCharacters$Row;IIZLMailCharacters$Row;)V"⟩ prog_10_method_7_code 9 none ∈ gW := gW_at 511 (by decide +kernel) (by decide +kernel)
theorem k_512 : Cond.methodLink "MailCharacters$Uncoder" 102 ⟨"MailCharacters$Letters", "hexOf", "(I)I"⟩ ∈ gW := gW_at 512 (by decide +kernel) (by decide +kernel)
theorem k_513 : Cond.static ⟨"MailCharacters$Letters", "hexOf", "(I)I"⟩ ∈ gW := gW_at 513 (by decide +kernel) (by decide +kernel)
theorem k_514 : Cond.code ⟨"MailCharacters$Letters", "hexOf", "(I)I"⟩ prog_4_method_4_code 1 (some FieldType.int) ∈ gW := gW_at 514 (by decide +kernel) (by decide +kernel)
theorem k_516 : Cond.instanceMethod ⟨"MailCharacters", "byteAt", "(I)I"⟩ ∈ gW := gW_at 516 (by decide +kernel) (by decide +kernel)
theorem k_517 : Cond.selects "MailCharacters" ⟨"MailCharacters", "byteAt", "(I)I"⟩ ⟨"MailCharacters", "byteAt", "(I)I"⟩ ∈ gW := gW_at 517 (by decide +kernel) (by decide +kernel)
theorem k_518 : Cond.code ⟨"MailCharacters", "byteAt", "(I)I"⟩ prog_1_method_10_code 2 (some FieldType.int) ∈ gW := gW_at 518 (by decide +kernel) (by decide +kernel)
theorem k_520 : Cond.instanceMethod ⟨"MailCharacters", "at", "(I)I"⟩ ∈ gW := gW_at 520 (by decide +kernel) (by decide +kernel)
theorem k_521 : Cond.selects "MailCharacters" ⟨"MailCharacters", "at", "(I)I"⟩ ⟨"MailCharacters", "at", "(I)I"⟩ ∈ gW := gW_at 521 (by decide +kernel) (by decide +kernel)
theorem k_522 : Cond.code ⟨"MailCharacters", "at", "(I)I"⟩ prog_1_method_11_code 2 (some FieldType.int) ∈ gW := gW_at 522 (by decide +kernel) (by decide +kernel)
theorem k_524 : Cond.instanceMethod ⟨"MailCharacters", "count", "(I)I"⟩ ∈ gW := gW_at 524 (by decide +kernel) (by decide +kernel)
theorem k_525 : Cond.selects "MailCharacters" ⟨"MailCharacters", "count", "(I)I"⟩ ⟨"MailCharacters", "count", "(I)I"⟩ ∈ gW := gW_at 525 (by decide +kernel) (by decide +kernel)
theorem k_526 : Cond.code ⟨"MailCharacters", "count", "(I)I"⟩ prog_1_method_12_code 2 (some FieldType.int) ∈ gW := gW_at 526 (by decide +kernel) (by decide +kernel)
theorem k_527 : Cond.constant "MailCharacters" 146 65533 ∈ gW := gW_at 527 (by decide +kernel) (by decide +kernel)
theorem k_528 : Cond.methodLink "MailCharacters" 147 ⟨"MailCharacters$Row", "countOf", "(I)I"⟩ ∈ gW := gW_at 528 (by decide +kernel) (by decide +kernel)
theorem k_529 : Cond.instanceMethod ⟨"MailCharacters$Row", "countOf", "(I)I"⟩ ∈ gW := gW_at 529 (by decide +kernel) (by decide +kernel)
theorem k_530 : Cond.selects "MailCharacters$Row" ⟨"MailCharacters$Row", "countOf", "(I)I"⟩ ⟨"MailCharacters$Row", "countOf", "(I)I"⟩ ∈ gW := gW_at 530 (by decide +kernel) (by decide +kernel)
theorem k_531 : Cond.code ⟨"MailCharacters$Row", "countOf", "(I)I"⟩ prog_8_method_7_code 4 (some FieldType.int) ∈ gW := gW_at 531 (by decide +kernel) (by decide +kernel)
theorem k_532 : Cond.methodLink "MailCharacters$Row" 29 ⟨"MailCharacters$Row", "get", "(I)I"⟩ ∈ gW := gW_at 532 (by decide +kernel) (by decide +kernel)
theorem k_538 : Cond.instanceMethod ⟨"MailCharacters", "uncode", "(I)I"⟩ ∈ gW := gW_at 538 (by decide +kernel) (by decide +kernel)
theorem k_539 : Cond.selects "MailCharacters" ⟨"MailCharacters", "uncode", "(I)I"⟩ ⟨"MailCharacters", "uncode", "(I)I"⟩ ∈ gW := gW_at 539 (by decide +kernel) (by decide +kernel)
theorem k_540 : Cond.code ⟨"MailCharacters", "uncode", "(I)I"⟩ prog_1_method_5_code 2 (some FieldType.int) ∈ gW := gW_at 540 (by decide +kernel) (by decide +kernel)
theorem k_607 : Cond.methodLink "MailCharacters" 93 ⟨"MailCharacters$Uncoder", "uncodeInto", "(LMailCharacters$Row;ILMailCharacters$Row;)V"⟩ ∈ gW := gW_at 607 (by decide +kernel) (by decide +kernel)
theorem k_608 : Cond.instanceMethod ⟨"MailCharacters$Uncoder", "uncodeInto", "(LMailCharacters$Row;ILMailCharacters$Row;)V"⟩ ∈ gW := gW_at 608 (by decide +kernel) (by decide +kernel)
theorem k_609 : Cond.selects "MailCharacters$Uncoder" ⟨"MailCharacters$Uncoder", "uncodeInto", "(LMailCharacters$Row;ILMailCharacters$Row;)V"⟩ ⟨"MailCharacters$Uncoder", "uncodeInto", "(LMailCharacters$Row;ILMailCharacters$Row;)V"⟩ ∈ gW := gW_at 609 (by decide +kernel) (by decide +kernel)
theorem k_610 : Cond.code ⟨"MailCharacters$Uncoder", "uncodeInto", "(LMailCharacters$Row;ILMailCharacters$Row;)V"⟩ prog_10_method_2_code 4 none ∈ gW := gW_at 610 (by decide +kernel) (by decide +kernel)
theorem k_611 : Cond.methodLink "MailCharacters$Uncoder" 25 ⟨"MailCharacters$Row", "size", "()I"⟩ ∈ gW := gW_at 611 (by decide +kernel) (by decide +kernel)
theorem k_612 : Cond.methodLink "MailCharacters$Uncoder" 35 ⟨"MailCharacters$Uncoder", "unquoteLines", "(LMailCharacters$Row;LMailCharacters$Row;)V"⟩ ∈ gW := gW_at 612 (by decide +kernel) (by decide +kernel)
theorem k_614 : Cond.instanceMethod ⟨"MailCharacters$Uncoder", "unquoteLines", "(LMailCharacters$Row;LMailCharacters$Row;)V"⟩ ∈ gW := gW_at 614 (by decide +kernel) (by decide +kernel)
theorem k_615 : Cond.code ⟨"MailCharacters$Uncoder", "unquoteLines", "(LMailCharacters$Row;LMailCharacters$Row;)V"⟩ prog_10_method_5_code 6 none ∈ gW := gW_at 615 (by decide +kernel) (by decide +kernel)
theorem k_616 : Cond.methodLink "MailCharacters$Uncoder" 86 ⟨"MailCharacters$Line", "goToStart", "()V"⟩ ∈ gW := gW_at 616 (by decide +kernel) (by decide +kernel)
theorem k_617 : Cond.instanceMethod ⟨"MailCharacters$Line", "goToStart", "()V"⟩ ∈ gW := gW_at 617 (by decide +kernel) (by decide +kernel)
theorem k_618 : Cond.selects "MailCharacters$Line" ⟨"MailCharacters$Line", "goToStart", "()V"⟩ ⟨"MailCharacters$Line", "goToStart", "()V"⟩ ∈ gW := gW_at 618 (by decide +kernel) (by decide +kernel)
theorem k_619 : Cond.code ⟨"MailCharacters$Line", "goToStart", "()V"⟩ prog_5_method_2_code 1 none ∈ gW := gW_at 619 (by decide +kernel) (by decide +kernel)
theorem k_620 : Cond.methodLink "MailCharacters$Uncoder" 89 ⟨"MailCharacters$Line", "step", "(LMailCharacters$Row;)Z"⟩ ∈ gW := gW_at 620 (by decide +kernel) (by decide +kernel)
theorem k_621 : Cond.instanceMethod ⟨"MailCharacters$Line", "step", "(LMailCharacters$Row;)Z"⟩ ∈ gW := gW_at 621 (by decide +kernel) (by decide +kernel)
theorem k_622 : Cond.selects "MailCharacters$Line" ⟨"MailCharacters$Line", "step", "(LMailCharacters$Row;)Z"⟩ ⟨"MailCharacters$Line", "step", "(LMailCharacters$Row;)Z"⟩ ∈ gW := gW_at 622 (by decide +kernel) (by decide +kernel)
theorem k_623 : Cond.code ⟨"MailCharacters$Line", "step", "(LMailCharacters$Row;)Z"⟩ prog_5_method_3_code 3 (some FieldType.boolean) ∈ gW := gW_at 623 (by decide +kernel) (by decide +kernel)
theorem k_624 : Cond.methodLink "MailCharacters$Line" 15 ⟨"MailCharacters$Row", "size", "()I"⟩ ∈ gW := gW_at 624 (by decide +kernel) (by decide +kernel)
theorem k_625 : Cond.methodLink "MailCharacters$Line" 27 ⟨"MailCharacters$Row", "get", "(I)I"⟩ ∈ gW := gW_at 625 (by decide +kernel) (by decide +kernel)
theorem k_626 : Cond.methodLink "MailCharacters$Uncoder" 95 ⟨"MailCharacters$Uncoder", "withoutBlanks", "(LMailCharacters$Row;II)I"⟩ ∈ gW := gW_at 626 (by decide +kernel) (by decide +kernel)
theorem k_627 : Cond.static ⟨"MailCharacters$Uncoder", "withoutBlanks", "(LMailCharacters$Row;II)I"⟩ ∈ gW := gW_at 627 (by decide +kernel) (by decide +kernel)
theorem k_628 : Cond.code ⟨"MailCharacters$Uncoder", "withoutBlanks", "(LMailCharacters$Row;II)I"⟩ prog_10_method_6_code 5 (some FieldType.int) ∈ gW := gW_at 628 (by decide +kernel) (by decide +kernel)
theorem k_629 : Cond.methodLink "MailCharacters$Uncoder" 39 ⟨"MailCharacters$Uncoder", "unhexLines", "(LMailCharacters$Row;LMailCharacters$Row;)V"⟩ ∈ gW := gW_at 629 (by decide +kernel) (by decide +kernel)
theorem k_631 : Cond.instanceMethod ⟨"MailCharacters$Uncoder", "unhexLines", "(LMailCharacters$Row;LMailCharacters$Row;)V"⟩ ∈ gW := gW_at 631 (by decide +kernel) (by decide +kernel)
theorem k_632 : Cond.code ⟨"MailCharacters$Uncoder", "unhexLines", "(LMailCharacters$Row;LMailCharacters$Row;)V"⟩ prog_10_method_8_code 5 none ∈ gW := gW_at 632 (by decide +kernel) (by decide +kernel)
theorem k_633 : Cond.methodLink "MailCharacters$Uncoder" 105 ⟨"MailCharacters$Line", "length", "()I"⟩ ∈ gW := gW_at 633 (by decide +kernel) (by decide +kernel)
theorem k_634 : Cond.instanceMethod ⟨"MailCharacters$Line", "length", "()I"⟩ ∈ gW := gW_at 634 (by decide +kernel) (by decide +kernel)
theorem k_635 : Cond.selects "MailCharacters$Line" ⟨"MailCharacters$Line", "length", "()I"⟩ ⟨"MailCharacters$Line", "length", "()I"⟩ ∈ gW := gW_at 635 (by decide +kernel) (by decide +kernel)
theorem k_636 : Cond.code ⟨"MailCharacters$Line", "length", "()I"⟩ prog_5_method_5_code 1 (some FieldType.int) ∈ gW := gW_at 636 (by decide +kernel) (by decide +kernel)
theorem k_638 : Cond.methodLink "MailCharacters$Uncoder" 110 ⟨"java/lang/String", "length", "()I"⟩ ∈ gW := gW_at 638 (by decide +kernel) (by decide +kernel)
theorem k_639 : Cond.methodLink "MailCharacters$Uncoder" 113 ⟨"MailCharacters$Line", "begins", "(LMailCharacters$Row;Ljava/lang/String;)Z"⟩ ∈ gW := gW_at 639 (by decide +kernel) (by decide +kernel)
theorem k_640 : Cond.instanceMethod ⟨"MailCharacters$Line", "begins", "(LMailCharacters$Row;Ljava/lang/String;)Z"⟩ ∈ gW := gW_at 640 (by decide +kernel) (by decide +kernel)
theorem k_641 : Cond.selects "MailCharacters$Line" ⟨"MailCharacters$Line", "begins", "(LMailCharacters$Row;Ljava/lang/String;)Z"⟩ ⟨"MailCharacters$Line", "begins", "(LMailCharacters$Row;Ljava/lang/String;)Z"⟩ ∈ gW := gW_at 641 (by decide +kernel) (by decide +kernel)
theorem k_642 : Cond.code ⟨"MailCharacters$Line", "begins", "(LMailCharacters$Row;Ljava/lang/String;)Z"⟩ prog_5_method_4_code 4 (some FieldType.boolean) ∈ gW := gW_at 642 (by decide +kernel) (by decide +kernel)
theorem k_643 : Cond.methodLink "MailCharacters$Line" 35 ⟨"java/lang/String", "length", "()I"⟩ ∈ gW := gW_at 643 (by decide +kernel) (by decide +kernel)
theorem k_644 : Cond.methodLink "MailCharacters$Line" 40 ⟨"java/lang/String", "charAt", "(I)C"⟩ ∈ gW := gW_at 644 (by decide +kernel) (by decide +kernel)
theorem k_645 : Cond.methodLink "MailCharacters$Uncoder" 117 ⟨"MailCharacters$Uncoder", "endsHex", "(LMailCharacters$Row;)Z"⟩ ∈ gW := gW_at 645 (by decide +kernel) (by decide +kernel)
theorem k_647 : Cond.instanceMethod ⟨"MailCharacters$Uncoder", "endsHex", "(LMailCharacters$Row;)Z"⟩ ∈ gW := gW_at 647 (by decide +kernel) (by decide +kernel)
theorem k_648 : Cond.code ⟨"MailCharacters$Uncoder", "endsHex", "(LMailCharacters$Row;)Z"⟩ prog_10_method_9_code 2 (some FieldType.boolean) ∈ gW := gW_at 648 (by decide +kernel) (by decide +kernel)
theorem k_650 : Cond.methodLink "MailCharacters$Uncoder" 125 ⟨"MailCharacters$Uncoder", "hexValue", "(I)I"⟩ ∈ gW := gW_at 650 (by decide +kernel) (by decide +kernel)
theorem k_651 : Cond.static ⟨"MailCharacters$Uncoder", "hexValue", "(I)I"⟩ ∈ gW := gW_at 651 (by decide +kernel) (by decide +kernel)
theorem k_652 : Cond.code ⟨"MailCharacters$Uncoder", "hexValue", "(I)I"⟩ prog_10_method_11_code 1 (some FieldType.int) ∈ gW := gW_at 652 (by decide +kernel) (by decide +kernel)
theorem k_653 : Cond.methodLink "MailCharacters$Uncoder" 120 ⟨"MailCharacters$Uncoder", "unhexLine", "(LMailCharacters$Row;LMailCharacters$Row;)V"⟩ ∈ gW := gW_at 653 (by decide +kernel) (by decide +kernel)
theorem k_655 : Cond.instanceMethod ⟨"MailCharacters$Uncoder", "unhexLine", "(LMailCharacters$Row;LMailCharacters$Row;)V"⟩ ∈ gW := gW_at 655 (by decide +kernel) (by decide +kernel)
theorem k_656 : Cond.code ⟨"MailCharacters$Uncoder", "unhexLine", "(LMailCharacters$Row;LMailCharacters$Row;)V"⟩ prog_10_method_10_code 7 none ∈ gW := gW_at 656 (by decide +kernel) (by decide +kernel)
theorem k_657 : Cond.methodLink "MailCharacters" 97 ⟨"MailCharacters", "swapTapes", "()V"⟩ ∈ gW := gW_at 657 (by decide +kernel) (by decide +kernel)
theorem k_659 : Cond.instanceMethod ⟨"MailCharacters", "swapTapes", "()V"⟩ ∈ gW := gW_at 659 (by decide +kernel) (by decide +kernel)
theorem k_660 : Cond.code ⟨"MailCharacters", "swapTapes", "()V"⟩ prog_1_method_14_code 2 none ∈ gW := gW_at 660 (by decide +kernel) (by decide +kernel)
theorem k_665 : Cond.instanceMethod ⟨"MailCharacters", "read", "(I)I"⟩ ∈ gW := gW_at 665 (by decide +kernel) (by decide +kernel)
theorem k_666 : Cond.selects "MailCharacters" ⟨"MailCharacters", "read", "(I)I"⟩ ⟨"MailCharacters", "read", "(I)I"⟩ ∈ gW := gW_at 666 (by decide +kernel) (by decide +kernel)
theorem k_667 : Cond.code ⟨"MailCharacters", "read", "(I)I"⟩ prog_1_method_6_code 2 (some FieldType.int) ∈ gW := gW_at 667 (by decide +kernel) (by decide +kernel)
theorem k_668 : Cond.methodLink "MailCharacters" 100 ⟨"MailCharacters", "isCharset", "(I)Z"⟩ ∈ gW := gW_at 668 (by decide +kernel) (by decide +kernel)
theorem k_669 : Cond.static ⟨"MailCharacters", "isCharset", "(I)Z"⟩ ∈ gW := gW_at 669 (by decide +kernel) (by decide +kernel)
theorem k_670 : Cond.code ⟨"MailCharacters", "isCharset", "(I)Z"⟩ prog_1_method_13_code 1 (some FieldType.boolean) ∈ gW := gW_at 670 (by decide +kernel) (by decide +kernel)
theorem k_676 : Cond.instanceMethod ⟨"MailCharacters", "write", "(I)I"⟩ ∈ gW := gW_at 676 (by decide +kernel) (by decide +kernel)
theorem k_677 : Cond.selects "MailCharacters" ⟨"MailCharacters", "write", "(I)I"⟩ ⟨"MailCharacters", "write", "(I)I"⟩ ∈ gW := gW_at 677 (by decide +kernel) (by decide +kernel)
theorem k_678 : Cond.code ⟨"MailCharacters", "write", "(I)I"⟩ prog_1_method_8_code 2 (some FieldType.int) ∈ gW := gW_at 678 (by decide +kernel) (by decide +kernel)
theorem k_679 : Cond.methodLink "MailCharacters" 125 ⟨"MailCharacters$Writer", "writeInto", "(LMailCharacters$Row;ILMailCharacters$Row;)V"⟩ ∈ gW := gW_at 679 (by decide +kernel) (by decide +kernel)
theorem k_680 : Cond.instanceMethod ⟨"MailCharacters$Writer", "writeInto", "(LMailCharacters$Row;ILMailCharacters$Row;)V"⟩ ∈ gW := gW_at 680 (by decide +kernel) (by decide +kernel)
theorem k_681 : Cond.selects "MailCharacters$Writer" ⟨"MailCharacters$Writer", "writeInto", "(LMailCharacters$Row;ILMailCharacters$Row;)V"⟩ ⟨"MailCharacters$Writer", "writeInto", "(LMailCharacters$Row;ILMailCharacters$Row;)V"⟩ ∈ gW := gW_at 681 (by decide +kernel) (by decide +kernel)
theorem k_682 : Cond.code ⟨"MailCharacters$Writer", "writeInto", "(LMailCharacters$Row;ILMailCharacters$Row;)V"⟩ prog_12_method_2_code 6 none ∈ gW := gW_at 682 (by decide +kernel) (by decide +kernel)
theorem k_683 : Cond.methodLink "MailCharacters$Writer" 18 ⟨"MailCharacters$Writer", "writeUtf7", "(LMailCharacters$Row;LMailCharacters$Row;)V"⟩ ∈ gW := gW_at 683 (by decide +kernel) (by decide +kernel)
theorem k_685 : Cond.instanceMethod ⟨"MailCharacters$Writer", "writeUtf7", "(LMailCharacters$Row;LMailCharacters$Row;)V"⟩ ∈ gW := gW_at 685 (by decide +kernel) (by decide +kernel)
theorem k_686 : Cond.code ⟨"MailCharacters$Writer", "writeUtf7", "(LMailCharacters$Row;LMailCharacters$Row;)V"⟩ prog_12_method_10_code 7 none ∈ gW := gW_at 686 (by decide +kernel) (by decide +kernel)
theorem k_687 : Cond.methodLink "MailCharacters$Writer" 28 ⟨"MailCharacters$Row", "size", "()I"⟩ ∈ gW := gW_at 687 (by decide +kernel) (by decide +kernel)
theorem k_688 : Cond.methodLink "MailCharacters$Writer" 32 ⟨"MailCharacters$Row", "get", "(I)I"⟩ ∈ gW := gW_at 688 (by decide +kernel) (by decide +kernel)
theorem k_689 : Cond.methodLink "MailCharacters$Writer" 72 ⟨"MailCharacters$Writer", "endOfRun", "(LMailCharacters$Row;I)I"⟩ ∈ gW := gW_at 689 (by decide +kernel) (by decide +kernel)
theorem k_690 : Cond.static ⟨"MailCharacters$Writer", "endOfRun", "(LMailCharacters$Row;I)I"⟩ ∈ gW := gW_at 690 (by decide +kernel) (by decide +kernel)
theorem k_691 : Cond.code ⟨"MailCharacters$Writer", "endOfRun", "(LMailCharacters$Row;I)I"⟩ prog_12_method_14_code 3 (some FieldType.int) ∈ gW := gW_at 691 (by decide +kernel) (by decide +kernel)
theorem k_692 : Cond.methodLink "MailCharacters$Writer" 90 ⟨"MailCharacters$Writer", "goesInRun", "(I)Z"⟩ ∈ gW := gW_at 692 (by decide +kernel) (by decide +kernel)
theorem k_693 : Cond.static ⟨"MailCharacters$Writer", "goesInRun", "(I)Z"⟩ ∈ gW := gW_at 693 (by decide +kernel) (by decide +kernel)
theorem k_694 : Cond.code ⟨"MailCharacters$Writer", "goesInRun", "(I)Z"⟩ prog_12_method_13_code 1 (some FieldType.boolean) ∈ gW := gW_at 694 (by decide +kernel) (by decide +kernel)
theorem k_695 : Cond.methodLink "MailCharacters$Writer" 36 ⟨"MailCharacters$Row", "room", "()I"⟩ ∈ gW := gW_at 695 (by decide +kernel) (by decide +kernel)
theorem k_696 : Cond.methodLink "MailCharacters$Writer" 76 ⟨"MailCharacters$Writer", "widthOfRun", "(LMailCharacters$Row;II)I"⟩ ∈ gW := gW_at 696 (by decide +kernel) (by decide +kernel)
theorem k_697 : Cond.static ⟨"MailCharacters$Writer", "widthOfRun", "(LMailCharacters$Row;II)I"⟩ ∈ gW := gW_at 697 (by decide +kernel) (by decide +kernel)
theorem k_698 : Cond.code ⟨"MailCharacters$Writer", "widthOfRun", "(LMailCharacters$Row;II)I"⟩ prog_12_method_15_code 5 (some FieldType.int) ∈ gW := gW_at 698 (by decide +kernel) (by decide +kernel)
theorem k_699 : Cond.methodLink "MailCharacters$Writer" 50 ⟨"MailCharacters$Writer", "unitsOf", "(I)I"⟩ ∈ gW := gW_at 699 (by decide +kernel) (by decide +kernel)
theorem k_700 : Cond.static ⟨"MailCharacters$Writer", "unitsOf", "(I)I"⟩ ∈ gW := gW_at 700 (by decide +kernel) (by decide +kernel)
theorem k_701 : Cond.code ⟨"MailCharacters$Writer", "unitsOf", "(I)I"⟩ prog_12_method_5_code 1 (some FieldType.int) ∈ gW := gW_at 701 (by decide +kernel) (by decide +kernel)
theorem k_702 : Cond.constant "MailCharacters$Writer" 53 65536 ∈ gW := gW_at 702 (by decide +kernel) (by decide +kernel)
theorem k_703 : Cond.methodLink "MailCharacters$Writer" 80 ⟨"MailCharacters$Writer", "directWidthOf", "(I)I"⟩ ∈ gW := gW_at 703 (by decide +kernel) (by decide +kernel)
theorem k_704 : Cond.static ⟨"MailCharacters$Writer", "directWidthOf", "(I)I"⟩ ∈ gW := gW_at 704 (by decide +kernel) (by decide +kernel)
theorem k_705 : Cond.code ⟨"MailCharacters$Writer", "directWidthOf", "(I)I"⟩ prog_12_method_11_code 1 (some FieldType.int) ∈ gW := gW_at 705 (by decide +kernel) (by decide +kernel)
theorem k_706 : Cond.methodLink "MailCharacters$Writer" 83 ⟨"MailCharacters$Writer", "writeRun", "(LMailCharacters$Row;IILMailCharacters$Row;)V"⟩ ∈ gW := gW_at 706 (by decide +kernel) (by decide +kernel)
theorem k_708 : Cond.instanceMethod ⟨"MailCharacters$Writer", "writeRun", "(LMailCharacters$Row;IILMailCharacters$Row;)V"⟩ ∈ gW := gW_at 708 (by decide +kernel) (by decide +kernel)
theorem k_709 : Cond.code ⟨"MailCharacters$Writer", "writeRun", "(LMailCharacters$Row;IILMailCharacters$Row;)V"⟩ prog_12_method_16_code 8 none ∈ gW := gW_at 709 (by decide +kernel) (by decide +kernel)
theorem k_710 : Cond.methodLink "MailCharacters$Writer" 22 ⟨"MailCharacters$Row", "put", "(I)V"⟩ ∈ gW := gW_at 710 (by decide +kernel) (by decide +kernel)
theorem k_711 : Cond.methodLink "MailCharacters$Writer" 94 ⟨"MailCharacters$Bits", "clear", "()V"⟩ ∈ gW := gW_at 711 (by decide +kernel) (by decide +kernel)
theorem k_712 : Cond.methodLink "MailCharacters$Writer" 69 ⟨"MailCharacters$Writer", "unitOf", "(II)I"⟩ ∈ gW := gW_at 712 (by decide +kernel) (by decide +kernel)
theorem k_713 : Cond.static ⟨"MailCharacters$Writer", "unitOf", "(II)I"⟩ ∈ gW := gW_at 713 (by decide +kernel) (by decide +kernel)
theorem k_714 : Cond.code ⟨"MailCharacters$Writer", "unitOf", "(II)I"⟩ prog_12_method_6_code 2 (some FieldType.int) ∈ gW := gW_at 714 (by decide +kernel) (by decide +kernel)
theorem k_715 : Cond.constant "MailCharacters$Writer" 54 55296 ∈ gW := gW_at 715 (by decide +kernel) (by decide +kernel)
theorem k_716 : Cond.constant "MailCharacters$Writer" 55 56320 ∈ gW := gW_at 716 (by decide +kernel) (by decide +kernel)
theorem k_717 : Cond.methodLink "MailCharacters$Writer" 97 ⟨"MailCharacters$Bits", "add", "(II)V"⟩ ∈ gW := gW_at 717 (by decide +kernel) (by decide +kernel)
theorem k_718 : Cond.methodLink "MailCharacters$Writer" 101 ⟨"MailCharacters$Writer", "putLetters", "(LMailCharacters$Row;)V"⟩ ∈ gW := gW_at 718 (by decide +kernel) (by decide +kernel)
theorem k_720 : Cond.instanceMethod ⟨"MailCharacters$Writer", "putLetters", "(LMailCharacters$Row;)V"⟩ ∈ gW := gW_at 720 (by decide +kernel) (by decide +kernel)
theorem k_721 : Cond.code ⟨"MailCharacters$Writer", "putLetters", "(LMailCharacters$Row;)V"⟩ prog_12_method_17_code 3 none ∈ gW := gW_at 721 (by decide +kernel) (by decide +kernel)
theorem k_722 : Cond.methodLink "MailCharacters$Writer" 108 ⟨"MailCharacters$Bits", "has", "(I)Z"⟩ ∈ gW := gW_at 722 (by decide +kernel) (by decide +kernel)
theorem k_723 : Cond.methodLink "MailCharacters$Writer" 111 ⟨"MailCharacters$Bits", "take", "(I)I"⟩ ∈ gW := gW_at 723 (by decide +kernel) (by decide +kernel)
theorem k_724 : Cond.methodLink "MailCharacters$Writer" 114 ⟨"MailCharacters$Letters", "letterOf", "(I)I"⟩ ∈ gW := gW_at 724 (by decide +kernel) (by decide +kernel)
theorem k_725 : Cond.static ⟨"MailCharacters$Letters", "letterOf", "(I)I"⟩ ∈ gW := gW_at 725 (by decide +kernel) (by decide +kernel)
theorem k_726 : Cond.code ⟨"MailCharacters$Letters", "letterOf", "(I)I"⟩ prog_4_method_3_code 1 (some FieldType.int) ∈ gW := gW_at 726 (by decide +kernel) (by decide +kernel)
theorem k_727 : Cond.methodLink "MailCharacters$Writer" 105 ⟨"MailCharacters$Bits", "fillUp", "(I)V"⟩ ∈ gW := gW_at 727 (by decide +kernel) (by decide +kernel)
theorem k_728 : Cond.instanceMethod ⟨"MailCharacters$Bits", "fillUp", "(I)V"⟩ ∈ gW := gW_at 728 (by decide +kernel) (by decide +kernel)
theorem k_729 : Cond.selects "MailCharacters$Bits" ⟨"MailCharacters$Bits", "fillUp", "(I)V"⟩ ⟨"MailCharacters$Bits", "fillUp", "(I)V"⟩ ∈ gW := gW_at 729 (by decide +kernel) (by decide +kernel)
theorem k_730 : Cond.code ⟨"MailCharacters$Bits", "fillUp", "(I)V"⟩ prog_2_method_6_code 2 none ∈ gW := gW_at 730 (by decide +kernel) (by decide +kernel)
theorem k_731 : Cond.methodLink "MailCharacters$Bits" 16 ⟨"MailCharacters$Bits", "add", "(II)V"⟩ ∈ gW := gW_at 731 (by decide +kernel) (by decide +kernel)
theorem k_732 : Cond.methodLink "MailCharacters$Writer" 87 ⟨"MailCharacters$Writer", "writeDirectly", "(ILMailCharacters$Row;)V"⟩ ∈ gW := gW_at 732 (by decide +kernel) (by decide +kernel)
theorem k_733 : Cond.static ⟨"MailCharacters$Writer", "writeDirectly", "(ILMailCharacters$Row;)V"⟩ ∈ gW := gW_at 733 (by decide +kernel) (by decide +kernel)
theorem k_734 : Cond.code ⟨"MailCharacters$Writer", "writeDirectly", "(ILMailCharacters$Row;)V"⟩ prog_12_method_12_code 2 none ∈ gW := gW_at 734 (by decide +kernel) (by decide +kernel)
theorem k_735 : Cond.methodLink "MailCharacters$Writer" 39 ⟨"MailCharacters$Writer", "widthOf", "(II)I"⟩ ∈ gW := gW_at 735 (by decide +kernel) (by decide +kernel)
theorem k_736 : Cond.static ⟨"MailCharacters$Writer", "widthOf", "(II)I"⟩ ∈ gW := gW_at 736 (by decide +kernel) (by decide +kernel)
theorem k_737 : Cond.code ⟨"MailCharacters$Writer", "widthOf", "(II)I"⟩ prog_12_method_3_code 2 (some FieldType.int) ∈ gW := gW_at 737 (by decide +kernel) (by decide +kernel)
theorem k_738 : Cond.methodLink "MailCharacters$Writer" 47 ⟨"MailCharacters$Writer", "utf8WidthOf", "(I)I"⟩ ∈ gW := gW_at 738 (by decide +kernel) (by decide +kernel)
theorem k_739 : Cond.static ⟨"MailCharacters$Writer", "utf8WidthOf", "(I)I"⟩ ∈ gW := gW_at 739 (by decide +kernel) (by decide +kernel)
theorem k_740 : Cond.code ⟨"MailCharacters$Writer", "utf8WidthOf", "(I)I"⟩ prog_12_method_4_code 1 (some FieldType.int) ∈ gW := gW_at 740 (by decide +kernel) (by decide +kernel)
theorem k_741 : Cond.methodLink "MailCharacters$Writer" 43 ⟨"MailCharacters$Writer", "writeCharacter", "(IILMailCharacters$Row;)V"⟩ ∈ gW := gW_at 741 (by decide +kernel) (by decide +kernel)
theorem k_742 : Cond.static ⟨"MailCharacters$Writer", "writeCharacter", "(IILMailCharacters$Row;)V"⟩ ∈ gW := gW_at 742 (by decide +kernel) (by decide +kernel)
theorem k_743 : Cond.code ⟨"MailCharacters$Writer", "writeCharacter", "(IILMailCharacters$Row;)V"⟩ prog_12_method_7_code 3 none ∈ gW := gW_at 743 (by decide +kernel) (by decide +kernel)
theorem k_744 : Cond.methodLink "MailCharacters$Writer" 56 ⟨"MailCharacters$Writer", "writeUtf8", "(ILMailCharacters$Row;)V"⟩ ∈ gW := gW_at 744 (by decide +kernel) (by decide +kernel)
theorem k_745 : Cond.static ⟨"MailCharacters$Writer", "writeUtf8", "(ILMailCharacters$Row;)V"⟩ ∈ gW := gW_at 745 (by decide +kernel) (by decide +kernel)
theorem k_746 : Cond.code ⟨"MailCharacters$Writer", "writeUtf8", "(ILMailCharacters$Row;)V"⟩ prog_12_method_8_code 2 none ∈ gW := gW_at 746 (by decide +kernel) (by decide +kernel)
theorem k_747 : Cond.methodLink "MailCharacters$Writer" 60 ⟨"MailCharacters$Writer", "writeUtf16", "(IZLMailCharacters$Row;)V"⟩ ∈ gW := gW_at 747 (by decide +kernel) (by decide +kernel)
theorem k_748 : Cond.static ⟨"MailCharacters$Writer", "writeUtf16", "(IZLMailCharacters$Row;)V"⟩ ∈ gW := gW_at 748 (by decide +kernel) (by decide +kernel)
theorem k_749 : Cond.code ⟨"MailCharacters$Writer", "writeUtf16", "(IZLMailCharacters$Row;)V"⟩ prog_12_method_9_code 7 none ∈ gW := gW_at 749 (by decide +kernel) (by decide +kernel)
theorem k_750 : Cond.methodLink "MailCharacters$Writer" 64 ⟨"MailCharacters$SingleBytes", "byteOf", "(II)I"⟩ ∈ gW := gW_at 750 (by decide +kernel) (by decide +kernel)
theorem k_751 : Cond.static ⟨"MailCharacters$SingleBytes", "byteOf", "(II)I"⟩ ∈ gW := gW_at 751 (by decide +kernel) (by decide +kernel)
theorem k_752 : Cond.code ⟨"MailCharacters$SingleBytes", "byteOf", "(II)I"⟩ prog_9_method_3_code 2 (some FieldType.int) ∈ gW := gW_at 752 (by decide +kernel) (by decide +kernel)
theorem k_753 : Cond.methodLink "MailCharacters$SingleBytes" 27 ⟨"MailCharacters$SingleBytes", "latin9ByteOf", "(I)I"⟩ ∈ gW := gW_at 753 (by decide +kernel) (by decide +kernel)
theorem k_754 : Cond.static ⟨"MailCharacters$SingleBytes", "latin9ByteOf", "(I)I"⟩ ∈ gW := gW_at 754 (by decide +kernel) (by decide +kernel)
theorem k_755 : Cond.code ⟨"MailCharacters$SingleBytes", "latin9ByteOf", "(I)I"⟩ prog_9_method_5_code 2 (some FieldType.int) ∈ gW := gW_at 755 (by decide +kernel) (by decide +kernel)
theorem k_756 : Cond.methodLink "MailCharacters$SingleBytes" 30 ⟨"MailCharacters$SingleBytes", "windowsByteOf", "(I)I"⟩ ∈ gW := gW_at 756 (by decide +kernel) (by decide +kernel)
theorem k_757 : Cond.static ⟨"MailCharacters$SingleBytes", "windowsByteOf", "(I)I"⟩ ∈ gW := gW_at 757 (by decide +kernel) (by decide +kernel)
theorem k_758 : Cond.code ⟨"MailCharacters$SingleBytes", "windowsByteOf", "(I)I"⟩ prog_9_method_6_code 2 (some FieldType.int) ∈ gW := gW_at 758 (by decide +kernel) (by decide +kernel)
theorem k_759 : Cond.methodLink "MailCharacters$SingleBytes" 39 ⟨"MailCharacters$SingleBytes", "placeIn", "([II)I"⟩ ∈ gW := gW_at 759 (by decide +kernel) (by decide +kernel)
theorem k_760 : Cond.static ⟨"MailCharacters$SingleBytes", "placeIn", "([II)I"⟩ ∈ gW := gW_at 760 (by decide +kernel) (by decide +kernel)
theorem k_761 : Cond.code ⟨"MailCharacters$SingleBytes", "placeIn", "([II)I"⟩ prog_9_method_10_code 3 (some FieldType.int) ∈ gW := gW_at 761 (by decide +kernel) (by decide +kernel)
theorem k_762 : Cond.methodLink "MailCharacters$SingleBytes" 33 ⟨"MailCharacters$SingleBytes", "koiByteOf", "(I)I"⟩ ∈ gW := gW_at 762 (by decide +kernel) (by decide +kernel)
theorem k_763 : Cond.static ⟨"MailCharacters$SingleBytes", "koiByteOf", "(I)I"⟩ ∈ gW := gW_at 763 (by decide +kernel) (by decide +kernel)
theorem k_764 : Cond.code ⟨"MailCharacters$SingleBytes", "koiByteOf", "(I)I"⟩ prog_9_method_8_code 3 (some FieldType.int) ∈ gW := gW_at 764 (by decide +kernel) (by decide +kernel)
theorem k_775 : Cond.instanceMethod ⟨"MailCharacters$Coder", "codeInto", "(LMailCharacters$Row;ILMailCharacters$Row;)V"⟩ ∈ gW := gW_at 775 (by decide +kernel) (by decide +kernel)
theorem k_776 : Cond.selects "MailCharacters$Coder" ⟨"MailCharacters$Coder", "codeInto", "(LMailCharacters$Row;ILMailCharacters$Row;)V"⟩ ⟨"MailCharacters$Coder", "codeInto", "(LMailCharacters$Row;ILMailCharacters$Row;)V"⟩ ∈ gW := gW_at 776 (by decide +kernel) (by decide +kernel)
theorem k_777 : Cond.code ⟨"MailCharacters$Coder", "codeInto", "(LMailCharacters$Row;ILMailCharacters$Row;)V"⟩ prog_3_method_2_code 4 none ∈ gW := gW_at 777 (by decide +kernel) (by decide +kernel)
theorem k_778 : Cond.methodLink "MailCharacters$Coder" 22 ⟨"MailCharacters$Coder", "base", "(LMailCharacters$Row;LMailCharacters$Row;)V"⟩ ∈ gW := gW_at 778 (by decide +kernel) (by decide +kernel)
theorem k_780 : Cond.instanceMethod ⟨"MailCharacters$Coder", "base", "(LMailCharacters$Row;LMailCharacters$Row;)V"⟩ ∈ gW := gW_at 780 (by decide +kernel) (by decide +kernel)
theorem k_781 : Cond.code ⟨"MailCharacters$Coder", "base", "(LMailCharacters$Row;LMailCharacters$Row;)V"⟩ prog_3_method_3_code 5 none ∈ gW := gW_at 781 (by decide +kernel) (by decide +kernel)
theorem k_782 : Cond.methodLink "MailCharacters$Coder" 29 ⟨"MailCharacters$Bits", "clear", "()V"⟩ ∈ gW := gW_at 782 (by decide +kernel) (by decide +kernel)
theorem k_783 : Cond.methodLink "MailCharacters$Coder" 32 ⟨"MailCharacters$Row", "size", "()I"⟩ ∈ gW := gW_at 783 (by decide +kernel) (by decide +kernel)
theorem k_784 : Cond.methodLink "MailCharacters$Coder" 38 ⟨"MailCharacters$Row", "get", "(I)I"⟩ ∈ gW := gW_at 784 (by decide +kernel) (by decide +kernel)
theorem k_785 : Cond.methodLink "MailCharacters$Coder" 42 ⟨"MailCharacters$Bits", "add", "(II)V"⟩ ∈ gW := gW_at 785 (by decide +kernel) (by decide +kernel)
theorem k_786 : Cond.methodLink "MailCharacters$Coder" 46 ⟨"MailCharacters$Coder", "putLetter", "(LMailCharacters$Row;)V"⟩ ∈ gW := gW_at 786 (by decide +kernel) (by decide +kernel)
theorem k_788 : Cond.instanceMethod ⟨"MailCharacters$Coder", "putLetter", "(LMailCharacters$Row;)V"⟩ ∈ gW := gW_at 788 (by decide +kernel) (by decide +kernel)
theorem k_789 : Cond.code ⟨"MailCharacters$Coder", "putLetter", "(LMailCharacters$Row;)V"⟩ prog_3_method_4_code 2 none ∈ gW := gW_at 789 (by decide +kernel) (by decide +kernel)
theorem k_790 : Cond.methodLink "MailCharacters$Coder" 61 ⟨"MailCharacters$Coder", "endLine", "(LMailCharacters$Row;)V"⟩ ∈ gW := gW_at 790 (by decide +kernel) (by decide +kernel)
theorem k_792 : Cond.instanceMethod ⟨"MailCharacters$Coder", "endLine", "(LMailCharacters$Row;)V"⟩ ∈ gW := gW_at 792 (by decide +kernel) (by decide +kernel)
theorem k_793 : Cond.code ⟨"MailCharacters$Coder", "endLine", "(LMailCharacters$Row;)V"⟩ prog_3_method_7_code 2 none ∈ gW := gW_at 793 (by decide +kernel) (by decide +kernel)
theorem k_794 : Cond.methodLink "MailCharacters$Coder" 58 ⟨"MailCharacters$Row", "put", "(I)V"⟩ ∈ gW := gW_at 794 (by decide +kernel) (by decide +kernel)
theorem k_795 : Cond.methodLink "MailCharacters$Coder" 64 ⟨"MailCharacters$Bits", "take", "(I)I"⟩ ∈ gW := gW_at 795 (by decide +kernel) (by decide +kernel)
theorem k_796 : Cond.methodLink "MailCharacters$Coder" 67 ⟨"MailCharacters$Letters", "letterOf", "(I)I"⟩ ∈ gW := gW_at 796 (by decide +kernel) (by decide +kernel)
theorem k_797 : Cond.methodLink "MailCharacters$Coder" 50 ⟨"MailCharacters$Bits", "has", "(I)Z"⟩ ∈ gW := gW_at 797 (by decide +kernel) (by decide +kernel)
theorem k_798 : Cond.methodLink "MailCharacters$Coder" 54 ⟨"MailCharacters$Bits", "fillUp", "(I)V"⟩ ∈ gW := gW_at 798 (by decide +kernel) (by decide +kernel)
theorem k_799 : Cond.methodLink "MailCharacters$Coder" 26 ⟨"MailCharacters$Coder", "quote", "(LMailCharacters$Row;LMailCharacters$Row;)V"⟩ ∈ gW := gW_at 799 (by decide +kernel) (by decide +kernel)
theorem k_801 : Cond.instanceMethod ⟨"MailCharacters$Coder", "quote", "(LMailCharacters$Row;LMailCharacters$Row;)V"⟩ ∈ gW := gW_at 801 (by decide +kernel) (by decide +kernel)
theorem k_802 : Cond.code ⟨"MailCharacters$Coder", "quote", "(LMailCharacters$Row;LMailCharacters$Row;)V"⟩ prog_3_method_5_code 4 none ∈ gW := gW_at 802 (by decide +kernel) (by decide +kernel)
theorem k_803 : Cond.methodLink "MailCharacters$Coder" 72 ⟨"MailCharacters$Coder", "isLineEnd", "(LMailCharacters$Row;I)Z"⟩ ∈ gW := gW_at 803 (by decide +kernel) (by decide +kernel)
theorem k_804 : Cond.static ⟨"MailCharacters$Coder", "isLineEnd", "(LMailCharacters$Row;I)Z"⟩ ∈ gW := gW_at 804 (by decide +kernel) (by decide +kernel)
theorem k_805 : Cond.code ⟨"MailCharacters$Coder", "isLineEnd", "(LMailCharacters$Row;I)Z"⟩ prog_3_method_8_code 2 (some FieldType.boolean) ∈ gW := gW_at 805 (by decide +kernel) (by decide +kernel)
theorem k_806 : Cond.methodLink "MailCharacters$Coder" 76 ⟨"MailCharacters$Coder", "isItself", "(LMailCharacters$Row;I)Z"⟩ ∈ gW := gW_at 806 (by decide +kernel) (by decide +kernel)
theorem k_807 : Cond.static ⟨"MailCharacters$Coder", "isItself", "(LMailCharacters$Row;I)Z"⟩ ∈ gW := gW_at 807 (by decide +kernel) (by decide +kernel)
theorem k_808 : Cond.code ⟨"MailCharacters$Coder", "isItself", "(LMailCharacters$Row;I)Z"⟩ prog_3_method_9_code 3 (some FieldType.boolean) ∈ gW := gW_at 808 (by decide +kernel) (by decide +kernel)
theorem k_809 : Cond.methodLink "MailCharacters$Coder" 79 ⟨"MailCharacters$Coder", "quoteByte", "(IZLMailCharacters$Row;)V"⟩ ∈ gW := gW_at 809 (by decide +kernel) (by decide +kernel)
theorem k_811 : Cond.instanceMethod ⟨"MailCharacters$Coder", "quoteByte", "(IZLMailCharacters$Row;)V"⟩ ∈ gW := gW_at 811 (by decide +kernel) (by decide +kernel)
theorem k_812 : Cond.code ⟨"MailCharacters$Coder", "quoteByte", "(IZLMailCharacters$Row;)V"⟩ prog_3_method_6_code 5 none ∈ gW := gW_at 812 (by decide +kernel) (by decide +kernel)
theorem k_813 : Cond.methodLink "MailCharacters$Coder" 83 ⟨"MailCharacters$Letters", "digitOf", "(I)I"⟩ ∈ gW := gW_at 813 (by decide +kernel) (by decide +kernel)
theorem k_814 : Cond.static ⟨"MailCharacters$Letters", "digitOf", "(I)I"⟩ ∈ gW := gW_at 814 (by decide +kernel) (by decide +kernel)
theorem k_815 : Cond.code ⟨"MailCharacters$Letters", "digitOf", "(I)I"⟩ prog_4_method_5_code 1 (some FieldType.int) ∈ gW := gW_at 815 (by decide +kernel) (by decide +kernel)
theorem k_817 : Cond.methodLink "MailCharacters$Letters" 13 ⟨"java/lang/String", "charAt", "(I)C"⟩ ∈ gW := gW_at 817 (by decide +kernel) (by decide +kernel)
theorem k_1191 : Cond.fieldLink "java/lang/String" 9 "java/lang/String" "value" "[B" ∈ gW := gW_at 1191 (by decide +kernel) (by decide +kernel)
theorem k_1192 : Cond.fieldLink "java/lang/String" 15 "java/lang/String" "coder" "B" ∈ gW := gW_at 1192 (by decide +kernel) (by decide +kernel)
end
section
/-! what stays the same through the whole run: links inside the nest, text constants, static tables -/
abbrev gZT : Type := (Nat → Nat) × (Nat → Nat) × (Nat → Nat)
def gNf : List (String × Nat × String × String × String) := [("MailCharacters", 121, "MailCharacters$Word", "next", "I"), ("MailCharacters", 133, "MailCharacters$Row", "over", "Z"), ("MailCharacters", 154, "MailCharacters$Word", "charset", "I"), ("MailCharacters$Uncoder", 42, "MailCharacters$Word", "based", "Z"), ("MailCharacters$Uncoder", 48, "MailCharacters$Word", "from", "I"), ("MailCharacters$Uncoder", 52, "MailCharacters$Word", "to", "I"), ("MailCharacters$Uncoder", 93, "MailCharacters$Line", "from", "I"), ("MailCharacters$Uncoder", 94, "MailCharacters$Line", "to", "I"), ("MailCharacters$Uncoder", 99, "MailCharacters$Line", "ended", "Z")]
def gNm : List (String × Nat × MethodName) := [("MailCharacters", 24, ⟨"MailCharacters$Uncoder", "<init>", "()V"⟩), ("MailCharacters", 31, ⟨"MailCharacters$Coder", "<init>", "()V"⟩), ("MailCharacters", 38, ⟨"MailCharacters$Reader", "<init>", "()V"⟩), ("MailCharacters", 45, ⟨"MailCharacters$Writer", "<init>", "()V"⟩), ("MailCharacters", 52, ⟨"MailCharacters$Word", "<init>", "()V"⟩), ("MailCharacters$Coder", 11, ⟨"MailCharacters$Bits", "<init>", "()V"⟩), ("MailCharacters$Reader", 11, ⟨"MailCharacters$Bits", "<init>", "()V"⟩), ("MailCharacters$Uncoder", 11, ⟨"MailCharacters$Bits", "<init>", "()V"⟩), ("MailCharacters$Uncoder", 20, ⟨"MailCharacters$Line", "<init>", "()V"⟩), ("MailCharacters$Writer", 11, ⟨"MailCharacters$Bits", "<init>", "()V"⟩)]
def gnS : Nat := 18
def gOwn : List String := ["MailCharacters", "MailCharacters", "MailCharacters", "MailCharacters", "MailCharacters$Letters", "MailCharacters$Names", "MailCharacters$Names", "MailCharacters$Names", "MailCharacters$Names", "MailCharacters$Names", "MailCharacters$Names", "MailCharacters$Names", "MailCharacters$Names", "MailCharacters$Names", "MailCharacters$Names", "MailCharacters$Names", "MailCharacters$Uncoder", "MailCharacters$Uncoder"]
def gIx : List Nat := [88, 104, 128, 139, 11, 19, 21, 23, 25, 27, 29, 31, 33, 35, 37, 39, 108, 123]
def gTx : List String := ["no such coding", "no such charset", "not a coding to be made", "more bytes than the tape takes", "0123456789ABCDEF", "us-ascii ascii iso646-us ansi_x3.4-1968 cp367 ", "iso-8859-1 iso8859-1 latin1 l1 cp819 ", "iso-8859-15 iso8859-15 latin9 latin-9 ", "windows-1252 cp1252 x-cp1252 ", "utf-8 utf8 ", "utf-16 utf16 ", "utf-16be ", "utf-16le ", "koi8-r koi8r ", "utf-7 utf7 ", "", "begin ", "end"]
def gLen : List Nat := [14, 15, 23, 30, 16, 46, 37, 38, 29, 11, 13, 9, 9, 13, 11, 0, 6, 3]
def gByt : List (List Int32) := [[110, 111, 32, 115, 117, 99, 104, 32, 99, 111, 100, 105, 110, 103], [110, 111, 32, 115, 117, 99, 104, 32, 99, 104, 97, 114, 115, 101, 116], [110, 111, 116, 32, 97, 32, 99, 111, 100, 105, 110, 103, 32, 116, 111, 32, 98, 101, 32, 109, 97, 100, 101], [109, 111, 114, 101, 32, 98, 121, 116, 101, 115, 32, 116, 104, 97, 110, 32, 116, 104, 101, 32, 116, 97, 112, 101, 32, 116, 97, 107, 101, 115], [48, 49, 50, 51, 52, 53, 54, 55, 56, 57, 65, 66, 67, 68, 69, 70], [117, 115, 45, 97, 115, 99, 105, 105, 32, 97, 115, 99, 105, 105, 32, 105, 115, 111, 54, 52, 54, 45, 117, 115, 32, 97, 110, 115, 105, 95, 120, 51, 46, 52, 45, 49, 57, 54, 56, 32, 99, 112, 51, 54, 55, 32], [105, 115, 111, 45, 56, 56, 53, 57, 45, 49, 32, 105, 115, 111, 56, 56, 53, 57, 45, 49, 32, 108, 97, 116, 105, 110, 49, 32, 108, 49, 32, 99, 112, 56, 49, 57, 32], [105, 115, 111, 45, 56, 56, 53, 57, 45, 49, 53, 32, 105, 115, 111, 56, 56, 53, 57, 45, 49, 53, 32, 108, 97, 116, 105, 110, 57, 32, 108, 97, 116, 105, 110, 45, 57, 32], [119, 105, 110, 100, 111, 119, 115, 45, 49, 50, 53, 50, 32, 99, 112, 49, 50, 53, 50, 32, 120, 45, 99, 112, 49, 50, 53, 50, 32], [117, 116, 102, 45, 56, 32, 117, 116, 102, 56, 32], [117, 116, 102, 45, 49, 54, 32, 117, 116, 102, 49, 54, 32], [117, 116, 102, 45, 49, 54, 98, 101, 32], [117, 116, 102, 45, 49, 54, 108, 101, 32], [107, 111, 105, 56, 45, 114, 32, 107, 111, 105, 56, 114, 32], [117, 116, 102, 45, 55, 32, 117, 116, 102, 55, 32], [], [98, 101, 103, 105, 110, 32], [101, 110, 100]]
def gnT : Nat := 3
def gTn : List String := ["LATIN9_PAIRS", "WINDOWS_ROW", "KOI_ROW"]
def gTab : List (List Int32) := [[164, 8364, 166, 352, 168, 353, 180, 381, 184, 382, 188, 338, 189, 339, 190, 376], [8364, 65533, 8218, 402, 8222, 8230, 8224, 8225, 710, 8240, 352, 8249, 338, 65533, 381, 65533, 65533, 8216, 8217, 8220, 8221, 8226, 8211, 8212, 732, 8482, 353, 8250, 339, 65533, 382, 376], [1102, 1072, 1073, 1094, 1076, 1077, 1092, 1075, 1093, 1080, 1081, 1082, 1083, 1084, 1085, 1086, 1087, 1103, 1088, 1089, 1090, 1091, 1078, 1074, 1100, 1099, 1079, 1096, 1101, 1097, 1095, 1098]]
def tN (t : Nat) : Nat := (gTab.getD t []).length
def tF (t j : Nat) : Int32 := (gTab.getD t []).getD j 0
def m_String_length (s : Nat) : Int32 := nI (gLen.getD s 0)
def m_String_charAt (s : Nat) (k : Int32) : Int32 := ((gByt.getD s []).getD k.toNatClampNeg 0) &&& 255
theorem gT_small {t : Nat} (h : t < gnT) : tN t < 2 ^ 31 := by
  have h : t < 3 := h
  rcases (show t = 0 ∨ t = 1 ∨ t = 2 by omega) with rfl | rfl | rfl <;> decide
/-! Throwable's two statics: words that the library's law of a throw asks, in a form that can be carried -/
def gTh (n d : String) (A : Nat → Prop) (U : State) (H : Heap) : Prop := ∃ (c : ClassId) (k : Class) (i : Nat) (f : Field) (a : Nat) (cell : Cell) (v : Value), U.vm.findClass "java/lang/Throwable" = some c ∧ U.fieldFound? "java/lang/Throwable" n d = some (c, k, i, f) ∧ f.isStatic = true ∧ k.statics = some a ∧ H[a]? = some cell ∧ cell.vm.isStatics = true ∧ cell.cls = c ∧ f.slot < cell.slots.size ∧ k.staticTypes[f.slot]? = some f.type ∧ cell.slots[f.slot]? = some v ∧ (v = .null ∨ ∃ x, v = .ref x) ∧ ¬ A a
theorem gTh.moved {n d : String} {A : Nat → Prop} {u U : State} {H : Heap} (hvm : u.vm.Alike U.vm) (h : gTh n d A u H) : gTh n d A U H := by
  obtain ⟨c, k, i, f, a, cell, v, h0, h1, h2, h3, h4, h5, h6, h7, h8, h9⟩ := h
  obtain ⟨k', hi', he⟩ := State.fieldFound?_setVm hvm h1
  exact ⟨c, k', i, f, a, cell, v, by rw [hvm.findClass]; exact h0, hi', h2, by rw [he]; exact h3, h4, h5, h6, h7, by rw [he]; exact h8, h9⟩
theorem gTh.kept {n d : String} {A : Nat → Prop} {U : State} {H H1 : Heap} (h : gTh n d A U H) (hq : ∀ a : Nat, a < H.size → ¬ A a → H1[a]? = H[a]?) : gTh n d A U H1 := by
  obtain ⟨c, k, i, f, a, cell, v, h0, h1, h2, h3, h4, h5, h6, h7, h8, h9, h10, h11⟩ := h
  exact ⟨c, k, i, f, a, cell, v, h0, h1, h2, h3, by rw [hq a (Array.getElem?_eq_some_iff.mp h4).1 h11]; exact h4, h5, h6, h7, h8, h9, h10, h11⟩
theorem gTh.narrow {n d : String} {A B : Nat → Prop} {U : State} {H : Heap} (h : gTh n d A U H) (hAB : ∀ q, B q → A q) : gTh n d B U H := by
  obtain ⟨c, k, i, f, a, cell, v, h0, h1, h2, h3, h4, h5, h6, h7, h8, h9, h10, h11⟩ := h
  exact ⟨c, k, i, f, a, cell, v, h0, h1, h2, h3, h4, h5, h6, h7, h8, h9, h10, fun z => h11 (hAB a z)⟩
theorem gTh.lays {n d : String} {A : Nat → Prop} {U : State} {args : Array Value} (h : gTh n d A U U.heap) : (Cond.laysStatic "java/lang/Throwable" n d).before args U = true := by
  obtain ⟨c, k, i, f, a, cell, v, h0, h1, h2, h3, h4, h5, h6, h7, h8, h9, h10, h11⟩ := h
  simp [Cond.before, Cond.holds, Cond.value, h0, h1, h2, h3, h4, h5, h6, h7, h8]
theorem gTh.isRef {n d : String} {A : Nat → Prop} {U : State} {args : Array Value} (h : gTh n d A U U.heap) : (Cond.isRef (.static "java/lang/Throwable" n d)).before args U = true := by
  obtain ⟨c, k, i, f, a, cell, v, h0, h1, h2, h3, h4, h5, h6, h7, h8, h9, h10, h11⟩ := h
  have hv : (Term.static "java/lang/Throwable" n d).eval args U none [] U = some v := Term.static_eval h1 h2 h3 h4 h5 h9
  rcases h10 with rfl | ⟨x, rfl⟩ <;> simp [Cond.before, Cond.holds, Cond.value, hv]
def gDx : List MethodName := [⟨"java/lang/RuntimeException", "<init>", "(Ljava/lang/String;)V"⟩, ⟨"java/lang/Exception", "<init>", "(Ljava/lang/String;)V"⟩, ⟨"java/lang/Throwable", "<init>", "(Ljava/lang/String;)V"⟩]
def gCx : List String := ["java/lang/IllegalArgumentException", "java/lang/IllegalStateException"]
/-- what a throw needs beside the words of gW -/
def gZx (A : Nat → Prop) (U : State) (H : Heap) : Prop := (∀ x ∈ gDx, va_Nw (.declares x) U) ∧ (∀ x ∈ gCx, va_Nw (.castable x x) U) ∧ gTh "UNASSIGNED_STACK" "[Ljava/lang/StackTraceElement;" A U H ∧ gTh "SUPPRESSED_SENTINEL" "Ljava/util/List;" A U H
theorem gZx.same {A : Nat → Prop} {u U : State} {H : Heap} (hv : u.vm = U.vm) (h : gZx A u H) : gZx A U H := by
  have hm : u.vm.Alike U.vm := by rw [hv]; exact Vm.Alike.refl _
  exact ⟨fun q hq => va_Nw.same rfl hv (h.1 q hq), fun q hq => va_Nw.same rfl hv (h.2.1 q hq), h.2.2.1.moved hm, h.2.2.2.moved hm⟩
theorem gZx.warm {A : Nat → Prop} {u U : State} {H : Heap} (hW : u.WarmedH U.vm) (h : gZx A u H) : gZx A U H :=
  ⟨fun q hq => va_Nw.warmD hW (h.1 q hq), fun q hq => va_Nw.warmC hW (h.2.1 q hq), h.2.2.1.moved hW.alike, h.2.2.2.moved hW.alike⟩
theorem gZx.kept {A : Nat → Prop} {U : State} {H H1 : Heap} (h : gZx A U H) (hq : ∀ a : Nat, a < H.size → ¬ A a → H1[a]? = H[a]?) : gZx A U H1 := ⟨h.1, h.2.1, h.2.2.1.kept hq, h.2.2.2.kept hq⟩
theorem gZx.narrow {A B : Nat → Prop} {U : State} {H : Heap} (h : gZx A U H) (hAB : ∀ q, B q → A q) : gZx B U H := ⟨h.1, h.2.1, h.2.2.1.narrow hAB, h.2.2.2.narrow hAB⟩
def gZ (Z : gZT) (A : Nat → Prop) (U : State) (H : Heap) : Prop :=
  (∀ q ∈ gNf, va_Nw (.fieldLinkNest q.1 q.2.1 q.2.2.1 q.2.2.2.1 q.2.2.2.2 "MailCharacters") U) ∧ (∀ q ∈ gNm, va_Nw (.methodLinkNest q.1 q.2.1 q.2.2 "MailCharacters") U) ∧
  vk_S gnS gLen gByt Z.1 Z.2.1 A U H ∧ (∀ i, i < gnS → vk_R (gOwn.getD i "") (gIx.getD i 0) (gTx.getD i "") (Z.1 i) U) ∧
  (∀ t, t < gnT → va_Z "MailCharacters$SingleBytes" (gTn.getD t "") "[I" (.ref (Z.2.2 t)) A U H ∧ va_T .int (Z.2.2 t) (tN t) (fun j => .int (tF t j)) A U H) ∧
  va_Z "java/lang/String" "COMPACT_STRINGS" "Z" (.int 1) A U H ∧ va_Zq "jdk/internal/util/Preconditions" "SIOOBE_FORMATTER" "Ljava/util/function/BiFunction;" A U H ∧ gZx A U H
theorem gZ.same {Z : gZT} {A : Nat → Prop} {u U : State} {H : Heap} (hv : u.vm = U.vm) (h : gZ Z A u H) : gZ Z A U H := by
  obtain ⟨h1, h2, h3, h4, h5, h6, h7, h8⟩ := h
  have hm : u.vm.Alike U.vm := by rw [hv]; exact Vm.Alike.refl _
  exact ⟨fun q hq => va_Nw.same rfl hv (h1 q hq), fun q hq => va_Nw.same rfl hv (h2 q hq), h3.moved hm, fun i hi => (h4 i hi).same hv.symm, fun t ht => ⟨(h5 t ht).1.moved hm, (h5 t ht).2.moved hm⟩, h6.moved hm, h7.moved hm, h8.same hv⟩
theorem gZ.warm {Z : gZT} {A : Nat → Prop} {u U : State} {H : Heap} (hW : u.WarmedH U.vm) (h : gZ Z A u H) : gZ Z A U H := by
  obtain ⟨h1, h2, h3, h4, h5, h6, h7, h8⟩ := h
  exact ⟨fun q hq => va_Nw.warmF hW (h1 q hq), fun q hq => va_Nw.warmM hW (h2 q hq), h3.moved hW.alike, fun i hi => (h4 i hi).warm hW, fun t ht => ⟨(h5 t ht).1.moved hW.alike, (h5 t ht).2.moved hW.alike⟩, h6.moved hW.alike, h7.moved hW.alike, h8.warm hW⟩
theorem gZ.kept {Z : gZT} {A : Nat → Prop} {U : State} {H H1 : Heap} (h : gZ Z A U H) (hq : ∀ a : Nat, a < H.size → ¬ A a → H1[a]? = H[a]?) : gZ Z A U H1 := by
  obtain ⟨h1, h2, h3, h4, h5, h6, h7, h8⟩ := h
  exact ⟨h1, h2, h3.kept hq, h4, fun t ht => ⟨(h5 t ht).1.kept hq, (h5 t ht).2.kept hq⟩, h6.kept hq, h7.kept hq, h8.kept hq⟩
theorem gZ.narrow {Z : gZT} {A B : Nat → Prop} {U : State} {H : Heap} (h : gZ Z A U H) (hAB : ∀ q, B q → A q) : gZ Z B U H := by
  obtain ⟨h1, h2, h3, h4, h5, h6, h7, h8⟩ := h
  exact ⟨h1, h2, h3.narrow hAB, h4, fun t ht => ⟨(h5 t ht).1.narrow hAB, (h5 t ht).2.narrow hAB⟩, h6.narrow hAB, h7.narrow hAB, h8.narrow hAB⟩
theorem gZ_nf {Z : gZT} {A : Nat → Prop} {U : State} {H : Heap} {args : Array Value} (h : gZ Z A U H) (i : Nat) {q : String × Nat × String × String × String} (hq : gNf[i]? = some q) : (Cond.fieldLinkNest q.1 q.2.1 q.2.2.1 q.2.2.2.1 q.2.2.2.2 "MailCharacters").before args U = true := va_Nw.use rfl (h.1 q (List.mem_of_getElem? hq))
theorem gZ_nm {Z : gZT} {A : Nat → Prop} {U : State} {H : Heap} (h : gZ Z A U H) (i : Nat) {q : String × Nat × MethodName} (hq : gNm[i]? = some q) : va_Nw (.methodLinkNest q.1 q.2.1 q.2.2 "MailCharacters") U := h.2.1 q (List.mem_of_getElem? hq)
theorem gZ_str {Z : gZT} {A : Nat → Prop} {U : State} {H : Heap} (h : gZ Z A U H) : vk_S gnS gLen gByt Z.1 Z.2.1 A U H := h.2.2.1
theorem gZ_lit {Z : gZT} {A : Nat → Prop} {U : State} {H : Heap} (h : gZ Z A U H) {i : Nat} (hi : i < gnS) : vk_R (gOwn.getD i "") (gIx.getD i 0) (gTx.getD i "") (Z.1 i) U := h.2.2.2.1 i hi
theorem gZ_st {Z : gZT} {A : Nat → Prop} {U : State} {H : Heap} (h : gZ Z A U H) {t : Nat} (ht : t < gnT) : va_Z "MailCharacters$SingleBytes" (gTn.getD t "") "[I" (.ref (Z.2.2 t)) A U H := (h.2.2.2.2.1 t ht).1
theorem gZ_st0 {Z : gZT} {A : Nat → Prop} {U : State} {H : Heap} (h : gZ Z A U H) : va_Z "MailCharacters$SingleBytes" "LATIN9_PAIRS" "[I" (.ref (Z.2.2 0)) A U H := gZ_st h (t := 0) (by decide)
theorem gZ_st1 {Z : gZT} {A : Nat → Prop} {U : State} {H : Heap} (h : gZ Z A U H) : va_Z "MailCharacters$SingleBytes" "WINDOWS_ROW" "[I" (.ref (Z.2.2 1)) A U H := gZ_st h (t := 1) (by decide)
theorem gZ_st2 {Z : gZT} {A : Nat → Prop} {U : State} {H : Heap} (h : gZ Z A U H) : va_Z "MailCharacters$SingleBytes" "KOI_ROW" "[I" (.ref (Z.2.2 2)) A U H := gZ_st h (t := 2) (by decide)
theorem gZ_tab {Z : gZT} {A : Nat → Prop} {U : State} {H : Heap} (h : gZ Z A U H) {t : Nat} (ht : t < gnT) : va_T .int (Z.2.2 t) (tN t) (fun j => .int (tF t j)) A U H := (h.2.2.2.2.1 t ht).2
theorem gZ_cs {Z : gZT} {A : Nat → Prop} {U : State} {H : Heap} (h : gZ Z A U H) : va_Z "java/lang/String" "COMPACT_STRINGS" "Z" (.int 1) A U H := h.2.2.2.2.2.1
theorem gZ_recv {Z : gZT} {A : Nat → Prop} {s : State} {H : Heap} {locs : List Loc} {i : Nat} (h : gZ Z A s s.heap) (hS : va_S A s.heap H locs) (hi : i < gnS) : ∃ cell : Cell, H[Z.1 i]? = some cell ∧ cell.vm.isStatics = false ∧ s.vm.findClass "java/lang/String" = some cell.cls := vk_recv (gZ_str h) hi hS
theorem gZ_fm {Z : gZT} {A : Nat → Prop} {U : State} {H : Heap} (h : gZ Z A U H) : va_Zq "jdk/internal/util/Preconditions" "SIOOBE_FORMATTER" "Ljava/util/function/BiFunction;" A U H := h.2.2.2.2.2.2.1
theorem gZ_x {Z : gZT} {A : Nat → Prop} {U : State} {H : Heap} (h : gZ Z A U H) : gZx A U H := h.2.2.2.2.2.2.2
theorem gS_small {i : Nat} (h : i < gnS) : gLen.getD i 0 < 2 ^ 31 := by
  revert h
  revert i
  decide
end
section
/-! G: one form for all contracts: a start gP, an end gB, a rule for a body (g_of..), a rule for a call (g_V.., g_S..). A contract's mirror function says what it answers. -/
/-- a row of numbers: the array f holds the list l -/
def g_rw (n : Nat) (f : Nat → Int32) (l : List Int32) : Prop := l.length ≤ n ∧ n ≤ 3000 ∧ ∀ i, i < l.length → f i = l.getD i 0
abbrev gTys (kI : ClassId) : List (ClassId × FieldType) := [(kI, .int)]
def gP (D : va_G) (Z : gZT) (kI : ClassId) (av : List Value) (sz : Nat) (ws : va_W) : Array Value → State → Prop :=
  va_Pc av (fun U => U.heap.size = sz ∧ va_P D vwCl ws U.heap ∧ va_K D vwCl (gTys kI) U ∧ va_D (fun _ => True) ws ∧ gZ Z (va_A ws sz) U U.heap)
def gB {S : Type} (D : va_G) (A : Nat → Prop) (wo : S → va_W) : S → State → Prop := fun u t => va_P D vwCl (wo u) t.heap ∧ va_D A (wo u)
abbrev gMi {S : Type} (l : Launch) (y : MethodName) (w : List Cond) (rm : Room) (D : va_G) (Z : gZT) (kI : ClassId) (av : List Value) (sz : Nat) (ws : va_W) (post : Int32 → S → Prop) (wo : S → va_W) : Prop :=
  Met l y w rm (gP D Z kI av sz ws) (va_Qi post (gB D (va_A ws sz) wo) (va_A ws sz)) 0 0 (va_A ws sz)
abbrev gMv {S : Type} (l : Launch) (y : MethodName) (w : List Cond) (rm : Room) (D : va_G) (Z : gZT) (kI : ClassId) (av : List Value) (sz : Nat) (ws : va_W) (post : S → Prop) (wo : S → va_W) : Prop :=
  Met l y w rm (gP D Z kI av sz ws) (va_Qv post (gB D (va_A ws sz) wo) (va_A ws sz)) 0 0 (va_A ws sz)
theorem g_fm {α : Type} {ws : List α} : ∀ (is : List Nat) (wc : List α), is.map (fun i => ws[i]?) = wc.map some → is.filterMap (fun i => ws[i]?) = wc := by
  intro is
  induction is with
  | nil => intro wc h; cases wc with
    | nil => rfl
    | cons a b => simp at h
  | cons i is ih => intro wc h; cases wc with
    | nil => simp at h
    | cons a b =>
      simp only [List.map_cons, List.cons.injEq] at h
      rw [List.filterMap_cons, h.1]
      simp only [ih b h.2]
theorem gP_blind {D : va_G} {Z : gZT} {kI : ClassId} {av : List Value} {sz : Nat} {ws : va_W} : FrameBlind (gP D Z kI av sz ws) := by
  intro a U g mk q
  obtain ⟨q0, q1, qP, qK, qD, qZ⟩ := q
  exact ⟨q0, q1, qP, va_K.moved (u := U) (U := U.calling g mk a) (Vm.Alike.refl U.vm) qK, qD, qZ.same rfl⟩
section GCalls
variable {p : Program} {l : Launch} {e : Env} {R : Room} {s : State} {m : MethodId} {args : Array Value} {below : List Frame} {meth : Method} {c : Code} {H : Heap} {locs : List Loc} {cells slots : Nat} {Q : State → Prop} {cc : ByteArray} {pc : Nat} {ls : Array Slot} {D : va_G} {Z : gZT} {kI : ClassId} {A : Nat → Prop}
theorem g_recv {a q0 ci : Nat} {q : vw_C} {fs : List Value} {ws : va_W} (hK : va_K D vwCl (gTys kI) s) (hP : va_P D vwCl ws H) (hc : vwCl[ci]? = some q) (he : ws[q0]? = some (a, .inr (ci, fs))) : ∃ cell : Cell, H[a]? = some cell ∧ cell.vm.isStatics = false ∧ s.vm.findClass q.1 = some cell.cls := va_recv hK hP hc he
/-- a callee's start out of the caller's world -/
theorem g_pre {ws wc : va_W} {av : List Value} (hK : va_K D vwCl (gTys kI) s) (hZ : gZ Z A s s.heap) (hP : va_P D vwCl ws H) (hD : va_D A ws) (hS : va_S A s.heap H locs) (hA : ∀ q, s.heap.size ≤ q → A q) (isC : List Nat) (hC : isC.map (fun i => ws[i]?) = wc.map some) (hnC : va_nd isC = true) :
    ∀ U : State, U.heap = H → s.WarmedH U.vm → gP D Z kI av H.size wc av.toArray U := by
  intro U hU hW
  have hF := va_free (wc := wc) hD hS hA isC hC
  exact ⟨rfl, by rw [hU], by rw [hU]; exact hP.sub isC (g_fm isC wc hC), va_K.moved hW.alike hK, (hD.sub isC hnC hC).weaken (fun _ _ _ _ => trivial), by
    rw [hU]
    exact ((hZ.kept hS.2.1).narrow hF).warm hW⟩
theorem g_run_i {S : Type} {post : Int32 → S → Prop} {wo : S → va_W} {ws wc wr : va_W} {rest st0 : List Value} {a : Array Value} (hP : va_P D vwCl ws H) (hD : va_D A ws) (hS : va_S A s.heap H locs) (hA : ∀ q, s.heap.size ≤ q → A q) (isC isR : List Nat) (hC : isC.map (fun i => ws[i]?) = wc.map some) (hR : isR.map (fun i => ws[i]?) = wr.map some) (hn : va_nd isR = true) (hdis : ∀ i ∈ isR, i ∉ isC)
    (hr : va_Run p l e R s m args below meth c H locs cells slots 0 0 (F0 m pc ls st0) rest (va_Qi post (gB D (va_A wc H.size) wo) (va_A wc H.size) a) (va_A wc H.size))
    (kk : ∀ (r : Int32) (u : S) (H1 : Heap) (locs1 : List Loc), post r u → va_P D vwCl (wr ++ wo u) H1 → va_D A (wr ++ wo u) → va_S A s.heap H1 locs1 → W p l e R s m args below meth c H1 locs1 cells slots Q (F0 m (pc + 3) ls (.int r :: rest))) : W p l e R s m args below meth c H locs cells slots Q (F0 m pc ls st0) := by
  have hF := va_free (wc := wc) hD hS hA isC hC
  refine va_calli hr hS (fun q _ h => hF q h) hF (fun r u t H1 locs1 ht hvm hw hB hz1 hk1 hS1 => ?_)
  obtain ⟨hP1, hD1⟩ := hB
  rw [ht] at hP1
  obtain ⟨hP2, hD2⟩ := va_join hP hD isC isR hC hR hn hdis hk1 hF hP1 hD1
  exact kk r u H1 locs1 hw hP2 hD2 hS1
theorem g_run_v {S : Type} {post : S → Prop} {wo : S → va_W} {ws wc wr : va_W} {rest st0 : List Value} {a : Array Value} (hP : va_P D vwCl ws H) (hD : va_D A ws) (hS : va_S A s.heap H locs) (hA : ∀ q, s.heap.size ≤ q → A q) (isC isR : List Nat) (hC : isC.map (fun i => ws[i]?) = wc.map some) (hR : isR.map (fun i => ws[i]?) = wr.map some) (hn : va_nd isR = true) (hdis : ∀ i ∈ isR, i ∉ isC)
    (hr : va_Run p l e R s m args below meth c H locs cells slots 0 0 (F0 m pc ls st0) rest (va_Qv post (gB D (va_A wc H.size) wo) (va_A wc H.size) a) (va_A wc H.size))
    (kk : ∀ (u : S) (H1 : Heap) (locs1 : List Loc), post u → va_P D vwCl (wr ++ wo u) H1 → va_D A (wr ++ wo u) → va_S A s.heap H1 locs1 → W p l e R s m args below meth c H1 locs1 cells slots Q (F0 m (pc + 3) ls rest)) : W p l e R s m args below meth c H locs cells slots Q (F0 m pc ls st0) := by
  have hF := va_free (wc := wc) hD hS hA isC hC
  refine va_callv hr hS (fun q _ h => hF q h) hF (fun u t H1 locs1 ht hvm hw hB hz1 hk1 hS1 => ?_)
  obtain ⟨hP1, hD1⟩ := hB
  rw [ht] at hP1
  obtain ⟨hP2, hD2⟩ := va_join hP hD isC isR hC hR hn hdis hk1 hF hP1 hD1
  exact kk u H1 locs1 hw hP2 hD2 hS1
variable {y : MethodName} {wy : List Cond} {rm : Room} {bytes : ByteArray} {maxL nL n index : Nat} {ret : Option FieldType} {Ts : List Cond} {own C : String} {b : Nat} {As rest st0 : List Value} {ws wc wr : va_W}
theorem g_Vi {S : Type} {post : Int32 → S → Prop} {wo : S → va_W} (F : CallFix p m c cc nL s args Ts own) (hM : gMi l y wy rm D Z kI (.ref b :: As) H.size wc post wo) (cw : CallW R s args own C index y bytes maxL ret wy rm 0 0 n) (hK : va_K D vwCl (gTys kI) s) (hZ : gZ Z A s s.heap) (hP : va_P D vwCl ws H) (hD : va_D A ws) (hS : va_S A s.heap H locs) (hA : ∀ q, s.heap.size ≤ q → A q) (isC isR : List Nat)
    (hrc : ∃ cell : Cell, H[b]? = some cell ∧ cell.vm.isStatics = false ∧ s.vm.findClass C = some cell.cls) (hC : isC.map (fun i => ws[i]?) = wc.map some) (hR : isR.map (fun i => ws[i]?) = wr.map some) (hnC : va_nd isC = true) (hn : va_nd isR = true) (hdis : ∀ i ∈ isR, i ∉ isC) (hln : As.length = n) (hsize : ls.size = nL) (hst : st0 = As.reverse ++ .ref b :: rest) (hW : (rest.map fun v => v.category).sum ≤ 8) (hdg : decode cc pc = .ok (.invokevirtual index, 3)) (hf : cells ≤ R.cells ∧ slots ≤ R.slots)
    (kk : ∀ (r : Int32) (u : S) (H1 : Heap) (locs1 : List Loc), post r u → va_P D vwCl (wr ++ wo u) H1 → va_D A (wr ++ wo u) → va_S A s.heap H1 locs1 → W p l e R s m args below meth c H1 locs1 cells slots Q (F0 m (pc + 3) ls (.int r :: rest))) : W p l e R s m args below meth c H locs cells slots Q (F0 m pc ls st0) :=
  g_run_i hP hD hS hA isC isR hC hR hn hdis (va_runV (g := F0 m pc ls st0) F hM cw ⟨gP_blind, hrc, g_pre hK hZ hP hD hS hA isC hC hnC⟩ rfl hln hsize hst (lv_room hW) hdg hf) kk
theorem g_Vv {S : Type} {post : S → Prop} {wo : S → va_W} (F : CallFix p m c cc nL s args Ts own) (hM : gMv l y wy rm D Z kI (.ref b :: As) H.size wc post wo) (cw : CallW R s args own C index y bytes maxL ret wy rm 0 0 n) (hK : va_K D vwCl (gTys kI) s) (hZ : gZ Z A s s.heap) (hP : va_P D vwCl ws H) (hD : va_D A ws) (hS : va_S A s.heap H locs) (hA : ∀ q, s.heap.size ≤ q → A q) (isC isR : List Nat)
    (hrc : ∃ cell : Cell, H[b]? = some cell ∧ cell.vm.isStatics = false ∧ s.vm.findClass C = some cell.cls) (hC : isC.map (fun i => ws[i]?) = wc.map some) (hR : isR.map (fun i => ws[i]?) = wr.map some) (hnC : va_nd isC = true) (hn : va_nd isR = true) (hdis : ∀ i ∈ isR, i ∉ isC) (hln : As.length = n) (hsize : ls.size = nL) (hst : st0 = As.reverse ++ .ref b :: rest) (hW : (rest.map fun v => v.category).sum ≤ 8) (hdg : decode cc pc = .ok (.invokevirtual index, 3)) (hf : cells ≤ R.cells ∧ slots ≤ R.slots)
    (kk : ∀ (u : S) (H1 : Heap) (locs1 : List Loc), post u → va_P D vwCl (wr ++ wo u) H1 → va_D A (wr ++ wo u) → va_S A s.heap H1 locs1 → W p l e R s m args below meth c H1 locs1 cells slots Q (F0 m (pc + 3) ls rest)) : W p l e R s m args below meth c H locs cells slots Q (F0 m pc ls st0) :=
  g_run_v hP hD hS hA isC isR hC hR hn hdis (va_runV (g := F0 m pc ls st0) F hM cw ⟨gP_blind, hrc, g_pre hK hZ hP hD hS hA isC hC hnC⟩ rfl hln hsize hst (lv_room hW) hdg hf) kk
theorem g_Si {S : Type} {post : Int32 → S → Prop} {wo : S → va_W} (F : CallFix p m c cc nL s args Ts own) (hM : gMi l y wy rm D Z kI As H.size wc post wo) (cw : CallB R s args own index y bytes maxL ret wy rm 0 0 n ∧ (Cond.static y).before args s = true) (hK : va_K D vwCl (gTys kI) s) (hZ : gZ Z A s s.heap) (hP : va_P D vwCl ws H) (hD : va_D A ws) (hS : va_S A s.heap H locs) (hA : ∀ q, s.heap.size ≤ q → A q) (isC isR : List Nat)
    (hC : isC.map (fun i => ws[i]?) = wc.map some) (hR : isR.map (fun i => ws[i]?) = wr.map some) (hnC : va_nd isC = true) (hn : va_nd isR = true) (hdis : ∀ i ∈ isR, i ∉ isC) (hln : As.length = n) (hsize : ls.size = nL) (hst : st0 = As.reverse ++ rest) (hW : (rest.map fun v => v.category).sum ≤ 8) (hdg : decode cc pc = .ok (.invokestatic index, 3)) (hf : cells ≤ R.cells ∧ slots ≤ R.slots)
    (kk : ∀ (r : Int32) (u : S) (H1 : Heap) (locs1 : List Loc), post r u → va_P D vwCl (wr ++ wo u) H1 → va_D A (wr ++ wo u) → va_S A s.heap H1 locs1 → W p l e R s m args below meth c H1 locs1 cells slots Q (F0 m (pc + 3) ls (.int r :: rest))) : W p l e R s m args below meth c H locs cells slots Q (F0 m pc ls st0) :=
  g_run_i hP hD hS hA isC isR hC hR hn hdis (va_runS (g := F0 m pc ls st0) F hM cw ⟨gP_blind, g_pre hK hZ hP hD hS hA isC hC hnC⟩ rfl hln hsize hst (lv_room hW) hdg hf) kk
theorem g_Sv {S : Type} {post : S → Prop} {wo : S → va_W} (F : CallFix p m c cc nL s args Ts own) (hM : gMv l y wy rm D Z kI As H.size wc post wo) (cw : CallB R s args own index y bytes maxL ret wy rm 0 0 n ∧ (Cond.static y).before args s = true) (hK : va_K D vwCl (gTys kI) s) (hZ : gZ Z A s s.heap) (hP : va_P D vwCl ws H) (hD : va_D A ws) (hS : va_S A s.heap H locs) (hA : ∀ q, s.heap.size ≤ q → A q) (isC isR : List Nat)
    (hC : isC.map (fun i => ws[i]?) = wc.map some) (hR : isR.map (fun i => ws[i]?) = wr.map some) (hnC : va_nd isC = true) (hn : va_nd isR = true) (hdis : ∀ i ∈ isR, i ∉ isC) (hln : As.length = n) (hsize : ls.size = nL) (hst : st0 = As.reverse ++ rest) (hW : (rest.map fun v => v.category).sum ≤ 8) (hdg : decode cc pc = .ok (.invokestatic index, 3)) (hf : cells ≤ R.cells ∧ slots ≤ R.slots)
    (kk : ∀ (u : S) (H1 : Heap) (locs1 : List Loc), post u → va_P D vwCl (wr ++ wo u) H1 → va_D A (wr ++ wo u) → va_S A s.heap H1 locs1 → W p l e R s m args below meth c H1 locs1 cells slots Q (F0 m (pc + 3) ls rest)) : W p l e R s m args below meth c H locs cells slots Q (F0 m pc ls st0) :=
  g_run_v hP hD hS hA isC isR hC hR hn hdis (va_runS (g := F0 m pc ls st0) F hM cw ⟨gP_blind, g_pre hK hZ hP hD hS hA isC hC hnC⟩ rfl hln hsize hst (lv_room hW) hdg hf) kk
end GCalls
/-- a body with an int (or a boolean) as its answer -/
theorem g_ofi {l : Launch} {y : MethodName} {w : List Cond} {rm : Room} {D : va_G} {Z : gZT} {kI : ClassId} {av : List Value} {sz : Nat} {ws : va_W} {S : Type} {post : Int32 → S → Prop} {wo : S → va_W} {cc : ByteArray} {maxL : Nat} {ty : FieldType} (hy : plainName y.cls = true) (hw : w = Cond.code y cc maxL (some ty) :: gW) (hlen : (lg_sl av).length ≤ maxL)
    (body : ∀ (p : Program) (e : Env) (s : State) (m : MethodId) (below : List Frame) (meth : Method) (c : Code) (A : Nat → Prop) (Q : State → Prop) (H : Heap) (ls : Array Slot), p.tables.exec = Jvm.exec → c.code = cc → c.maxLocals = maxL → s.vm.findClass y.cls = some m.cls → (∀ q ∈ gW, q.before av.toArray s = true) → (∀ q, s.heap.size ≤ q → A q) → va_K D vwCl (gTys kI) s → gZ Z A s s.heap → va_P D vwCl ws H → va_D A ws → va_S A s.heap H [] → lv_has ls maxL (lv_args 0 av) →
      (∀ (r : Int32) (u : S) (H : Heap) (locs : List Loc) (ls : Array Slot) (pc : Nat), decode cc pc = .ok (.ireturn, 1) → narrow ty (.int r) = .int r → post r u → va_P D vwCl (wo u) H → va_D A (wo u) → va_S A s.heap H locs → W p l e rm s m av.toArray below meth c H locs 0 0 Q (F0 m pc ls [.int r])) →
      W p l e rm s m av.toArray below meth c H [] 0 0 Q (F0 m 0 ls [])) : gMi l y w rm D Z kI av sz ws post wo := by
  refine Met.ofW (cc := cc) (maxL := maxL) (ret := some ty) hy hw ?_
  intro p e s m args below meth c s₁ B hml hv
  obtain ⟨rfl, hsz, hP, hK, hD0, hZ⟩ := hv
  subst hsz
  have hl := lv_entry av (n := maxL) hlen
  rw [lg_entry_eq]
  refine body p e s m below meth c (va_A ws s.heap.size) _ s.heap _ B.exec B.bytes hml (findClass_of_methodNamed B.named) (fun q h => atoms_spec (ws := w) B.pre q (by rw [hw]; exact List.mem_cons_of_mem _ h)) (fun q h => Or.inr h) hK hZ hP (hD0.self (sz := s.heap.size)) va_S.rf hl ?_
  intro r u H locs ls pc hd hnr hp hP hD hS
  exact W.zret B.exec B.bytes B.returns hnr (fun t ht hW => ⟨⟨r, u, rfl, hp, by rw [ht]; exact hP, hD⟩, hS.F ht⟩) hS.2.2 hd
theorem g_ofv {l : Launch} {y : MethodName} {w : List Cond} {rm : Room} {D : va_G} {Z : gZT} {kI : ClassId} {av : List Value} {sz : Nat} {ws : va_W} {S : Type} {post : S → Prop} {wo : S → va_W} {cc : ByteArray} {maxL : Nat} (hy : plainName y.cls = true) (hw : w = Cond.code y cc maxL none :: gW) (hlen : (lg_sl av).length ≤ maxL)
    (body : ∀ (p : Program) (e : Env) (s : State) (m : MethodId) (below : List Frame) (meth : Method) (c : Code) (A : Nat → Prop) (Q : State → Prop) (H : Heap) (ls : Array Slot), p.tables.exec = Jvm.exec → c.code = cc → c.maxLocals = maxL → s.vm.findClass y.cls = some m.cls → (∀ q ∈ gW, q.before av.toArray s = true) → (∀ q, s.heap.size ≤ q → A q) → va_K D vwCl (gTys kI) s → gZ Z A s s.heap → va_P D vwCl ws H → va_D A ws → va_S A s.heap H [] → lv_has ls maxL (lv_args 0 av) →
      (∀ (u : S) (H : Heap) (locs : List Loc) (ls : Array Slot) (pc : Nat), decode cc pc = .ok (.return_, 1) → post u → va_P D vwCl (wo u) H → va_D A (wo u) → va_S A s.heap H locs → W p l e rm s m av.toArray below meth c H locs 0 0 Q (F0 m pc ls [])) →
      W p l e rm s m av.toArray below meth c H [] 0 0 Q (F0 m 0 ls [])) : gMv l y w rm D Z kI av sz ws post wo := by
  refine Met.ofW (cc := cc) (maxL := maxL) (ret := none) hy hw ?_
  intro p e s m args below meth c s₁ B hml hv
  obtain ⟨rfl, hsz, hP, hK, hD0, hZ⟩ := hv
  subst hsz
  have hl := lv_entry av (n := maxL) hlen
  rw [lg_entry_eq]
  refine body p e s m below meth c (va_A ws s.heap.size) _ s.heap _ B.exec B.bytes hml (findClass_of_methodNamed B.named) (fun q h => atoms_spec (ws := w) B.pre q (by rw [hw]; exact List.mem_cons_of_mem _ h)) (fun q h => Or.inr h) hK hZ hP (hD0.self (sz := s.heap.size)) va_S.rf hl ?_
  intro u H locs ls pc hd hp hP hD hS
  exact W.vret B.exec B.bytes B.returns (fun t ht hW => ⟨⟨u, rfl, hp, by rw [ht]; exact hP, hD⟩, hS.F ht⟩) hS.2.2 hd
/-! pure rows -/
theorem g_in {k : Int32} {n : Nat} (h0 : ¬ k < 0) (h1 : ¬ nI n ≤ k) (hn : n < 2 ^ 31) : vp_in k n := by
  rw [vp_in_iff]
  rw [Int32.lt_iff_toInt_lt] at h0
  rw [Int32.le_iff_toInt_le, nI_toInt hn] at h1
  have : (0 : Int32).toInt = 0 := rfl
  omega
theorem g_lt {i b : Int32} (h : ¬ b ≤ i) : i.toInt < b.toInt := by
  rw [Int32.le_iff_toInt_le] at h
  omega
theorem g_bm {x : Int} (h1 : -2147483648 ≤ x) (h2 : x < 2147483648) : x.bmod (2 ^ 32) = x := Int.bmod_eq_of_le (by omega) (by omega)
theorem g_inc {i b : Int32} (h : ¬ b ≤ i) : (i + 1).toInt = i.toInt + 1 := by
  have h1 := g_lt h
  have h2 := b.toInt_lt
  have h3 := i.le_toInt
  rw [Int32.toInt_add]
  have : (1 : Int32).toInt = 1 := rfl
  rw [this]
  exact g_bm (by omega) (by omega)
theorem g_dec1 {i b : Int32} (h : ¬ b ≤ i) : (b.toInt - (i + 1).toInt).toNat < (b.toInt - i.toInt).toNat := by
  have h1 := g_lt h
  rw [g_inc h]
  omega
theorem g_nn {i b : Int32} (h : ¬ b ≤ i) (h0 : ¬ i < 0) : ¬ (i + 1) < 0 := by
  have h1 := g_inc h
  have h2 : (0 : Int32).toInt = 0 := rfl
  rw [Int32.lt_iff_toInt_lt] at h0 ⊢
  omega
theorem g_inc2 {i : Int32} (h : i.toInt + 2 < 2 ^ 31) : (i + 2).toInt = i.toInt + 2 := by
  have h3 := i.le_toInt
  rw [Int32.toInt_add]
  have : (2 : Int32).toInt = 2 := rfl
  rw [this]
  exact g_bm (by omega) (by omega)
theorem g_dec1d {i b : Int32} (h : ¬ i ≤ b) : ((i + (-1)).toInt - b.toInt).toNat < (i.toInt - b.toInt).toNat := by
  have h1 := g_lt h
  have h2 := i.toInt_lt
  have h3 := b.le_toInt
  have h4 : (i + (-1)).toInt = i.toInt - 1 := by
    rw [Int32.toInt_add]
    have : (-1 : Int32).toInt = -1 := rfl
    rw [this]
    exact g_bm (by omega) (by omega)
  rw [h4]
  omega
theorem g_dec2 {i b : Int32} (h : ¬ b ≤ i) (hb : ¬ 3000 < b.toInt) : (b.toInt - ((i + 1) + 1).toInt).toNat < (b.toInt - i.toInt).toNat := by
  have h1 := g_lt h
  have h3 := i.le_toInt
  have h4 := g_inc h
  have h5 : ((i + 1) + 1).toInt = i.toInt + 2 := by
    rw [Int32.toInt_add, h4]
    have : (1 : Int32).toInt = 1 := rfl
    rw [this, g_bm (by omega) (by omega)]
    omega
  rw [h5]
  omega
theorem g_decu {i b : Int32} (h : ¬ b ≤ (i + 1)) (hb : ¬ 3000 < b.toInt) : (b.toInt - ((i + 2) + 1).toInt).toNat < (b.toInt - (i + 1).toInt).toNat := by
  have h1 := g_lt h
  have h3 := (i + 1).le_toInt
  have h5 : ((i + 2) + 1) = (i + 1) + 2 := by
    rw [Int32.add_assoc, Int32.add_assoc, Int32.add_comm 2 1]
  rw [h5, g_inc2 (by omega)]
  omega
theorem g_end {k n : Int32} (h0 : ¬ k < 0) (h : ¬ n ≤ k) (hn : ¬ 20 < n) : vp_in (k / 4) 5 := by
  obtain ⟨j, hj, rfl⟩ := nI_of h0
  have h1 := g_lt h
  rw [nI_toInt hj] at h1
  rw [Int32.lt_iff_toInt_lt] at hn
  have : (20 : Int32).toInt = 20 := rfl
  have e : nI j / 4 = nI (j / 4) := pk_div (d := 4) hj (by decide) (by decide)
  rw [e]
  exact vp_in_nI (by omega) (by decide)
theorem g_lele {x b : Int32} {n : Int} (h : ¬ b ≤ x) (hb : ¬ n < b.toInt) : ¬ n < x.toInt := by
  have h1 := g_lt h
  omega
/-! the rows of numbers -/
def m_Row_size (l : List Int32) : Int32 := nI l.length
def m_Row_room (n : Nat) (l : List Int32) : Int32 := nI n - nI l.length
def m_Row_get (l : List Int32) (k : Int32) : Int32 := if k < 0 then -1 else if nI l.length ≤ k then -1 else l.getD k.toNatClampNeg 0
def m_Row_put (n : Nat) (l : List Int32) (o v : Int32) : List Int32 × Int32 := if l.length < n then (l ++ [v], o) else (l, 1)
def m_Row_empty : List Int32 × Int32 := ([], 0)
theorem g_szle {n : Nat} {f : Nat → Int32} {l : List Int32} (h : g_rw n f l) : ¬ 3000 < (m_Row_size l).toInt := by
  obtain ⟨h1, h2, -⟩ := h
  rw [m_Row_size, nI_toInt (by omega)]
  omega
theorem g_dec3 {n : Nat} {f : Nat → Int32} {l : List Int32} {i b : Int32} (hr : g_rw n f l) (hg : m_Row_get l i = 61) (h : ¬ b ≤ (i + 2)) : (b.toInt - ((i + 2) + 1).toInt).toNat < (b.toInt - i.toInt).toNat := by
  obtain ⟨h1, h2, -⟩ := hr
  rw [m_Row_get] at hg
  by_cases c1 : i < 0
  · rw [if_pos c1] at hg
    exact absurd hg (by decide)
  · rw [if_neg c1] at hg
    by_cases c2 : nI l.length ≤ i
    · rw [if_pos c2] at hg
      exact absurd hg (by decide)
    · have h3 := g_lt c2
      rw [nI_toInt (by omega)] at h3
      have h5 := g_inc h
      have h6 := g_inc2 (i := i) (by omega)
      have h7 := g_lt h
      rw [h5, h6]
      omega
/-! constructors -/
abbrev gMc {S : Type} (l : Launch) (y : MethodName) (w : List Cond) (rm : Room) (D : va_G) (Z : gZT) (kI : ClassId) (av : List Value) (sz : Nat) (ws : va_W) (wo : S → va_W) (mc ms : Nat) : Prop :=
  Met l y w rm (gP D Z kI av sz ws) (va_Qv (fun _ : S => True) (gB D (va_A ws sz) wo) (va_A ws sz)) mc ms (va_A ws sz)
theorem g_kIeq {D : va_G} {kI cA : ClassId} {s : State} (h : va_K D vwCl (gTys kI ++ [(cA, .int)]) s) : cA = kI := by
  have h0 := (h.2 0 (kI, .int) rfl).2
  have h1 := (h.2 1 (cA, .int) rfl).2
  exact Option.some.inj (h1.symm.trans h0)
theorem g_ofc {l : Launch} {y : MethodName} {w : List Cond} {rm : Room} {D : va_G} {Z : gZT} {kI : ClassId} {av : List Value} {sz : Nat} {ws : va_W} {S : Type} {wo : S → va_W} {mc ms : Nat} {cc : ByteArray} {maxL : Nat} (hy : plainName y.cls = true) (hw : w = Cond.code y cc maxL none :: gW) (hlen : (lg_sl av).length ≤ maxL)
    (body : ∀ (p : Program) (e : Env) (s : State) (m : MethodId) (below : List Frame) (meth : Method) (c : Code) (A : Nat → Prop) (Q : State → Prop) (H : Heap) (ls : Array Slot), p.tables.exec = Jvm.exec → c.code = cc → c.maxLocals = maxL → s.vm.findClass y.cls = some m.cls → meth.name = y.name → (∀ q ∈ gW, q.before av.toArray s = true) → (∀ q, s.heap.size ≤ q → A q) → va_K D vwCl (gTys kI) s → gZ Z A s s.heap → va_P D vwCl ws H → va_D A ws → va_S A s.heap H [] → lv_has ls maxL (lv_args 0 av) →
      (∀ (u : S) (H : Heap) (locs : List Loc) (ls : Array Slot) (pc cells slots : Nat), cells ≤ mc → slots ≤ ms → decode cc pc = .ok (.return_, 1) → va_P D vwCl (wo u) H → va_D A (wo u) → va_S A s.heap H locs → W p l e rm s m av.toArray below meth c H locs cells slots Q (F0 m pc ls [])) →
      W p l e rm s m av.toArray below meth c H [] 0 0 Q (F0 m 0 ls [])) : gMc l y w rm D Z kI av sz ws wo mc ms := by
  refine Met.ofW (cc := cc) (maxL := maxL) (ret := none) hy hw ?_
  intro p e s m args below meth c s₁ B hml hv
  obtain ⟨rfl, hsz, hP, hK, hD0, hZ⟩ := hv
  subst hsz
  have hl := lv_entry av (n := maxL) hlen
  rw [lg_entry_eq]
  refine body p e s m below meth c (va_A ws s.heap.size) _ s.heap _ B.exec B.bytes hml (findClass_of_methodNamed B.named) (name_of_methodNamed B.named B.method).1 (fun q h => atoms_spec (ws := w) B.pre q (by rw [hw]; exact List.mem_cons_of_mem _ h)) (fun q h => Or.inr h) hK hZ hP (hD0.self (sz := s.heap.size)) va_S.rf hl ?_
  intro u H locs ls pc cells slots hc hs hd hP hD hS
  refine W.widen hc hs ?_
  exact W.vret B.exec B.bytes B.returns (fun t ht hW => ⟨⟨u, rfl, trivial, by rw [ht]; exact hP, hD⟩, hS.F ht⟩) hS.2.2 hd

theorem g_rw_n {n : Nat} {f : Nat → Int32} {l : List Int32} (h : g_rw n f l) : n < 2 ^ 31 := Nat.lt_of_le_of_lt h.2.1 (by decide)
theorem g_rw_l {n : Nat} {f : Nat → Int32} {l : List Int32} (h : g_rw n f l) : l.length < 2 ^ 31 := Nat.lt_of_le_of_lt h.1 (g_rw_n h)
theorem g_len_nn {n : Nat} {f : Nat → Int32} {l : List Int32} (h : g_rw n f l) : ¬ nI l.length < 0 := nI_pos (g_rw_l h)
theorem g_get_neg {l : List Int32} {k : Int32} (h : k < 0) : m_Row_get l k = -1 := by rw [m_Row_get, if_pos h]
theorem g_get_big {l : List Int32} {k : Int32} (h : nI l.length ≤ k) : m_Row_get l k = -1 := by
  rw [m_Row_get, if_pos h, ite_self]
theorem g_get_no {n : Nat} {f : Nat → Int32} {l : List Int32} {k : Int32} (hr : g_rw n f l) (h1 : ¬ nI l.length ≤ k) (h2 : nI n ≤ k) : m_Row_get l k = -1 := by
  have a := g_lt h1
  rw [nI_toInt (g_rw_l hr)] at a
  rw [Int32.le_iff_toInt_le, nI_toInt (g_rw_n hr)] at h2
  have := hr.1
  omega
theorem g_get_in {n : Nat} {f : Nat → Int32} {l : List Int32} {k : Int32} (hr : g_rw n f l) (h0 : ¬ k < 0) (h1 : ¬ nI l.length ≤ k) : m_Row_get l k = f k.toNatClampNeg := by
  obtain ⟨j, hj, rfl⟩ := nI_of h0
  have a := g_lt h1
  rw [nI_toInt (g_rw_l hr), nI_toInt hj] at a
  rw [m_Row_get, if_neg h0, if_neg h1, nI_clamp hj]
  exact (hr.2.2 j (by omega)).symm
theorem g_put_full {n : Nat} {f : Nat → Int32} {l : List Int32} {o v : Int32} (h : nI n ≤ nI l.length) (hr : g_rw n f l) : m_Row_put n l o v = (l, 1) := by
  have := (nI_leI (g_rw_n hr) (g_rw_l hr)).mp h
  rw [m_Row_put, if_neg (by omega)]
theorem g_put_lt {n : Nat} {f : Nat → Int32} {l : List Int32} (h : ¬ nI n ≤ nI l.length) (hr : g_rw n f l) : l.length < n := by
  rcases Nat.lt_or_ge l.length n with q | q
  · exact q
  · exact absurd ((nI_leI (g_rw_n hr) (g_rw_l hr)).mpr q) h
theorem g_put_in {n : Nat} {f : Nat → Int32} {l : List Int32} {o v : Int32} (h : ¬ nI n ≤ nI l.length) (hr : g_rw n f l) : m_Row_put n l o v = (l ++ [v], o) := by
  rw [m_Row_put, if_pos (g_put_lt h hr)]
theorem g_put_ix {n : Nat} {f : Nat → Int32} {l : List Int32} (h : ¬ nI n ≤ nI l.length) (hr : g_rw n f l) : vp_in (nI l.length) n := vp_in_nI (g_put_lt h hr) (g_rw_n hr)
theorem g_put_len {l : List Int32} {v : Int32} : nI l.length + 1 = nI (l ++ [v]).length := by
  rw [List.length_append]
  exact nI_1 l.length
theorem g_put_rw {n : Nat} {f : Nat → Int32} {l : List Int32} {v : Int32} (h : ¬ nI n ≤ nI l.length) (hr : g_rw n f l) : g_rw n (upd f (nI l.length).toNatClampNeg v) (l ++ [v]) := by
  have a := g_put_lt h hr
  rw [nI_clamp (g_rw_l hr)]
  refine ⟨by rw [List.length_append]; exact a, hr.2.1, fun i hi => ?_⟩
  rw [List.length_append] at hi
  have hi : i < l.length + 1 := hi
  by_cases q : i = l.length
  · subst q
    rw [pk_us]
    simp
  · rw [pk_un q, hr.2.2 i (by omega)]
    rw [List.getD_eq_getElem?_getD, List.getD_eq_getElem?_getD, List.getElem?_append_left (by omega)]

theorem g_ltI {x y : Int32} (h : ¬ y ≤ x) : x < y := by
  rw [Int32.lt_iff_toInt_lt]
  exact g_lt h
theorem g_and15 (x : Int32) : (¬ (x &&& 15) < 0) ∧ ¬ nI 16 ≤ (x &&& 15) := by
  obtain ⟨j, hj, e⟩ := pk_andE x (m := 15) 4 (by decide)
  rw [e]
  exact ⟨nI_pos (by omega), nI_ge (by omega) (by decide)⟩

/-! a method that answers a text constant, by its place -/
abbrev gMr (l : Launch) (y : MethodName) (w : List Cond) (rm : Room) (D : va_G) (Z : gZT) (kI : ClassId) (av : List Value) (sz : Nat) (ws : va_W) (post : Nat → Prop) (wo : va_W) : Prop :=
  Met l y w rm (gP D Z kI av sz ws) (va_Qr post (fun (r : Nat) (a : Nat) (t : State) => a = Z.1 r ∧ va_P D vwCl wo t.heap ∧ va_D (va_A ws sz) wo) (va_A ws sz)) 0 0 (va_A ws sz)
theorem g_ofr {l : Launch} {y : MethodName} {w : List Cond} {rm : Room} {D : va_G} {Z : gZT} {kI : ClassId} {av : List Value} {sz : Nat} {ws : va_W} {post : Nat → Prop} {wo : va_W} {cc : ByteArray} {maxL : Nat} (hy : plainName y.cls = true) (hw : w = Cond.code y cc maxL (some (.object "java/lang/String")) :: gW) (hlen : (lg_sl av).length ≤ maxL)
    (body : ∀ (p : Program) (e : Env) (s : State) (m : MethodId) (below : List Frame) (meth : Method) (c : Code) (A : Nat → Prop) (Q : State → Prop) (H : Heap) (ls : Array Slot), p.tables.exec = Jvm.exec → c.code = cc → c.maxLocals = maxL → s.vm.findClass y.cls = some m.cls → (∀ q ∈ gW, q.before av.toArray s = true) → (∀ q, s.heap.size ≤ q → A q) → va_K D vwCl (gTys kI) s → gZ Z A s s.heap → va_P D vwCl ws H → va_D A ws → va_S A s.heap H [] → lv_has ls maxL (lv_args 0 av) →
      (∀ (r : Nat) (H : Heap) (locs : List Loc) (ls : Array Slot) (pc : Nat), decode cc pc = .ok (.areturn, 1) → post r → va_P D vwCl wo H → va_D A wo → va_S A s.heap H locs → W p l e rm s m av.toArray below meth c H locs 0 0 Q (F0 m pc ls [.ref (Z.1 r)])) →
      W p l e rm s m av.toArray below meth c H [] 0 0 Q (F0 m 0 ls [])) : gMr l y w rm D Z kI av sz ws post wo := by
  refine Met.ofW (cc := cc) (maxL := maxL) (ret := some (.object "java/lang/String")) hy hw ?_
  intro p e s m args below meth c s₁ B hml hv
  obtain ⟨rfl, hsz, hP, hK, hD0, hZ⟩ := hv
  subst hsz
  have hl := lv_entry av (n := maxL) hlen
  rw [lg_entry_eq]
  refine body p e s m below meth c (va_A ws s.heap.size) _ s.heap _ B.exec B.bytes hml (findClass_of_methodNamed B.named) (fun q h => atoms_spec (ws := w) B.pre q (by rw [hw]; exact List.mem_cons_of_mem _ h)) (fun q h => Or.inr h) hK hZ hP (hD0.self (sz := s.heap.size)) va_S.rf hl ?_
  intro r H locs ls pc hd hp hP hD hS
  exact W.aret B.exec B.bytes B.returns (Or.inl ⟨_, rfl⟩) (Or.inr ⟨_, rfl⟩) (fun t ht hW => ⟨⟨r, Z.1 r, rfl, hp, rfl, by rw [ht]; exact hP, hD⟩, hS.F ht⟩) hS.2.2 hd
section GCallR
variable {p : Program} {l : Launch} {e : Env} {R : Room} {s : State} {m : MethodId} {args : Array Value} {below : List Frame} {meth : Method} {c : Code} {H : Heap} {locs : List Loc} {cells slots : Nat} {Q : State → Prop} {cc : ByteArray} {pc : Nat} {ls : Array Slot} {D : va_G} {Z : gZT} {kI : ClassId} {A : Nat → Prop}
variable {y : MethodName} {wy : List Cond} {rm : Room} {bytes : ByteArray} {maxL nL n index : Nat} {ret : Option FieldType} {Ts : List Cond} {own C : String} {b : Nat} {As rest st0 : List Value} {ws wc wr : va_W}
theorem g_Sr {post : Nat → Prop} {wo : va_W} (F : CallFix p m c cc nL s args Ts own) (hM : gMr l y wy rm D Z kI As H.size wc post wo) (cw : CallB R s args own index y bytes maxL ret wy rm 0 0 n ∧ (Cond.static y).before args s = true) (hK : va_K D vwCl (gTys kI) s) (hZ : gZ Z A s s.heap) (hP : va_P D vwCl ws H) (hD : va_D A ws) (hS : va_S A s.heap H locs) (hA : ∀ q, s.heap.size ≤ q → A q) (isC isR : List Nat)
    (hC : isC.map (fun i => ws[i]?) = wc.map some) (hR : isR.map (fun i => ws[i]?) = wr.map some) (hnC : va_nd isC = true) (hn : va_nd isR = true) (hdis : ∀ i ∈ isR, i ∉ isC) (hln : As.length = n) (hsize : ls.size = nL) (hst : st0 = As.reverse ++ rest) (hW : (rest.map fun v => v.category).sum ≤ 8) (hdg : decode cc pc = .ok (.invokestatic index, 3)) (hf : cells ≤ R.cells ∧ slots ≤ R.slots)
    (kk : ∀ (r : Nat) (H1 : Heap) (locs1 : List Loc), post r → va_P D vwCl (wr ++ wo) H1 → va_D A (wr ++ wo) → va_S A s.heap H1 locs1 → W p l e R s m args below meth c H1 locs1 cells slots Q (F0 m (pc + 3) ls (.ref (Z.1 r) :: rest))) : W p l e R s m args below meth c H locs cells slots Q (F0 m pc ls st0) := by
  have hF := va_free (wc := wc) hD hS hA isC hC
  refine va_callr (va_runS (g := F0 m pc ls st0) F hM cw ⟨gP_blind, g_pre hK hZ hP hD hS hA isC hC hnC⟩ rfl hln hsize hst (lv_room hW) hdg hf) hS (fun q _ h => hF q h) hF (fun r a t H1 locs1 ht hvm hw hB hz1 hk1 hS1 => ?_)
  obtain ⟨rfl, hP1, hD1⟩ := hB
  rw [ht] at hP1
  obtain ⟨hP2, hD2⟩ := va_join hP hD isC isR hC hR hn hdis hk1 hF hP1 hD1
  exact kk r H1 locs1 hw hP2 hD2 hS1
theorem g_Ic {S : Type} {wo : S → va_W} {mc ms : Nat} (F : CallFix p m c cc nL s args Ts own) (hM : gMc l y wy rm D Z kI (.ref b :: As) H.size wc wo mc ms) (cw : CallB R s args own index y bytes maxL none wy rm mc ms n ∧ y.name = "<init>" ∧ (Cond.instanceMethod y).before args s = true) (hK : va_K D vwCl (gTys kI) s) (hZ : gZ Z A s s.heap) (hP : va_P D vwCl ws H) (hD : va_D A ws) (hS : va_S A s.heap H locs) (hA : ∀ q, s.heap.size ≤ q → A q) (isC isR : List Nat)
    (hC : isC.map (fun i => ws[i]?) = wc.map some) (hR : isR.map (fun i => ws[i]?) = wr.map some) (hnC : va_nd isC = true) (hn : va_nd isR = true) (hdis : ∀ i ∈ isR, i ∉ isC) (hln : As.length = n) (hsize : ls.size = nL) (hst : st0 = As.reverse ++ .ref b :: rest) (hW : (rest.map fun v => v.category).sum ≤ 8) (hdg : decode cc pc = .ok (.invokespecial index, 3)) (hf : cells + mc ≤ R.cells ∧ slots + ms ≤ R.slots)
    (kk : ∀ (u : S) (H1 : Heap) (locs1 : List Loc), va_P D vwCl (wr ++ wo u) H1 → va_D A (wr ++ wo u) → va_S A s.heap H1 locs1 → W p l e R s m args below meth c H1 locs1 (cells + mc) (slots + ms) Q (F0 m (pc + 3) ls rest)) : W p l e R s m args below meth c H locs cells slots Q (F0 m pc ls st0) := by
  have hF := va_free (wc := wc) hD hS hA isC hC
  refine va_callv (va_runI (g := F0 m pc ls st0) F hM cw ⟨gP_blind, g_pre hK hZ hP hD hS hA isC hC hnC⟩ rfl hln hsize hst (lv_room hW) hdg hf) hS (fun q _ h => hF q h) hF (fun u t H1 locs1 ht hvm hw hB hz1 hk1 hS1 => ?_)
  obtain ⟨hP1, hD1⟩ := hB
  rw [ht] at hP1
  obtain ⟨hP2, hD2⟩ := va_join hP hD isC isR hC hR hn hdis hk1 hF hP1 hD1
  exact kk u H1 locs1 hP2 hD2 hS1
theorem g_INc {S : Type} {wo : S → va_W} {mc ms : Nat} (F : CallFix p m c cc nL s args Ts own) (hM : gMc l y wy rm D Z kI (.ref b :: As) H.size wc wo mc ms) (cw : va_CN R s args own index y "MailCharacters" bytes maxL none wy rm mc ms n ∧ y.name = "<init>" ∧ (Cond.instanceMethod y).before args s = true) (hK : va_K D vwCl (gTys kI) s) (hZ : gZ Z A s s.heap) (hP : va_P D vwCl ws H) (hD : va_D A ws) (hS : va_S A s.heap H locs) (hA : ∀ q, s.heap.size ≤ q → A q) (isC isR : List Nat)
    (hC : isC.map (fun i => ws[i]?) = wc.map some) (hR : isR.map (fun i => ws[i]?) = wr.map some) (hnC : va_nd isC = true) (hn : va_nd isR = true) (hdis : ∀ i ∈ isR, i ∉ isC) (hln : As.length = n) (hsize : ls.size = nL) (hst : st0 = As.reverse ++ .ref b :: rest) (hW : (rest.map fun v => v.category).sum ≤ 8) (hdg : decode cc pc = .ok (.invokespecial index, 3)) (hf : cells + mc ≤ R.cells ∧ slots + ms ≤ R.slots)
    (kk : ∀ (u : S) (H1 : Heap) (locs1 : List Loc), va_P D vwCl (wr ++ wo u) H1 → va_D A (wr ++ wo u) → va_S A s.heap H1 locs1 → W p l e R s m args below meth c H1 locs1 (cells + mc) (slots + ms) Q (F0 m (pc + 3) ls rest)) : W p l e R s m args below meth c H locs cells slots Q (F0 m pc ls st0) := by
  have hF := va_free (wc := wc) hD hS hA isC hC
  refine va_callv (va_runIN (g := F0 m pc ls st0) F hM cw ⟨gP_blind, g_pre hK hZ hP hD hS hA isC hC hnC⟩ rfl hln hsize hst (lv_room hW) hdg hf) hS (fun q _ h => hF q h) hF (fun u t H1 locs1 ht hvm hw hB hz1 hk1 hS1 => ?_)
  obtain ⟨hP1, hD1⟩ := hB
  rw [ht] at hP1
  obtain ⟨hP2, hD2⟩ := va_join hP hD isC isR hC hR hn hdis hk1 hF hP1 hD1
  exact kk u H1 locs1 hP2 hD2 hS1
end GCallR

theorem g_new0 (cA : ClassId) (N : Nat) : vp_cell cA (N, .inl (fun _ => 0)) = arrV cA N (fun _ => defaultValue .int) := rfl
end
section
theorem d_Row_empty_0 : decode b_Row_empty 0 = .ok (.aload_n 0, 1) := by decide +kernel
theorem d_Row_empty_1 : decode b_Row_empty 1 = .ok (.iconst 0, 1) := by decide +kernel
theorem d_Row_empty_2 : decode b_Row_empty 2 = .ok (.putfield 21, 3) := by decide +kernel
theorem d_Row_empty_5 : decode b_Row_empty 5 = .ok (.aload_n 0, 1) := by decide +kernel
theorem d_Row_empty_6 : decode b_Row_empty 6 = .ok (.iconst 0, 1) := by decide +kernel
theorem d_Row_empty_7 : decode b_Row_empty 7 = .ok (.putfield 25, 3) := by decide +kernel
theorem d_Row_empty_10 : decode b_Row_empty 10 = .ok (.return_, 1) := by decide +kernel
theorem d_Row_put_0 : decode b_Row_put 0 = .ok (.aload_n 0, 1) := by decide +kernel
theorem d_Row_put_1 : decode b_Row_put 1 = .ok (.getfield 21, 3) := by decide +kernel
theorem d_Row_put_4 : decode b_Row_put 4 = .ok (.ifCond .lt 38, 3) := by decide +kernel
theorem d_Row_put_7 : decode b_Row_put 7 = .ok (.aload_n 0, 1) := by decide +kernel
theorem d_Row_put_8 : decode b_Row_put 8 = .ok (.getfield 21, 3) := by decide +kernel
theorem d_Row_put_11 : decode b_Row_put 11 = .ok (.aload_n 0, 1) := by decide +kernel
theorem d_Row_put_12 : decode b_Row_put 12 = .ok (.getfield 15, 3) := by decide +kernel
theorem d_Row_put_15 : decode b_Row_put 15 = .ok (.arraylength, 1) := by decide +kernel
theorem d_Row_put_16 : decode b_Row_put 16 = .ok (.if_icmp .ge 26, 3) := by decide +kernel
theorem d_Row_put_19 : decode b_Row_put 19 = .ok (.aload_n 0, 1) := by decide +kernel
theorem d_Row_put_20 : decode b_Row_put 20 = .ok (.getfield 15, 3) := by decide +kernel
theorem d_Row_put_23 : decode b_Row_put 23 = .ok (.aload_n 0, 1) := by decide +kernel
theorem d_Row_put_24 : decode b_Row_put 24 = .ok (.getfield 21, 3) := by decide +kernel
theorem d_Row_put_27 : decode b_Row_put 27 = .ok (.iload_n 1, 1) := by decide +kernel
theorem d_Row_put_28 : decode b_Row_put 28 = .ok (.iastore, 1) := by decide +kernel
theorem d_Row_put_29 : decode b_Row_put 29 = .ok (.aload_n 0, 1) := by decide +kernel
theorem d_Row_put_30 : decode b_Row_put 30 = .ok (.dup, 1) := by decide +kernel
theorem d_Row_put_31 : decode b_Row_put 31 = .ok (.getfield 21, 3) := by decide +kernel
theorem d_Row_put_34 : decode b_Row_put 34 = .ok (.iconst 1, 1) := by decide +kernel
theorem d_Row_put_35 : decode b_Row_put 35 = .ok (.iadd, 1) := by decide +kernel
theorem d_Row_put_36 : decode b_Row_put 36 = .ok (.putfield 21, 3) := by decide +kernel
theorem d_Row_put_39 : decode b_Row_put 39 = .ok (.goto 8, 3) := by decide +kernel
theorem d_Row_put_42 : decode b_Row_put 42 = .ok (.aload_n 0, 1) := by decide +kernel
theorem d_Row_put_43 : decode b_Row_put 43 = .ok (.iconst 1, 1) := by decide +kernel
theorem d_Row_put_44 : decode b_Row_put 44 = .ok (.putfield 25, 3) := by decide +kernel
theorem d_Row_put_47 : decode b_Row_put 47 = .ok (.return_, 1) := by decide +kernel
theorem d_Row_get_0 : decode b_Row_get 0 = .ok (.iload_n 1, 1) := by decide +kernel
theorem d_Row_get_1 : decode b_Row_get 1 = .ok (.ifCond .lt 29, 3) := by decide +kernel
theorem d_Row_get_4 : decode b_Row_get 4 = .ok (.iload_n 1, 1) := by decide +kernel
theorem d_Row_get_5 : decode b_Row_get 5 = .ok (.aload_n 0, 1) := by decide +kernel
theorem d_Row_get_6 : decode b_Row_get 6 = .ok (.getfield 21, 3) := by decide +kernel
theorem d_Row_get_9 : decode b_Row_get 9 = .ok (.if_icmp .ge 21, 3) := by decide +kernel
theorem d_Row_get_12 : decode b_Row_get 12 = .ok (.iload_n 1, 1) := by decide +kernel
theorem d_Row_get_13 : decode b_Row_get 13 = .ok (.aload_n 0, 1) := by decide +kernel
theorem d_Row_get_14 : decode b_Row_get 14 = .ok (.getfield 15, 3) := by decide +kernel
theorem d_Row_get_17 : decode b_Row_get 17 = .ok (.arraylength, 1) := by decide +kernel
theorem d_Row_get_18 : decode b_Row_get 18 = .ok (.if_icmp .ge 12, 3) := by decide +kernel
theorem d_Row_get_21 : decode b_Row_get 21 = .ok (.aload_n 0, 1) := by decide +kernel
theorem d_Row_get_22 : decode b_Row_get 22 = .ok (.getfield 15, 3) := by decide +kernel
theorem d_Row_get_25 : decode b_Row_get 25 = .ok (.iload_n 1, 1) := by decide +kernel
theorem d_Row_get_26 : decode b_Row_get 26 = .ok (.iaload, 1) := by decide +kernel
theorem d_Row_get_27 : decode b_Row_get 27 = .ok (.goto 4, 3) := by decide +kernel
theorem d_Row_get_30 : decode b_Row_get 30 = .ok (.iconst (-1), 1) := by decide +kernel
theorem d_Row_get_31 : decode b_Row_get 31 = .ok (.ireturn, 1) := by decide +kernel
theorem d_Row_size_0 : decode b_Row_size 0 = .ok (.aload_n 0, 1) := by decide +kernel
theorem d_Row_size_1 : decode b_Row_size 1 = .ok (.getfield 21, 3) := by decide +kernel
theorem d_Row_size_4 : decode b_Row_size 4 = .ok (.ireturn, 1) := by decide +kernel
theorem d_Row_room_0 : decode b_Row_room 0 = .ok (.aload_n 0, 1) := by decide +kernel
theorem d_Row_room_1 : decode b_Row_room 1 = .ok (.getfield 15, 3) := by decide +kernel
theorem d_Row_room_4 : decode b_Row_room 4 = .ok (.arraylength, 1) := by decide +kernel
theorem d_Row_room_5 : decode b_Row_room 5 = .ok (.aload_n 0, 1) := by decide +kernel
theorem d_Row_room_6 : decode b_Row_room 6 = .ok (.getfield 21, 3) := by decide +kernel
theorem d_Row_room_9 : decode b_Row_room 9 = .ok (.isub, 1) := by decide +kernel
theorem d_Row_room_10 : decode b_Row_room 10 = .ok (.ireturn, 1) := by decide +kernel
theorem d_JString_coder_0 : decode b_JString_coder 0 = .ok (.getstatic 38, 3) := by decide +kernel
theorem d_JString_coder_3 : decode b_JString_coder 3 = .ok (.ifCond .eq 10, 3) := by decide +kernel
theorem d_JString_coder_6 : decode b_JString_coder 6 = .ok (.aload_n 0, 1) := by decide +kernel
theorem d_JString_coder_7 : decode b_JString_coder 7 = .ok (.getfield 15, 3) := by decide +kernel
theorem d_JString_coder_10 : decode b_JString_coder 10 = .ok (.goto 4, 3) := by decide +kernel
theorem d_JString_coder_13 : decode b_JString_coder 13 = .ok (.iconst 1, 1) := by decide +kernel
theorem d_JString_coder_14 : decode b_JString_coder 14 = .ok (.ireturn, 1) := by decide +kernel
theorem d_JString_isLatin1_0 : decode b_JString_isLatin1 0 = .ok (.getstatic 38, 3) := by decide +kernel
theorem d_JString_isLatin1_3 : decode b_JString_isLatin1 3 = .ok (.ifCond .eq 14, 3) := by decide +kernel
theorem d_JString_isLatin1_6 : decode b_JString_isLatin1 6 = .ok (.aload_n 0, 1) := by decide +kernel
theorem d_JString_isLatin1_7 : decode b_JString_isLatin1 7 = .ok (.getfield 15, 3) := by decide +kernel
theorem d_JString_isLatin1_10 : decode b_JString_isLatin1 10 = .ok (.ifCond .ne 7, 3) := by decide +kernel
theorem d_JString_isLatin1_13 : decode b_JString_isLatin1 13 = .ok (.iconst 1, 1) := by decide +kernel
theorem d_JString_isLatin1_14 : decode b_JString_isLatin1 14 = .ok (.goto 4, 3) := by decide +kernel
theorem d_JString_isLatin1_17 : decode b_JString_isLatin1 17 = .ok (.iconst 0, 1) := by decide +kernel
theorem d_JString_isLatin1_18 : decode b_JString_isLatin1 18 = .ok (.ireturn, 1) := by decide +kernel
theorem d_JString_length_0 : decode b_JString_length 0 = .ok (.aload_n 0, 1) := by decide +kernel
theorem d_JString_length_1 : decode b_JString_length 1 = .ok (.getfield 9, 3) := by decide +kernel
theorem d_JString_length_4 : decode b_JString_length 4 = .ok (.arraylength, 1) := by decide +kernel
theorem d_JString_length_5 : decode b_JString_length 5 = .ok (.aload_n 0, 1) := by decide +kernel
theorem d_JString_length_6 : decode b_JString_length 6 = .ok (.invokevirtual 335, 3) := by decide +kernel
theorem d_JString_length_9 : decode b_JString_length 9 = .ok (.ishr, 1) := by decide +kernel
theorem d_JString_length_10 : decode b_JString_length 10 = .ok (.ireturn, 1) := by decide +kernel
theorem d_JPreconditions_checkIndex_0 : decode b_JPreconditions_checkIndex 0 = .ok (.iload_n 0, 1) := by decide +kernel
theorem d_JPreconditions_checkIndex_1 : decode b_JPreconditions_checkIndex 1 = .ok (.ifCond .lt 8, 3) := by decide +kernel
theorem d_JPreconditions_checkIndex_4 : decode b_JPreconditions_checkIndex 4 = .ok (.iload_n 0, 1) := by decide +kernel
theorem d_JPreconditions_checkIndex_5 : decode b_JPreconditions_checkIndex 5 = .ok (.iload_n 1, 1) := by decide +kernel
theorem d_JPreconditions_checkIndex_6 : decode b_JPreconditions_checkIndex 6 = .ok (.if_icmp .lt 10, 3) := by decide +kernel
theorem d_JPreconditions_checkIndex_9 : decode b_JPreconditions_checkIndex 9 = .ok (.aload_n 2, 1) := by decide +kernel
theorem d_JPreconditions_checkIndex_10 : decode b_JPreconditions_checkIndex 10 = .ok (.iload_n 0, 1) := by decide +kernel
theorem d_JPreconditions_checkIndex_11 : decode b_JPreconditions_checkIndex 11 = .ok (.iload_n 1, 1) := by decide +kernel
theorem d_JPreconditions_checkIndex_12 : decode b_JPreconditions_checkIndex 12 = .ok (.invokestatic 95, 3) := by decide +kernel
theorem d_JPreconditions_checkIndex_15 : decode b_JPreconditions_checkIndex 15 = .ok (.athrow, 1) := by decide +kernel
theorem d_JPreconditions_checkIndex_16 : decode b_JPreconditions_checkIndex 16 = .ok (.iload_n 0, 1) := by decide +kernel
theorem d_JPreconditions_checkIndex_17 : decode b_JPreconditions_checkIndex 17 = .ok (.ireturn, 1) := by decide +kernel
theorem d_JString_checkIndex_0 : decode b_JString_checkIndex 0 = .ok (.iload_n 0, 1) := by decide +kernel
theorem d_JString_checkIndex_1 : decode b_JString_checkIndex 1 = .ok (.iload_n 1, 1) := by decide +kernel
theorem d_JString_checkIndex_2 : decode b_JString_checkIndex 2 = .ok (.getstatic 1053, 3) := by decide +kernel
theorem d_JString_checkIndex_5 : decode b_JString_checkIndex 5 = .ok (.invokestatic 1059, 3) := by decide +kernel
theorem d_JString_checkIndex_8 : decode b_JString_checkIndex 8 = .ok (.pop, 1) := by decide +kernel
theorem d_JString_checkIndex_9 : decode b_JString_checkIndex 9 = .ok (.return_, 1) := by decide +kernel
theorem d_JStringLatin1_charAt_0 : decode b_JStringLatin1_charAt 0 = .ok (.iload_n 1, 1) := by decide +kernel
theorem d_JStringLatin1_charAt_1 : decode b_JStringLatin1_charAt 1 = .ok (.aload_n 0, 1) := by decide +kernel
theorem d_JStringLatin1_charAt_2 : decode b_JStringLatin1_charAt 2 = .ok (.arraylength, 1) := by decide +kernel
theorem d_JStringLatin1_charAt_3 : decode b_JStringLatin1_charAt 3 = .ok (.invokestatic 9, 3) := by decide +kernel
theorem d_JStringLatin1_charAt_6 : decode b_JStringLatin1_charAt 6 = .ok (.aload_n 0, 1) := by decide +kernel
theorem d_JStringLatin1_charAt_7 : decode b_JStringLatin1_charAt 7 = .ok (.iload_n 1, 1) := by decide +kernel
theorem d_JStringLatin1_charAt_8 : decode b_JStringLatin1_charAt 8 = .ok (.baload, 1) := by decide +kernel
theorem d_JStringLatin1_charAt_9 : decode b_JStringLatin1_charAt 9 = .ok (.sipush 255, 3) := by decide +kernel
theorem d_JStringLatin1_charAt_12 : decode b_JStringLatin1_charAt 12 = .ok (.iand, 1) := by decide +kernel
theorem d_JStringLatin1_charAt_13 : decode b_JStringLatin1_charAt 13 = .ok (.i2c, 1) := by decide +kernel
theorem d_JStringLatin1_charAt_14 : decode b_JStringLatin1_charAt 14 = .ok (.ireturn, 1) := by decide +kernel
theorem d_JString_charAt_0 : decode b_JString_charAt 0 = .ok (.aload_n 0, 1) := by decide +kernel
theorem d_JString_charAt_1 : decode b_JString_charAt 1 = .ok (.invokevirtual 492, 3) := by decide +kernel
theorem d_JString_charAt_4 : decode b_JString_charAt 4 = .ok (.ifCond .eq 12, 3) := by decide +kernel
theorem d_JString_charAt_7 : decode b_JString_charAt 7 = .ok (.aload_n 0, 1) := by decide +kernel
theorem d_JString_charAt_8 : decode b_JString_charAt 8 = .ok (.getfield 9, 3) := by decide +kernel
theorem d_JString_charAt_11 : decode b_JString_charAt 11 = .ok (.iload_n 1, 1) := by decide +kernel
theorem d_JString_charAt_12 : decode b_JString_charAt 12 = .ok (.invokestatic 495, 3) := by decide +kernel
theorem d_JString_charAt_15 : decode b_JString_charAt 15 = .ok (.ireturn, 1) := by decide +kernel
theorem d_JString_charAt_16 : decode b_JString_charAt 16 = .ok (.aload_n 0, 1) := by decide +kernel
theorem d_JString_charAt_17 : decode b_JString_charAt 17 = .ok (.getfield 9, 3) := by decide +kernel
theorem d_JString_charAt_20 : decode b_JString_charAt 20 = .ok (.iload_n 1, 1) := by decide +kernel
theorem d_JString_charAt_21 : decode b_JString_charAt 21 = .ok (.invokestatic 498, 3) := by decide +kernel
theorem d_JString_charAt_24 : decode b_JString_charAt 24 = .ok (.ireturn, 1) := by decide +kernel
theorem d_MC_feed_0 : decode b_MC_feed 0 = .ok (.aload_n 0, 1) := by decide +kernel
theorem d_MC_feed_1 : decode b_MC_feed 1 = .ok (.getfield 9, 3) := by decide +kernel
theorem d_MC_feed_4 : decode b_MC_feed 4 = .ok (.iconst 0, 1) := by decide +kernel
theorem d_MC_feed_5 : decode b_MC_feed 5 = .ok (.iload_n 1, 1) := by decide +kernel
theorem d_MC_feed_6 : decode b_MC_feed 6 = .ok (.iastore, 1) := by decide +kernel
theorem d_MC_feed_7 : decode b_MC_feed 7 = .ok (.aload_n 0, 1) := by decide +kernel
theorem d_MC_feed_8 : decode b_MC_feed 8 = .ok (.getfield 9, 3) := by decide +kernel
theorem d_MC_feed_11 : decode b_MC_feed 11 = .ok (.iconst 1, 1) := by decide +kernel
theorem d_MC_feed_12 : decode b_MC_feed 12 = .ok (.iload_n 2, 1) := by decide +kernel
theorem d_MC_feed_13 : decode b_MC_feed 13 = .ok (.iastore, 1) := by decide +kernel
theorem d_MC_feed_14 : decode b_MC_feed 14 = .ok (.aload_n 0, 1) := by decide +kernel
theorem d_MC_feed_15 : decode b_MC_feed 15 = .ok (.getfield 9, 3) := by decide +kernel
theorem d_MC_feed_18 : decode b_MC_feed 18 = .ok (.iconst 2, 1) := by decide +kernel
theorem d_MC_feed_19 : decode b_MC_feed 19 = .ok (.iload_n 3, 1) := by decide +kernel
theorem d_MC_feed_20 : decode b_MC_feed 20 = .ok (.iastore, 1) := by decide +kernel
theorem d_MC_feed_21 : decode b_MC_feed 21 = .ok (.aload_n 0, 1) := by decide +kernel
theorem d_MC_feed_22 : decode b_MC_feed 22 = .ok (.getfield 9, 3) := by decide +kernel
theorem d_MC_feed_25 : decode b_MC_feed 25 = .ok (.iconst 3, 1) := by decide +kernel
theorem d_MC_feed_26 : decode b_MC_feed 26 = .ok (.iload 4, 2) := by decide +kernel
theorem d_MC_feed_28 : decode b_MC_feed 28 = .ok (.iastore, 1) := by decide +kernel
theorem d_MC_feed_29 : decode b_MC_feed 29 = .ok (.aload_n 0, 1) := by decide +kernel
theorem d_MC_feed_30 : decode b_MC_feed 30 = .ok (.getfield 9, 3) := by decide +kernel
theorem d_MC_feed_33 : decode b_MC_feed 33 = .ok (.iconst 4, 1) := by decide +kernel
theorem d_MC_feed_34 : decode b_MC_feed 34 = .ok (.iload 5, 2) := by decide +kernel
theorem d_MC_feed_36 : decode b_MC_feed 36 = .ok (.iastore, 1) := by decide +kernel
theorem d_MC_feed_37 : decode b_MC_feed 37 = .ok (.return_, 1) := by decide +kernel
theorem d_MC_end_0 : decode b_MC_end 0 = .ok (.iload_n 1, 1) := by decide +kernel
theorem d_MC_end_1 : decode b_MC_end 1 = .ok (.ifCond .lt 20, 3) := by decide +kernel
theorem d_MC_end_4 : decode b_MC_end 4 = .ok (.iload_n 1, 1) := by decide +kernel
theorem d_MC_end_5 : decode b_MC_end 5 = .ok (.bipush 20, 2) := by decide +kernel
theorem d_MC_end_7 : decode b_MC_end 7 = .ok (.if_icmp .gt 14, 3) := by decide +kernel
theorem d_MC_end_10 : decode b_MC_end 10 = .ok (.iload_n 1, 1) := by decide +kernel
theorem d_MC_end_11 : decode b_MC_end 11 = .ok (.aload_n 0, 1) := by decide +kernel
theorem d_MC_end_12 : decode b_MC_end 12 = .ok (.getfield 57, 3) := by decide +kernel
theorem d_MC_end_15 : decode b_MC_end 15 = .ok (.invokevirtual 63, 3) := by decide +kernel
theorem d_MC_end_18 : decode b_MC_end 18 = .ok (.if_icmp .le 5, 3) := by decide +kernel
theorem d_MC_end_21 : decode b_MC_end 21 = .ok (.iconst (-1), 1) := by decide +kernel
theorem d_MC_end_22 : decode b_MC_end 22 = .ok (.ireturn, 1) := by decide +kernel
theorem d_MC_end_23 : decode b_MC_end 23 = .ok (.iconst 0, 1) := by decide +kernel
theorem d_MC_end_24 : decode b_MC_end 24 = .ok (.istore_n 2, 1) := by decide +kernel
theorem d_MC_end_25 : decode b_MC_end 25 = .ok (.iload_n 2, 1) := by decide +kernel
theorem d_MC_end_26 : decode b_MC_end 26 = .ok (.iload_n 1, 1) := by decide +kernel
theorem d_MC_end_27 : decode b_MC_end 27 = .ok (.if_icmp .ge 38, 3) := by decide +kernel
theorem d_MC_end_30 : decode b_MC_end 30 = .ok (.aload_n 0, 1) := by decide +kernel
theorem d_MC_end_31 : decode b_MC_end 31 = .ok (.getfield 57, 3) := by decide +kernel
theorem d_MC_end_34 : decode b_MC_end 34 = .ok (.aload_n 0, 1) := by decide +kernel
theorem d_MC_end_35 : decode b_MC_end 35 = .ok (.getfield 9, 3) := by decide +kernel
theorem d_MC_end_38 : decode b_MC_end 38 = .ok (.iload_n 2, 1) := by decide +kernel
theorem d_MC_end_39 : decode b_MC_end 39 = .ok (.iconst 4, 1) := by decide +kernel
theorem d_MC_end_40 : decode b_MC_end 40 = .ok (.idiv, 1) := by decide +kernel
theorem d_MC_end_41 : decode b_MC_end 41 = .ok (.iaload, 1) := by decide +kernel
theorem d_MC_end_42 : decode b_MC_end 42 = .ok (.bipush 24, 2) := by decide +kernel
theorem d_MC_end_44 : decode b_MC_end 44 = .ok (.iload_n 2, 1) := by decide +kernel
theorem d_MC_end_45 : decode b_MC_end 45 = .ok (.iconst 4, 1) := by decide +kernel
theorem d_MC_end_46 : decode b_MC_end 46 = .ok (.irem, 1) := by decide +kernel
theorem d_MC_end_47 : decode b_MC_end 47 = .ok (.bipush 8, 2) := by decide +kernel
theorem d_MC_end_49 : decode b_MC_end 49 = .ok (.imul, 1) := by decide +kernel
theorem d_MC_end_50 : decode b_MC_end 50 = .ok (.isub, 1) := by decide +kernel
theorem d_MC_end_51 : decode b_MC_end 51 = .ok (.ishr, 1) := by decide +kernel
theorem d_MC_end_52 : decode b_MC_end 52 = .ok (.sipush 255, 3) := by decide +kernel
theorem d_MC_end_55 : decode b_MC_end 55 = .ok (.iand, 1) := by decide +kernel
theorem d_MC_end_56 : decode b_MC_end 56 = .ok (.invokevirtual 67, 3) := by decide +kernel
theorem d_MC_end_59 : decode b_MC_end 59 = .ok (.iinc 2 1, 3) := by decide +kernel
theorem d_MC_end_62 : decode b_MC_end 62 = .ok (.goto (-37), 3) := by decide +kernel
theorem d_MC_end_65 : decode b_MC_end 65 = .ok (.aload_n 0, 1) := by decide +kernel
theorem d_MC_end_66 : decode b_MC_end 66 = .ok (.iconst 0, 1) := by decide +kernel
theorem d_MC_end_67 : decode b_MC_end 67 = .ok (.iconst 0, 1) := by decide +kernel
theorem d_MC_end_68 : decode b_MC_end 68 = .ok (.iconst 0, 1) := by decide +kernel
theorem d_MC_end_69 : decode b_MC_end 69 = .ok (.iconst 0, 1) := by decide +kernel
theorem d_MC_end_70 : decode b_MC_end 70 = .ok (.iconst 0, 1) := by decide +kernel
theorem d_MC_end_71 : decode b_MC_end 71 = .ok (.invokevirtual 70, 3) := by decide +kernel
theorem d_MC_end_74 : decode b_MC_end 74 = .ok (.aload_n 0, 1) := by decide +kernel
theorem d_MC_end_75 : decode b_MC_end 75 = .ok (.getfield 57, 3) := by decide +kernel
theorem d_MC_end_78 : decode b_MC_end 78 = .ok (.invokevirtual 74, 3) := by decide +kernel
theorem d_MC_end_81 : decode b_MC_end 81 = .ok (.ireturn, 1) := by decide +kernel
theorem d_Names_namesOf_0 : decode b_Names_namesOf 0 = .ok (.iload_n 0, 1) := by decide +kernel
theorem d_Names_namesOf_1 : decode b_Names_namesOf 1 = .ok (.tableswitch 85 0 9 #[55, 58, 61, 64, 67, 70, 73, 76, 79, 82], 55) := by decide +kernel
theorem d_Names_namesOf_56 : decode b_Names_namesOf 56 = .ok (.ldc 19, 2) := by decide +kernel
theorem d_Names_namesOf_58 : decode b_Names_namesOf 58 = .ok (.areturn, 1) := by decide +kernel
theorem d_Names_namesOf_59 : decode b_Names_namesOf 59 = .ok (.ldc 21, 2) := by decide +kernel
theorem d_Names_namesOf_61 : decode b_Names_namesOf 61 = .ok (.areturn, 1) := by decide +kernel
theorem d_Names_namesOf_62 : decode b_Names_namesOf 62 = .ok (.ldc 23, 2) := by decide +kernel
theorem d_Names_namesOf_64 : decode b_Names_namesOf 64 = .ok (.areturn, 1) := by decide +kernel
theorem d_Names_namesOf_65 : decode b_Names_namesOf 65 = .ok (.ldc 25, 2) := by decide +kernel
theorem d_Names_namesOf_67 : decode b_Names_namesOf 67 = .ok (.areturn, 1) := by decide +kernel
theorem d_Names_namesOf_68 : decode b_Names_namesOf 68 = .ok (.ldc 27, 2) := by decide +kernel
theorem d_Names_namesOf_70 : decode b_Names_namesOf 70 = .ok (.areturn, 1) := by decide +kernel
theorem d_Names_namesOf_71 : decode b_Names_namesOf 71 = .ok (.ldc 29, 2) := by decide +kernel
theorem d_Names_namesOf_73 : decode b_Names_namesOf 73 = .ok (.areturn, 1) := by decide +kernel
theorem d_Names_namesOf_74 : decode b_Names_namesOf 74 = .ok (.ldc 31, 2) := by decide +kernel
theorem d_Names_namesOf_76 : decode b_Names_namesOf 76 = .ok (.areturn, 1) := by decide +kernel
theorem d_Names_namesOf_77 : decode b_Names_namesOf 77 = .ok (.ldc 33, 2) := by decide +kernel
theorem d_Names_namesOf_79 : decode b_Names_namesOf 79 = .ok (.areturn, 1) := by decide +kernel
theorem d_Names_namesOf_80 : decode b_Names_namesOf 80 = .ok (.ldc 35, 2) := by decide +kernel
theorem d_Names_namesOf_82 : decode b_Names_namesOf 82 = .ok (.areturn, 1) := by decide +kernel
theorem d_Names_namesOf_83 : decode b_Names_namesOf 83 = .ok (.ldc 37, 2) := by decide +kernel
theorem d_Names_namesOf_85 : decode b_Names_namesOf 85 = .ok (.areturn, 1) := by decide +kernel
theorem d_Names_namesOf_86 : decode b_Names_namesOf 86 = .ok (.ldc 39, 2) := by decide +kernel
theorem d_Names_namesOf_88 : decode b_Names_namesOf 88 = .ok (.areturn, 1) := by decide +kernel
theorem d_Names_small_0 : decode b_Names_small 0 = .ok (.iload_n 0, 1) := by decide +kernel
theorem d_Names_small_1 : decode b_Names_small 1 = .ok (.bipush 65, 2) := by decide +kernel
theorem d_Names_small_3 : decode b_Names_small 3 = .ok (.if_icmp .lt 16, 3) := by decide +kernel
theorem d_Names_small_6 : decode b_Names_small 6 = .ok (.iload_n 0, 1) := by decide +kernel
theorem d_Names_small_7 : decode b_Names_small 7 = .ok (.bipush 90, 2) := by decide +kernel
theorem d_Names_small_9 : decode b_Names_small 9 = .ok (.if_icmp .gt 10, 3) := by decide +kernel
theorem d_Names_small_12 : decode b_Names_small 12 = .ok (.iload_n 0, 1) := by decide +kernel
theorem d_Names_small_13 : decode b_Names_small 13 = .ok (.bipush 32, 2) := by decide +kernel
theorem d_Names_small_15 : decode b_Names_small 15 = .ok (.iadd, 1) := by decide +kernel
theorem d_Names_small_16 : decode b_Names_small 16 = .ok (.goto 4, 3) := by decide +kernel
theorem d_Names_small_19 : decode b_Names_small 19 = .ok (.iload_n 0, 1) := by decide +kernel
theorem d_Names_small_20 : decode b_Names_small 20 = .ok (.ireturn, 1) := by decide +kernel
theorem d_Word_endOfName_0 : decode b_Word_endOfName 0 = .ok (.iload_n 1, 1) := by decide +kernel
theorem d_Word_endOfName_1 : decode b_Word_endOfName 1 = .ok (.istore_n 2, 1) := by decide +kernel
theorem d_Word_endOfName_2 : decode b_Word_endOfName 2 = .ok (.iload_n 2, 1) := by decide +kernel
theorem d_Word_endOfName_3 : decode b_Word_endOfName 3 = .ok (.aload_n 0, 1) := by decide +kernel
theorem d_Word_endOfName_4 : decode b_Word_endOfName 4 = .ok (.invokevirtual 54, 3) := by decide +kernel
theorem d_Word_endOfName_7 : decode b_Word_endOfName 7 = .ok (.if_icmp .ge 21, 3) := by decide +kernel
theorem d_Word_endOfName_10 : decode b_Word_endOfName 10 = .ok (.aload_n 0, 1) := by decide +kernel
theorem d_Word_endOfName_11 : decode b_Word_endOfName 11 = .ok (.iload_n 2, 1) := by decide +kernel
theorem d_Word_endOfName_12 : decode b_Word_endOfName 12 = .ok (.invokevirtual 9, 3) := by decide +kernel
theorem d_Word_endOfName_15 : decode b_Word_endOfName 15 = .ok (.bipush 63, 2) := by decide +kernel
theorem d_Word_endOfName_17 : decode b_Word_endOfName 17 = .ok (.if_icmp .ne 5, 3) := by decide +kernel
theorem d_Word_endOfName_20 : decode b_Word_endOfName 20 = .ok (.iload_n 2, 1) := by decide +kernel
theorem d_Word_endOfName_21 : decode b_Word_endOfName 21 = .ok (.ireturn, 1) := by decide +kernel
theorem d_Word_endOfName_22 : decode b_Word_endOfName 22 = .ok (.iinc 2 1, 3) := by decide +kernel
theorem d_Word_endOfName_25 : decode b_Word_endOfName 25 = .ok (.goto (-23), 3) := by decide +kernel
theorem d_Word_endOfName_28 : decode b_Word_endOfName 28 = .ok (.aload_n 0, 1) := by decide +kernel
theorem d_Word_endOfName_29 : decode b_Word_endOfName 29 = .ok (.invokevirtual 54, 3) := by decide +kernel
theorem d_Word_endOfName_32 : decode b_Word_endOfName 32 = .ok (.ireturn, 1) := by decide +kernel
theorem d_Word_takesKind_0 : decode b_Word_takesKind 0 = .ok (.aload_n 0, 1) := by decide +kernel
theorem d_Word_takesKind_1 : decode b_Word_takesKind 1 = .ok (.iload_n 1, 1) := by decide +kernel
theorem d_Word_takesKind_2 : decode b_Word_takesKind 2 = .ok (.bipush 66, 2) := by decide +kernel
theorem d_Word_takesKind_4 : decode b_Word_takesKind 4 = .ok (.if_icmp .eq 9, 3) := by decide +kernel
theorem d_Word_takesKind_7 : decode b_Word_takesKind 7 = .ok (.iload_n 1, 1) := by decide +kernel
theorem d_Word_takesKind_8 : decode b_Word_takesKind 8 = .ok (.bipush 98, 2) := by decide +kernel
theorem d_Word_takesKind_10 : decode b_Word_takesKind 10 = .ok (.if_icmp .ne 7, 3) := by decide +kernel
theorem d_Word_takesKind_13 : decode b_Word_takesKind 13 = .ok (.iconst 1, 1) := by decide +kernel
theorem d_Word_takesKind_14 : decode b_Word_takesKind 14 = .ok (.goto 4, 3) := by decide +kernel
theorem d_Word_takesKind_17 : decode b_Word_takesKind 17 = .ok (.iconst 0, 1) := by decide +kernel
theorem d_Word_takesKind_18 : decode b_Word_takesKind 18 = .ok (.putfield 50, 3) := by decide +kernel
theorem d_Word_takesKind_21 : decode b_Word_takesKind 21 = .ok (.aload_n 0, 1) := by decide +kernel
theorem d_Word_takesKind_22 : decode b_Word_takesKind 22 = .ok (.getfield 50, 3) := by decide +kernel
theorem d_Word_takesKind_25 : decode b_Word_takesKind 25 = .ok (.ifCond .ne 15, 3) := by decide +kernel
theorem d_Word_takesKind_28 : decode b_Word_takesKind 28 = .ok (.iload_n 1, 1) := by decide +kernel
theorem d_Word_takesKind_29 : decode b_Word_takesKind 29 = .ok (.bipush 81, 2) := by decide +kernel
theorem d_Word_takesKind_31 : decode b_Word_takesKind 31 = .ok (.if_icmp .eq 9, 3) := by decide +kernel
theorem d_Word_takesKind_34 : decode b_Word_takesKind 34 = .ok (.iload_n 1, 1) := by decide +kernel
theorem d_Word_takesKind_35 : decode b_Word_takesKind 35 = .ok (.bipush 113, 2) := by decide +kernel
theorem d_Word_takesKind_37 : decode b_Word_takesKind 37 = .ok (.if_icmp .ne 7, 3) := by decide +kernel
theorem d_Word_takesKind_40 : decode b_Word_takesKind 40 = .ok (.iconst 1, 1) := by decide +kernel
theorem d_Word_takesKind_41 : decode b_Word_takesKind 41 = .ok (.goto 4, 3) := by decide +kernel
theorem d_Word_takesKind_44 : decode b_Word_takesKind 44 = .ok (.iconst 0, 1) := by decide +kernel
theorem d_Word_takesKind_45 : decode b_Word_takesKind 45 = .ok (.ireturn, 1) := by decide +kernel
theorem d_Word_endOfBytes_0 : decode b_Word_endOfBytes 0 = .ok (.iload_n 1, 1) := by decide +kernel
theorem d_Word_endOfBytes_1 : decode b_Word_endOfBytes 1 = .ok (.istore_n 2, 1) := by decide +kernel
theorem d_Word_endOfBytes_2 : decode b_Word_endOfBytes 2 = .ok (.iload_n 2, 1) := by decide +kernel
theorem d_Word_endOfBytes_3 : decode b_Word_endOfBytes 3 = .ok (.aload_n 0, 1) := by decide +kernel
theorem d_Word_endOfBytes_4 : decode b_Word_endOfBytes 4 = .ok (.invokevirtual 54, 3) := by decide +kernel
theorem d_Word_endOfBytes_7 : decode b_Word_endOfBytes 7 = .ok (.if_icmp .ge 35, 3) := by decide +kernel
theorem d_Word_endOfBytes_10 : decode b_Word_endOfBytes 10 = .ok (.aload_n 0, 1) := by decide +kernel
theorem d_Word_endOfBytes_11 : decode b_Word_endOfBytes 11 = .ok (.iload_n 2, 1) := by decide +kernel
theorem d_Word_endOfBytes_12 : decode b_Word_endOfBytes 12 = .ok (.invokevirtual 9, 3) := by decide +kernel
theorem d_Word_endOfBytes_15 : decode b_Word_endOfBytes 15 = .ok (.istore_n 3, 1) := by decide +kernel
theorem d_Word_endOfBytes_16 : decode b_Word_endOfBytes 16 = .ok (.iload_n 3, 1) := by decide +kernel
theorem d_Word_endOfBytes_17 : decode b_Word_endOfBytes 17 = .ok (.bipush 63, 2) := by decide +kernel
theorem d_Word_endOfBytes_19 : decode b_Word_endOfBytes 19 = .ok (.if_icmp .eq 15, 3) := by decide +kernel
theorem d_Word_endOfBytes_22 : decode b_Word_endOfBytes 22 = .ok (.iload_n 3, 1) := by decide +kernel
theorem d_Word_endOfBytes_23 : decode b_Word_endOfBytes 23 = .ok (.bipush 32, 2) := by decide +kernel
theorem d_Word_endOfBytes_25 : decode b_Word_endOfBytes 25 = .ok (.if_icmp .eq 9, 3) := by decide +kernel
theorem d_Word_endOfBytes_28 : decode b_Word_endOfBytes 28 = .ok (.iload_n 3, 1) := by decide +kernel
theorem d_Word_endOfBytes_29 : decode b_Word_endOfBytes 29 = .ok (.bipush 9, 2) := by decide +kernel
theorem d_Word_endOfBytes_31 : decode b_Word_endOfBytes 31 = .ok (.if_icmp .ne 5, 3) := by decide +kernel
theorem d_Word_endOfBytes_34 : decode b_Word_endOfBytes 34 = .ok (.iload_n 2, 1) := by decide +kernel
theorem d_Word_endOfBytes_35 : decode b_Word_endOfBytes 35 = .ok (.ireturn, 1) := by decide +kernel
theorem d_Word_endOfBytes_36 : decode b_Word_endOfBytes 36 = .ok (.iinc 2 1, 3) := by decide +kernel
theorem d_Word_endOfBytes_39 : decode b_Word_endOfBytes 39 = .ok (.goto (-37), 3) := by decide +kernel
theorem d_Word_endOfBytes_42 : decode b_Word_endOfBytes 42 = .ok (.aload_n 0, 1) := by decide +kernel
theorem d_Word_endOfBytes_43 : decode b_Word_endOfBytes 43 = .ok (.invokevirtual 54, 3) := by decide +kernel
theorem d_Word_endOfBytes_46 : decode b_Word_endOfBytes 46 = .ok (.ireturn, 1) := by decide +kernel
theorem d_Word_starOrEnd_0 : decode b_Word_starOrEnd 0 = .ok (.iload_n 1, 1) := by decide +kernel
theorem d_Word_starOrEnd_1 : decode b_Word_starOrEnd 1 = .ok (.istore_n 3, 1) := by decide +kernel
theorem d_Word_starOrEnd_2 : decode b_Word_starOrEnd 2 = .ok (.iload_n 3, 1) := by decide +kernel
theorem d_Word_starOrEnd_3 : decode b_Word_starOrEnd 3 = .ok (.iload_n 2, 1) := by decide +kernel
theorem d_Word_starOrEnd_4 : decode b_Word_starOrEnd 4 = .ok (.if_icmp .ge 21, 3) := by decide +kernel
theorem d_Word_starOrEnd_7 : decode b_Word_starOrEnd 7 = .ok (.aload_n 0, 1) := by decide +kernel
theorem d_Word_starOrEnd_8 : decode b_Word_starOrEnd 8 = .ok (.iload_n 3, 1) := by decide +kernel
theorem d_Word_starOrEnd_9 : decode b_Word_starOrEnd 9 = .ok (.invokevirtual 9, 3) := by decide +kernel
theorem d_Word_starOrEnd_12 : decode b_Word_starOrEnd 12 = .ok (.bipush 42, 2) := by decide +kernel
theorem d_Word_starOrEnd_14 : decode b_Word_starOrEnd 14 = .ok (.if_icmp .ne 5, 3) := by decide +kernel
theorem d_Word_starOrEnd_17 : decode b_Word_starOrEnd 17 = .ok (.iload_n 3, 1) := by decide +kernel
theorem d_Word_starOrEnd_18 : decode b_Word_starOrEnd 18 = .ok (.ireturn, 1) := by decide +kernel
theorem d_Word_starOrEnd_19 : decode b_Word_starOrEnd 19 = .ok (.iinc 3 1, 3) := by decide +kernel
theorem d_Word_starOrEnd_22 : decode b_Word_starOrEnd 22 = .ok (.goto (-20), 3) := by decide +kernel
theorem d_Word_starOrEnd_25 : decode b_Word_starOrEnd 25 = .ok (.iload_n 2, 1) := by decide +kernel
theorem d_Word_starOrEnd_26 : decode b_Word_starOrEnd 26 = .ok (.ireturn, 1) := by decide +kernel
theorem d_MC_isBlank_0 : decode b_MC_isBlank 0 = .ok (.iload_n 1, 1) := by decide +kernel
theorem d_MC_isBlank_1 : decode b_MC_isBlank 1 = .ok (.istore_n 3, 1) := by decide +kernel
theorem d_MC_isBlank_2 : decode b_MC_isBlank 2 = .ok (.iload_n 3, 1) := by decide +kernel
theorem d_MC_isBlank_3 : decode b_MC_isBlank 3 = .ok (.iload_n 2, 1) := by decide +kernel
theorem d_MC_isBlank_4 : decode b_MC_isBlank 4 = .ok (.if_icmp .ge 49, 3) := by decide +kernel
theorem d_MC_isBlank_7 : decode b_MC_isBlank 7 = .ok (.aload_n 0, 1) := by decide +kernel
theorem d_MC_isBlank_8 : decode b_MC_isBlank 8 = .ok (.getfield 57, 3) := by decide +kernel
theorem d_MC_isBlank_11 : decode b_MC_isBlank 11 = .ok (.iload_n 3, 1) := by decide +kernel
theorem d_MC_isBlank_12 : decode b_MC_isBlank 12 = .ok (.invokevirtual 142, 3) := by decide +kernel
theorem d_MC_isBlank_15 : decode b_MC_isBlank 15 = .ok (.istore 4, 2) := by decide +kernel
theorem d_MC_isBlank_17 : decode b_MC_isBlank 17 = .ok (.iload 4, 2) := by decide +kernel
theorem d_MC_isBlank_19 : decode b_MC_isBlank 19 = .ok (.bipush 32, 2) := by decide +kernel
theorem d_MC_isBlank_21 : decode b_MC_isBlank 21 = .ok (.if_icmp .eq 26, 3) := by decide +kernel
theorem d_MC_isBlank_24 : decode b_MC_isBlank 24 = .ok (.iload 4, 2) := by decide +kernel
theorem d_MC_isBlank_26 : decode b_MC_isBlank 26 = .ok (.bipush 9, 2) := by decide +kernel
theorem d_MC_isBlank_28 : decode b_MC_isBlank 28 = .ok (.if_icmp .eq 19, 3) := by decide +kernel
theorem d_MC_isBlank_31 : decode b_MC_isBlank 31 = .ok (.iload 4, 2) := by decide +kernel
theorem d_MC_isBlank_33 : decode b_MC_isBlank 33 = .ok (.bipush 13, 2) := by decide +kernel
theorem d_MC_isBlank_35 : decode b_MC_isBlank 35 = .ok (.if_icmp .eq 12, 3) := by decide +kernel
theorem d_MC_isBlank_38 : decode b_MC_isBlank 38 = .ok (.iload 4, 2) := by decide +kernel
theorem d_MC_isBlank_40 : decode b_MC_isBlank 40 = .ok (.bipush 10, 2) := by decide +kernel
theorem d_MC_isBlank_42 : decode b_MC_isBlank 42 = .ok (.if_icmp .eq 5, 3) := by decide +kernel
theorem d_MC_isBlank_45 : decode b_MC_isBlank 45 = .ok (.iconst 0, 1) := by decide +kernel
theorem d_MC_isBlank_46 : decode b_MC_isBlank 46 = .ok (.ireturn, 1) := by decide +kernel
theorem d_MC_isBlank_47 : decode b_MC_isBlank 47 = .ok (.iinc 3 1, 3) := by decide +kernel
theorem d_MC_isBlank_50 : decode b_MC_isBlank 50 = .ok (.goto (-48), 3) := by decide +kernel
theorem d_MC_isBlank_53 : decode b_MC_isBlank 53 = .ok (.iconst 1, 1) := by decide +kernel
theorem d_MC_isBlank_54 : decode b_MC_isBlank 54 = .ok (.ireturn, 1) := by decide +kernel
theorem d_Reader_bytesBehind_0 : decode b_Reader_bytesBehind 0 = .ok (.iload_n 0, 1) := by decide +kernel
theorem d_Reader_bytesBehind_1 : decode b_Reader_bytesBehind 1 = .ok (.sipush 194, 3) := by decide +kernel
theorem d_Reader_bytesBehind_4 : decode b_Reader_bytesBehind 4 = .ok (.if_icmp .lt 10, 3) := by decide +kernel
theorem d_Reader_bytesBehind_7 : decode b_Reader_bytesBehind 7 = .ok (.iload_n 0, 1) := by decide +kernel
theorem d_Reader_bytesBehind_8 : decode b_Reader_bytesBehind 8 = .ok (.sipush 244, 3) := by decide +kernel
theorem d_Reader_bytesBehind_11 : decode b_Reader_bytesBehind 11 = .ok (.if_icmp .le 5, 3) := by decide +kernel
theorem d_Reader_bytesBehind_14 : decode b_Reader_bytesBehind 14 = .ok (.iconst 0, 1) := by decide +kernel
theorem d_Reader_bytesBehind_15 : decode b_Reader_bytesBehind 15 = .ok (.ireturn, 1) := by decide +kernel
theorem d_Reader_bytesBehind_16 : decode b_Reader_bytesBehind 16 = .ok (.iload_n 0, 1) := by decide +kernel
theorem d_Reader_bytesBehind_17 : decode b_Reader_bytesBehind 17 = .ok (.sipush 224, 3) := by decide +kernel
theorem d_Reader_bytesBehind_20 : decode b_Reader_bytesBehind 20 = .ok (.if_icmp .ge 5, 3) := by decide +kernel
theorem d_Reader_bytesBehind_23 : decode b_Reader_bytesBehind 23 = .ok (.iconst 1, 1) := by decide +kernel
theorem d_Reader_bytesBehind_24 : decode b_Reader_bytesBehind 24 = .ok (.ireturn, 1) := by decide +kernel
theorem d_Reader_bytesBehind_25 : decode b_Reader_bytesBehind 25 = .ok (.iload_n 0, 1) := by decide +kernel
theorem d_Reader_bytesBehind_26 : decode b_Reader_bytesBehind 26 = .ok (.sipush 240, 3) := by decide +kernel
theorem d_Reader_bytesBehind_29 : decode b_Reader_bytesBehind 29 = .ok (.if_icmp .ge 7, 3) := by decide +kernel
theorem d_Reader_bytesBehind_32 : decode b_Reader_bytesBehind 32 = .ok (.iconst 2, 1) := by decide +kernel
theorem d_Reader_bytesBehind_33 : decode b_Reader_bytesBehind 33 = .ok (.goto 4, 3) := by decide +kernel
theorem d_Reader_bytesBehind_36 : decode b_Reader_bytesBehind 36 = .ok (.iconst 3, 1) := by decide +kernel
theorem d_Reader_bytesBehind_37 : decode b_Reader_bytesBehind 37 = .ok (.ireturn, 1) := by decide +kernel
theorem d_Reader_lowestBehind_0 : decode b_Reader_lowestBehind 0 = .ok (.iload_n 0, 1) := by decide +kernel
theorem d_Reader_lowestBehind_1 : decode b_Reader_lowestBehind 1 = .ok (.sipush 224, 3) := by decide +kernel
theorem d_Reader_lowestBehind_4 : decode b_Reader_lowestBehind 4 = .ok (.if_icmp .ne 7, 3) := by decide +kernel
theorem d_Reader_lowestBehind_7 : decode b_Reader_lowestBehind 7 = .ok (.sipush 160, 3) := by decide +kernel
theorem d_Reader_lowestBehind_10 : decode b_Reader_lowestBehind 10 = .ok (.ireturn, 1) := by decide +kernel
theorem d_Reader_lowestBehind_11 : decode b_Reader_lowestBehind 11 = .ok (.iload_n 0, 1) := by decide +kernel
theorem d_Reader_lowestBehind_12 : decode b_Reader_lowestBehind 12 = .ok (.sipush 240, 3) := by decide +kernel
theorem d_Reader_lowestBehind_15 : decode b_Reader_lowestBehind 15 = .ok (.if_icmp .ne 9, 3) := by decide +kernel
theorem d_Reader_lowestBehind_18 : decode b_Reader_lowestBehind 18 = .ok (.sipush 144, 3) := by decide +kernel
theorem d_Reader_lowestBehind_21 : decode b_Reader_lowestBehind 21 = .ok (.goto 6, 3) := by decide +kernel
theorem d_Reader_lowestBehind_24 : decode b_Reader_lowestBehind 24 = .ok (.sipush 128, 3) := by decide +kernel
theorem d_Reader_lowestBehind_27 : decode b_Reader_lowestBehind 27 = .ok (.ireturn, 1) := by decide +kernel
theorem d_Reader_highestBehind_0 : decode b_Reader_highestBehind 0 = .ok (.iload_n 0, 1) := by decide +kernel
theorem d_Reader_highestBehind_1 : decode b_Reader_highestBehind 1 = .ok (.sipush 237, 3) := by decide +kernel
theorem d_Reader_highestBehind_4 : decode b_Reader_highestBehind 4 = .ok (.if_icmp .ne 7, 3) := by decide +kernel
theorem d_Reader_highestBehind_7 : decode b_Reader_highestBehind 7 = .ok (.sipush 159, 3) := by decide +kernel
theorem d_Reader_highestBehind_10 : decode b_Reader_highestBehind 10 = .ok (.ireturn, 1) := by decide +kernel
theorem d_Reader_highestBehind_11 : decode b_Reader_highestBehind 11 = .ok (.iload_n 0, 1) := by decide +kernel
theorem d_Reader_highestBehind_12 : decode b_Reader_highestBehind 12 = .ok (.sipush 244, 3) := by decide +kernel
theorem d_Reader_highestBehind_15 : decode b_Reader_highestBehind 15 = .ok (.if_icmp .ne 9, 3) := by decide +kernel
theorem d_Reader_highestBehind_18 : decode b_Reader_highestBehind 18 = .ok (.sipush 143, 3) := by decide +kernel
theorem d_Reader_highestBehind_21 : decode b_Reader_highestBehind 21 = .ok (.goto 6, 3) := by decide +kernel
theorem d_Reader_highestBehind_24 : decode b_Reader_highestBehind 24 = .ok (.sipush 191, 3) := by decide +kernel
theorem d_Reader_highestBehind_27 : decode b_Reader_highestBehind 27 = .ok (.ireturn, 1) := by decide +kernel
theorem d_Reader_endUnits_0 : decode b_Reader_endUnits 0 = .ok (.aload_n 0, 1) := by decide +kernel
theorem d_Reader_endUnits_1 : decode b_Reader_endUnits 1 = .ok (.getfield 94, 3) := by decide +kernel
theorem d_Reader_endUnits_4 : decode b_Reader_endUnits 4 = .ok (.ifCond .eq 14, 3) := by decide +kernel
theorem d_Reader_endUnits_7 : decode b_Reader_endUnits 7 = .ok (.aload_n 1, 1) := by decide +kernel
theorem d_Reader_endUnits_8 : decode b_Reader_endUnits 8 = .ok (.ldc 52, 2) := by decide +kernel
theorem d_Reader_endUnits_10 : decode b_Reader_endUnits 10 = .ok (.invokevirtual 48, 3) := by decide +kernel
theorem d_Reader_endUnits_13 : decode b_Reader_endUnits 13 = .ok (.aload_n 0, 1) := by decide +kernel
theorem d_Reader_endUnits_14 : decode b_Reader_endUnits 14 = .ok (.iconst 0, 1) := by decide +kernel
theorem d_Reader_endUnits_15 : decode b_Reader_endUnits 15 = .ok (.putfield 94, 3) := by decide +kernel
theorem d_Reader_endUnits_18 : decode b_Reader_endUnits 18 = .ok (.return_, 1) := by decide +kernel
theorem d_Letters_sixBitsOf_0 : decode b_Letters_sixBitsOf 0 = .ok (.iload_n 0, 1) := by decide +kernel
theorem d_Letters_sixBitsOf_1 : decode b_Letters_sixBitsOf 1 = .ok (.bipush 65, 2) := by decide +kernel
theorem d_Letters_sixBitsOf_3 : decode b_Letters_sixBitsOf 3 = .ok (.if_icmp .lt 14, 3) := by decide +kernel
theorem d_Letters_sixBitsOf_6 : decode b_Letters_sixBitsOf 6 = .ok (.iload_n 0, 1) := by decide +kernel
theorem d_Letters_sixBitsOf_7 : decode b_Letters_sixBitsOf 7 = .ok (.bipush 90, 2) := by decide +kernel
theorem d_Letters_sixBitsOf_9 : decode b_Letters_sixBitsOf 9 = .ok (.if_icmp .gt 8, 3) := by decide +kernel
theorem d_Letters_sixBitsOf_12 : decode b_Letters_sixBitsOf 12 = .ok (.iload_n 0, 1) := by decide +kernel
theorem d_Letters_sixBitsOf_13 : decode b_Letters_sixBitsOf 13 = .ok (.bipush 65, 2) := by decide +kernel
theorem d_Letters_sixBitsOf_15 : decode b_Letters_sixBitsOf 15 = .ok (.isub, 1) := by decide +kernel
theorem d_Letters_sixBitsOf_16 : decode b_Letters_sixBitsOf 16 = .ok (.ireturn, 1) := by decide +kernel
theorem d_Letters_sixBitsOf_17 : decode b_Letters_sixBitsOf 17 = .ok (.iload_n 0, 1) := by decide +kernel
theorem d_Letters_sixBitsOf_18 : decode b_Letters_sixBitsOf 18 = .ok (.bipush 97, 2) := by decide +kernel
theorem d_Letters_sixBitsOf_20 : decode b_Letters_sixBitsOf 20 = .ok (.if_icmp .lt 17, 3) := by decide +kernel
theorem d_Letters_sixBitsOf_23 : decode b_Letters_sixBitsOf 23 = .ok (.iload_n 0, 1) := by decide +kernel
theorem d_Letters_sixBitsOf_24 : decode b_Letters_sixBitsOf 24 = .ok (.bipush 122, 2) := by decide +kernel
theorem d_Letters_sixBitsOf_26 : decode b_Letters_sixBitsOf 26 = .ok (.if_icmp .gt 11, 3) := by decide +kernel
theorem d_Letters_sixBitsOf_29 : decode b_Letters_sixBitsOf 29 = .ok (.iload_n 0, 1) := by decide +kernel
theorem d_Letters_sixBitsOf_30 : decode b_Letters_sixBitsOf 30 = .ok (.bipush 97, 2) := by decide +kernel
theorem d_Letters_sixBitsOf_32 : decode b_Letters_sixBitsOf 32 = .ok (.isub, 1) := by decide +kernel
theorem d_Letters_sixBitsOf_33 : decode b_Letters_sixBitsOf 33 = .ok (.bipush 26, 2) := by decide +kernel
theorem d_Letters_sixBitsOf_35 : decode b_Letters_sixBitsOf 35 = .ok (.iadd, 1) := by decide +kernel
theorem d_Letters_sixBitsOf_36 : decode b_Letters_sixBitsOf 36 = .ok (.ireturn, 1) := by decide +kernel
theorem d_Letters_sixBitsOf_37 : decode b_Letters_sixBitsOf 37 = .ok (.iload_n 0, 1) := by decide +kernel
theorem d_Letters_sixBitsOf_38 : decode b_Letters_sixBitsOf 38 = .ok (.bipush 48, 2) := by decide +kernel
theorem d_Letters_sixBitsOf_40 : decode b_Letters_sixBitsOf 40 = .ok (.if_icmp .lt 17, 3) := by decide +kernel
theorem d_Letters_sixBitsOf_43 : decode b_Letters_sixBitsOf 43 = .ok (.iload_n 0, 1) := by decide +kernel
theorem d_Letters_sixBitsOf_44 : decode b_Letters_sixBitsOf 44 = .ok (.bipush 57, 2) := by decide +kernel
theorem d_Letters_sixBitsOf_46 : decode b_Letters_sixBitsOf 46 = .ok (.if_icmp .gt 11, 3) := by decide +kernel
theorem d_Letters_sixBitsOf_49 : decode b_Letters_sixBitsOf 49 = .ok (.iload_n 0, 1) := by decide +kernel
theorem d_Letters_sixBitsOf_50 : decode b_Letters_sixBitsOf 50 = .ok (.bipush 48, 2) := by decide +kernel
theorem d_Letters_sixBitsOf_52 : decode b_Letters_sixBitsOf 52 = .ok (.isub, 1) := by decide +kernel
theorem d_Letters_sixBitsOf_53 : decode b_Letters_sixBitsOf 53 = .ok (.bipush 52, 2) := by decide +kernel
theorem d_Letters_sixBitsOf_55 : decode b_Letters_sixBitsOf 55 = .ok (.iadd, 1) := by decide +kernel
theorem d_Letters_sixBitsOf_56 : decode b_Letters_sixBitsOf 56 = .ok (.ireturn, 1) := by decide +kernel
theorem d_Letters_sixBitsOf_57 : decode b_Letters_sixBitsOf 57 = .ok (.iload_n 0, 1) := by decide +kernel
theorem d_Letters_sixBitsOf_58 : decode b_Letters_sixBitsOf 58 = .ok (.bipush 43, 2) := by decide +kernel
theorem d_Letters_sixBitsOf_60 : decode b_Letters_sixBitsOf 60 = .ok (.if_icmp .ne 6, 3) := by decide +kernel
theorem d_Letters_sixBitsOf_63 : decode b_Letters_sixBitsOf 63 = .ok (.bipush 62, 2) := by decide +kernel
theorem d_Letters_sixBitsOf_65 : decode b_Letters_sixBitsOf 65 = .ok (.ireturn, 1) := by decide +kernel
theorem d_Letters_sixBitsOf_66 : decode b_Letters_sixBitsOf 66 = .ok (.iload_n 0, 1) := by decide +kernel
theorem d_Letters_sixBitsOf_67 : decode b_Letters_sixBitsOf 67 = .ok (.bipush 47, 2) := by decide +kernel
theorem d_Letters_sixBitsOf_69 : decode b_Letters_sixBitsOf 69 = .ok (.if_icmp .ne 8, 3) := by decide +kernel
theorem d_Letters_sixBitsOf_72 : decode b_Letters_sixBitsOf 72 = .ok (.bipush 63, 2) := by decide +kernel
theorem d_Letters_sixBitsOf_74 : decode b_Letters_sixBitsOf 74 = .ok (.goto 4, 3) := by decide +kernel
theorem d_Letters_sixBitsOf_77 : decode b_Letters_sixBitsOf 77 = .ok (.iconst (-1), 1) := by decide +kernel
theorem d_Letters_sixBitsOf_78 : decode b_Letters_sixBitsOf 78 = .ok (.ireturn, 1) := by decide +kernel
theorem d_Bits_add_0 : decode b_Bits_add 0 = .ok (.aload_n 0, 1) := by decide +kernel
theorem d_Bits_add_1 : decode b_Bits_add 1 = .ok (.aload_n 0, 1) := by decide +kernel
theorem d_Bits_add_2 : decode b_Bits_add 2 = .ok (.getfield 7, 3) := by decide +kernel
theorem d_Bits_add_5 : decode b_Bits_add 5 = .ok (.iload_n 2, 1) := by decide +kernel
theorem d_Bits_add_6 : decode b_Bits_add 6 = .ok (.ishl, 1) := by decide +kernel
theorem d_Bits_add_7 : decode b_Bits_add 7 = .ok (.iload_n 1, 1) := by decide +kernel
theorem d_Bits_add_8 : decode b_Bits_add 8 = .ok (.ior, 1) := by decide +kernel
theorem d_Bits_add_9 : decode b_Bits_add 9 = .ok (.putfield 7, 3) := by decide +kernel
theorem d_Bits_add_12 : decode b_Bits_add 12 = .ok (.aload_n 0, 1) := by decide +kernel
theorem d_Bits_add_13 : decode b_Bits_add 13 = .ok (.dup, 1) := by decide +kernel
theorem d_Bits_add_14 : decode b_Bits_add 14 = .ok (.getfield 13, 3) := by decide +kernel
theorem d_Bits_add_17 : decode b_Bits_add 17 = .ok (.iload_n 2, 1) := by decide +kernel
theorem d_Bits_add_18 : decode b_Bits_add 18 = .ok (.iadd, 1) := by decide +kernel
theorem d_Bits_add_19 : decode b_Bits_add 19 = .ok (.putfield 13, 3) := by decide +kernel
theorem d_Bits_add_22 : decode b_Bits_add 22 = .ok (.return_, 1) := by decide +kernel
theorem d_Bits_has_0 : decode b_Bits_has 0 = .ok (.aload_n 0, 1) := by decide +kernel
theorem d_Bits_has_1 : decode b_Bits_has 1 = .ok (.getfield 13, 3) := by decide +kernel
theorem d_Bits_has_4 : decode b_Bits_has 4 = .ok (.iload_n 1, 1) := by decide +kernel
theorem d_Bits_has_5 : decode b_Bits_has 5 = .ok (.if_icmp .lt 7, 3) := by decide +kernel
theorem d_Bits_has_8 : decode b_Bits_has 8 = .ok (.iconst 1, 1) := by decide +kernel
theorem d_Bits_has_9 : decode b_Bits_has 9 = .ok (.goto 4, 3) := by decide +kernel
theorem d_Bits_has_12 : decode b_Bits_has 12 = .ok (.iconst 0, 1) := by decide +kernel
theorem d_Bits_has_13 : decode b_Bits_has 13 = .ok (.ireturn, 1) := by decide +kernel
theorem d_Bits_take_0 : decode b_Bits_take 0 = .ok (.aload_n 0, 1) := by decide +kernel
theorem d_Bits_take_1 : decode b_Bits_take 1 = .ok (.dup, 1) := by decide +kernel
theorem d_Bits_take_2 : decode b_Bits_take 2 = .ok (.getfield 13, 3) := by decide +kernel
theorem d_Bits_take_5 : decode b_Bits_take 5 = .ok (.iload_n 1, 1) := by decide +kernel
theorem d_Bits_take_6 : decode b_Bits_take 6 = .ok (.isub, 1) := by decide +kernel
theorem d_Bits_take_7 : decode b_Bits_take 7 = .ok (.putfield 13, 3) := by decide +kernel
theorem d_Bits_take_10 : decode b_Bits_take 10 = .ok (.aload_n 0, 1) := by decide +kernel
theorem d_Bits_take_11 : decode b_Bits_take 11 = .ok (.getfield 7, 3) := by decide +kernel
theorem d_Bits_take_14 : decode b_Bits_take 14 = .ok (.aload_n 0, 1) := by decide +kernel
theorem d_Bits_take_15 : decode b_Bits_take 15 = .ok (.getfield 13, 3) := by decide +kernel
theorem d_Bits_take_18 : decode b_Bits_take 18 = .ok (.ishr, 1) := by decide +kernel
theorem d_Bits_take_19 : decode b_Bits_take 19 = .ok (.iconst 1, 1) := by decide +kernel
theorem d_Bits_take_20 : decode b_Bits_take 20 = .ok (.iload_n 1, 1) := by decide +kernel
theorem d_Bits_take_21 : decode b_Bits_take 21 = .ok (.ishl, 1) := by decide +kernel
theorem d_Bits_take_22 : decode b_Bits_take 22 = .ok (.iconst 1, 1) := by decide +kernel
theorem d_Bits_take_23 : decode b_Bits_take 23 = .ok (.isub, 1) := by decide +kernel
theorem d_Bits_take_24 : decode b_Bits_take 24 = .ok (.iand, 1) := by decide +kernel
theorem d_Bits_take_25 : decode b_Bits_take 25 = .ok (.ireturn, 1) := by decide +kernel
theorem d_Bits_clear_0 : decode b_Bits_clear 0 = .ok (.aload_n 0, 1) := by decide +kernel
theorem d_Bits_clear_1 : decode b_Bits_clear 1 = .ok (.iconst 0, 1) := by decide +kernel
theorem d_Bits_clear_2 : decode b_Bits_clear 2 = .ok (.putfield 7, 3) := by decide +kernel
theorem d_Bits_clear_5 : decode b_Bits_clear 5 = .ok (.aload_n 0, 1) := by decide +kernel
theorem d_Bits_clear_6 : decode b_Bits_clear 6 = .ok (.iconst 0, 1) := by decide +kernel
theorem d_Bits_clear_7 : decode b_Bits_clear 7 = .ok (.putfield 13, 3) := by decide +kernel
theorem d_Bits_clear_10 : decode b_Bits_clear 10 = .ok (.return_, 1) := by decide +kernel
theorem d_SingleBytes_latin9CharacterOf_0 : decode b_SingleBytes_latin9CharacterOf 0 = .ok (.iconst 0, 1) := by decide +kernel
theorem d_SingleBytes_latin9CharacterOf_1 : decode b_SingleBytes_latin9CharacterOf 1 = .ok (.istore_n 1, 1) := by decide +kernel
theorem d_SingleBytes_latin9CharacterOf_2 : decode b_SingleBytes_latin9CharacterOf 2 = .ok (.iload_n 1, 1) := by decide +kernel
theorem d_SingleBytes_latin9CharacterOf_3 : decode b_SingleBytes_latin9CharacterOf 3 = .ok (.iconst 1, 1) := by decide +kernel
theorem d_SingleBytes_latin9CharacterOf_4 : decode b_SingleBytes_latin9CharacterOf 4 = .ok (.iadd, 1) := by decide +kernel
theorem d_SingleBytes_latin9CharacterOf_5 : decode b_SingleBytes_latin9CharacterOf 5 = .ok (.getstatic 36, 3) := by decide +kernel
theorem d_SingleBytes_latin9CharacterOf_8 : decode b_SingleBytes_latin9CharacterOf 8 = .ok (.arraylength, 1) := by decide +kernel
theorem d_SingleBytes_latin9CharacterOf_9 : decode b_SingleBytes_latin9CharacterOf 9 = .ok (.if_icmp .ge 26, 3) := by decide +kernel
theorem d_SingleBytes_latin9CharacterOf_12 : decode b_SingleBytes_latin9CharacterOf 12 = .ok (.getstatic 36, 3) := by decide +kernel
theorem d_SingleBytes_latin9CharacterOf_15 : decode b_SingleBytes_latin9CharacterOf 15 = .ok (.iload_n 1, 1) := by decide +kernel
theorem d_SingleBytes_latin9CharacterOf_16 : decode b_SingleBytes_latin9CharacterOf 16 = .ok (.iaload, 1) := by decide +kernel
theorem d_SingleBytes_latin9CharacterOf_17 : decode b_SingleBytes_latin9CharacterOf 17 = .ok (.iload_n 0, 1) := by decide +kernel
theorem d_SingleBytes_latin9CharacterOf_18 : decode b_SingleBytes_latin9CharacterOf 18 = .ok (.if_icmp .ne 11, 3) := by decide +kernel
theorem d_SingleBytes_latin9CharacterOf_21 : decode b_SingleBytes_latin9CharacterOf 21 = .ok (.getstatic 36, 3) := by decide +kernel
theorem d_SingleBytes_latin9CharacterOf_24 : decode b_SingleBytes_latin9CharacterOf 24 = .ok (.iload_n 1, 1) := by decide +kernel
theorem d_SingleBytes_latin9CharacterOf_25 : decode b_SingleBytes_latin9CharacterOf 25 = .ok (.iconst 1, 1) := by decide +kernel
theorem d_SingleBytes_latin9CharacterOf_26 : decode b_SingleBytes_latin9CharacterOf 26 = .ok (.iadd, 1) := by decide +kernel
theorem d_SingleBytes_latin9CharacterOf_27 : decode b_SingleBytes_latin9CharacterOf 27 = .ok (.iaload, 1) := by decide +kernel
theorem d_SingleBytes_latin9CharacterOf_28 : decode b_SingleBytes_latin9CharacterOf 28 = .ok (.ireturn, 1) := by decide +kernel
theorem d_SingleBytes_latin9CharacterOf_29 : decode b_SingleBytes_latin9CharacterOf 29 = .ok (.iinc 1 2, 3) := by decide +kernel
theorem d_SingleBytes_latin9CharacterOf_32 : decode b_SingleBytes_latin9CharacterOf 32 = .ok (.goto (-30), 3) := by decide +kernel
theorem d_SingleBytes_latin9CharacterOf_35 : decode b_SingleBytes_latin9CharacterOf 35 = .ok (.iload_n 0, 1) := by decide +kernel
theorem d_SingleBytes_latin9CharacterOf_36 : decode b_SingleBytes_latin9CharacterOf 36 = .ok (.ireturn, 1) := by decide +kernel
theorem d_SingleBytes_inRow_0 : decode b_SingleBytes_inRow 0 = .ok (.iload_n 1, 1) := by decide +kernel
theorem d_SingleBytes_inRow_1 : decode b_SingleBytes_inRow 1 = .ok (.ifCond .lt 15, 3) := by decide +kernel
theorem d_SingleBytes_inRow_4 : decode b_SingleBytes_inRow 4 = .ok (.iload_n 1, 1) := by decide +kernel
theorem d_SingleBytes_inRow_5 : decode b_SingleBytes_inRow 5 = .ok (.aload_n 0, 1) := by decide +kernel
theorem d_SingleBytes_inRow_6 : decode b_SingleBytes_inRow 6 = .ok (.arraylength, 1) := by decide +kernel
theorem d_SingleBytes_inRow_7 : decode b_SingleBytes_inRow 7 = .ok (.if_icmp .ge 9, 3) := by decide +kernel
theorem d_SingleBytes_inRow_10 : decode b_SingleBytes_inRow 10 = .ok (.aload_n 0, 1) := by decide +kernel
theorem d_SingleBytes_inRow_11 : decode b_SingleBytes_inRow 11 = .ok (.iload_n 1, 1) := by decide +kernel
theorem d_SingleBytes_inRow_12 : decode b_SingleBytes_inRow 12 = .ok (.iaload, 1) := by decide +kernel
theorem d_SingleBytes_inRow_13 : decode b_SingleBytes_inRow 13 = .ok (.goto 5, 3) := by decide +kernel
theorem d_SingleBytes_inRow_16 : decode b_SingleBytes_inRow 16 = .ok (.ldc 26, 2) := by decide +kernel
theorem d_SingleBytes_inRow_18 : decode b_SingleBytes_inRow 18 = .ok (.ireturn, 1) := by decide +kernel
theorem d_SingleBytes_koiCharacterOf_0 : decode b_SingleBytes_koiCharacterOf 0 = .ok (.iload_n 0, 1) := by decide +kernel
theorem d_SingleBytes_koiCharacterOf_1 : decode b_SingleBytes_koiCharacterOf 1 = .ok (.sipush 224, 3) := by decide +kernel
theorem d_SingleBytes_koiCharacterOf_4 : decode b_SingleBytes_koiCharacterOf 4 = .ok (.if_icmp .lt 18, 3) := by decide +kernel
theorem d_SingleBytes_koiCharacterOf_7 : decode b_SingleBytes_koiCharacterOf 7 = .ok (.getstatic 42, 3) := by decide +kernel
theorem d_SingleBytes_koiCharacterOf_10 : decode b_SingleBytes_koiCharacterOf 10 = .ok (.iload_n 0, 1) := by decide +kernel
theorem d_SingleBytes_koiCharacterOf_11 : decode b_SingleBytes_koiCharacterOf 11 = .ok (.sipush 224, 3) := by decide +kernel
theorem d_SingleBytes_koiCharacterOf_14 : decode b_SingleBytes_koiCharacterOf 14 = .ok (.isub, 1) := by decide +kernel
theorem d_SingleBytes_koiCharacterOf_15 : decode b_SingleBytes_koiCharacterOf 15 = .ok (.invokestatic 19, 3) := by decide +kernel
theorem d_SingleBytes_koiCharacterOf_18 : decode b_SingleBytes_koiCharacterOf 18 = .ok (.bipush 32, 2) := by decide +kernel
theorem d_SingleBytes_koiCharacterOf_20 : decode b_SingleBytes_koiCharacterOf 20 = .ok (.isub, 1) := by decide +kernel
theorem d_SingleBytes_koiCharacterOf_21 : decode b_SingleBytes_koiCharacterOf 21 = .ok (.ireturn, 1) := by decide +kernel
theorem d_SingleBytes_koiCharacterOf_22 : decode b_SingleBytes_koiCharacterOf 22 = .ok (.iload_n 0, 1) := by decide +kernel
theorem d_SingleBytes_koiCharacterOf_23 : decode b_SingleBytes_koiCharacterOf 23 = .ok (.sipush 192, 3) := by decide +kernel
theorem d_SingleBytes_koiCharacterOf_26 : decode b_SingleBytes_koiCharacterOf 26 = .ok (.if_icmp .lt 15, 3) := by decide +kernel
theorem d_SingleBytes_koiCharacterOf_29 : decode b_SingleBytes_koiCharacterOf 29 = .ok (.getstatic 42, 3) := by decide +kernel
theorem d_SingleBytes_koiCharacterOf_32 : decode b_SingleBytes_koiCharacterOf 32 = .ok (.iload_n 0, 1) := by decide +kernel
theorem d_SingleBytes_koiCharacterOf_33 : decode b_SingleBytes_koiCharacterOf 33 = .ok (.sipush 192, 3) := by decide +kernel
theorem d_SingleBytes_koiCharacterOf_36 : decode b_SingleBytes_koiCharacterOf 36 = .ok (.isub, 1) := by decide +kernel
theorem d_SingleBytes_koiCharacterOf_37 : decode b_SingleBytes_koiCharacterOf 37 = .ok (.invokestatic 19, 3) := by decide +kernel
theorem d_SingleBytes_koiCharacterOf_40 : decode b_SingleBytes_koiCharacterOf 40 = .ok (.ireturn, 1) := by decide +kernel
theorem d_SingleBytes_koiCharacterOf_41 : decode b_SingleBytes_koiCharacterOf 41 = .ok (.iload_n 0, 1) := by decide +kernel
theorem d_SingleBytes_koiCharacterOf_42 : decode b_SingleBytes_koiCharacterOf 42 = .ok (.sipush 163, 3) := by decide +kernel
theorem d_SingleBytes_koiCharacterOf_45 : decode b_SingleBytes_koiCharacterOf 45 = .ok (.if_icmp .ne 7, 3) := by decide +kernel
theorem d_SingleBytes_koiCharacterOf_48 : decode b_SingleBytes_koiCharacterOf 48 = .ok (.sipush 1105, 3) := by decide +kernel
theorem d_SingleBytes_koiCharacterOf_51 : decode b_SingleBytes_koiCharacterOf 51 = .ok (.ireturn, 1) := by decide +kernel
theorem d_SingleBytes_koiCharacterOf_52 : decode b_SingleBytes_koiCharacterOf 52 = .ok (.iload_n 0, 1) := by decide +kernel
theorem d_SingleBytes_koiCharacterOf_53 : decode b_SingleBytes_koiCharacterOf 53 = .ok (.sipush 179, 3) := by decide +kernel
theorem d_SingleBytes_koiCharacterOf_56 : decode b_SingleBytes_koiCharacterOf 56 = .ok (.if_icmp .ne 9, 3) := by decide +kernel
theorem d_SingleBytes_koiCharacterOf_59 : decode b_SingleBytes_koiCharacterOf 59 = .ok (.sipush 1025, 3) := by decide +kernel
theorem d_SingleBytes_koiCharacterOf_62 : decode b_SingleBytes_koiCharacterOf 62 = .ok (.goto 5, 3) := by decide +kernel
theorem d_SingleBytes_koiCharacterOf_65 : decode b_SingleBytes_koiCharacterOf 65 = .ok (.ldc 26, 2) := by decide +kernel
theorem d_SingleBytes_koiCharacterOf_67 : decode b_SingleBytes_koiCharacterOf 67 = .ok (.ireturn, 1) := by decide +kernel
theorem d_Uncoder_unbase_0 : decode b_Uncoder_unbase 0 = .ok (.aload_n 0, 1) := by decide +kernel
theorem d_Uncoder_unbase_1 : decode b_Uncoder_unbase 1 = .ok (.getfield 12, 3) := by decide +kernel
theorem d_Uncoder_unbase_4 : decode b_Uncoder_unbase 4 = .ok (.invokevirtual 59, 3) := by decide +kernel
theorem d_Uncoder_unbase_7 : decode b_Uncoder_unbase 7 = .ok (.iload_n 2, 1) := by decide +kernel
theorem d_Uncoder_unbase_8 : decode b_Uncoder_unbase 8 = .ok (.istore 5, 2) := by decide +kernel
theorem d_Uncoder_unbase_10 : decode b_Uncoder_unbase 10 = .ok (.iload 5, 2) := by decide +kernel
theorem d_Uncoder_unbase_12 : decode b_Uncoder_unbase 12 = .ok (.iload_n 3, 1) := by decide +kernel
theorem d_Uncoder_unbase_13 : decode b_Uncoder_unbase 13 = .ok (.if_icmp .ge 75, 3) := by decide +kernel
theorem d_Uncoder_unbase_16 : decode b_Uncoder_unbase 16 = .ok (.aload_n 1, 1) := by decide +kernel
theorem d_Uncoder_unbase_17 : decode b_Uncoder_unbase 17 = .ok (.iload 5, 2) := by decide +kernel
theorem d_Uncoder_unbase_19 : decode b_Uncoder_unbase 19 = .ok (.invokevirtual 62, 3) := by decide +kernel
theorem d_Uncoder_unbase_22 : decode b_Uncoder_unbase 22 = .ok (.istore 6, 2) := by decide +kernel
theorem d_Uncoder_unbase_24 : decode b_Uncoder_unbase 24 = .ok (.iload 6, 2) := by decide +kernel
theorem d_Uncoder_unbase_26 : decode b_Uncoder_unbase 26 = .ok (.bipush 61, 2) := by decide +kernel
theorem d_Uncoder_unbase_28 : decode b_Uncoder_unbase 28 = .ok (.if_icmp .ne 4, 3) := by decide +kernel
theorem d_Uncoder_unbase_31 : decode b_Uncoder_unbase 31 = .ok (.return_, 1) := by decide +kernel
theorem d_Uncoder_unbase_32 : decode b_Uncoder_unbase 32 = .ok (.iload 6, 2) := by decide +kernel
theorem d_Uncoder_unbase_34 : decode b_Uncoder_unbase 34 = .ok (.invokestatic 66, 3) := by decide +kernel
theorem d_Uncoder_unbase_37 : decode b_Uncoder_unbase 37 = .ok (.istore 7, 2) := by decide +kernel
theorem d_Uncoder_unbase_39 : decode b_Uncoder_unbase 39 = .ok (.iload 7, 2) := by decide +kernel
theorem d_Uncoder_unbase_41 : decode b_Uncoder_unbase 41 = .ok (.iconst (-1), 1) := by decide +kernel
theorem d_Uncoder_unbase_42 : decode b_Uncoder_unbase 42 = .ok (.if_icmp .eq 14, 3) := by decide +kernel
theorem d_Uncoder_unbase_45 : decode b_Uncoder_unbase 45 = .ok (.aload_n 0, 1) := by decide +kernel
theorem d_Uncoder_unbase_46 : decode b_Uncoder_unbase 46 = .ok (.getfield 12, 3) := by decide +kernel
theorem d_Uncoder_unbase_49 : decode b_Uncoder_unbase 49 = .ok (.iload 7, 2) := by decide +kernel
theorem d_Uncoder_unbase_51 : decode b_Uncoder_unbase 51 = .ok (.bipush 6, 2) := by decide +kernel
theorem d_Uncoder_unbase_53 : decode b_Uncoder_unbase 53 = .ok (.invokevirtual 71, 3) := by decide +kernel
theorem d_Uncoder_unbase_56 : decode b_Uncoder_unbase 56 = .ok (.aload_n 0, 1) := by decide +kernel
theorem d_Uncoder_unbase_57 : decode b_Uncoder_unbase 57 = .ok (.getfield 12, 3) := by decide +kernel
theorem d_Uncoder_unbase_60 : decode b_Uncoder_unbase 60 = .ok (.bipush 8, 2) := by decide +kernel
theorem d_Uncoder_unbase_62 : decode b_Uncoder_unbase 62 = .ok (.invokevirtual 75, 3) := by decide +kernel
theorem d_Uncoder_unbase_65 : decode b_Uncoder_unbase 65 = .ok (.ifCond .eq 17, 3) := by decide +kernel
theorem d_Uncoder_unbase_68 : decode b_Uncoder_unbase 68 = .ok (.aload 4, 2) := by decide +kernel
theorem d_Uncoder_unbase_70 : decode b_Uncoder_unbase 70 = .ok (.aload_n 0, 1) := by decide +kernel
theorem d_Uncoder_unbase_71 : decode b_Uncoder_unbase 71 = .ok (.getfield 12, 3) := by decide +kernel
theorem d_Uncoder_unbase_74 : decode b_Uncoder_unbase 74 = .ok (.bipush 8, 2) := by decide +kernel
theorem d_Uncoder_unbase_76 : decode b_Uncoder_unbase 76 = .ok (.invokevirtual 79, 3) := by decide +kernel
theorem d_Uncoder_unbase_79 : decode b_Uncoder_unbase 79 = .ok (.invokevirtual 82, 3) := by decide +kernel
theorem d_Uncoder_unbase_82 : decode b_Uncoder_unbase 82 = .ok (.iinc 5 1, 3) := by decide +kernel
theorem d_Uncoder_unbase_85 : decode b_Uncoder_unbase 85 = .ok (.goto (-75), 3) := by decide +kernel
theorem d_Uncoder_unbase_88 : decode b_Uncoder_unbase 88 = .ok (.return_, 1) := by decide +kernel
theorem d_Letters_hexOf_0 : decode b_Letters_hexOf 0 = .ok (.iload_n 0, 1) := by decide +kernel
theorem d_Letters_hexOf_1 : decode b_Letters_hexOf 1 = .ok (.bipush 48, 2) := by decide +kernel
theorem d_Letters_hexOf_3 : decode b_Letters_hexOf 3 = .ok (.if_icmp .lt 14, 3) := by decide +kernel
theorem d_Letters_hexOf_6 : decode b_Letters_hexOf 6 = .ok (.iload_n 0, 1) := by decide +kernel
theorem d_Letters_hexOf_7 : decode b_Letters_hexOf 7 = .ok (.bipush 57, 2) := by decide +kernel
theorem d_Letters_hexOf_9 : decode b_Letters_hexOf 9 = .ok (.if_icmp .gt 8, 3) := by decide +kernel
theorem d_Letters_hexOf_12 : decode b_Letters_hexOf 12 = .ok (.iload_n 0, 1) := by decide +kernel
theorem d_Letters_hexOf_13 : decode b_Letters_hexOf 13 = .ok (.bipush 48, 2) := by decide +kernel
theorem d_Letters_hexOf_15 : decode b_Letters_hexOf 15 = .ok (.isub, 1) := by decide +kernel
theorem d_Letters_hexOf_16 : decode b_Letters_hexOf 16 = .ok (.ireturn, 1) := by decide +kernel
theorem d_Letters_hexOf_17 : decode b_Letters_hexOf 17 = .ok (.iload_n 0, 1) := by decide +kernel
theorem d_Letters_hexOf_18 : decode b_Letters_hexOf 18 = .ok (.bipush 65, 2) := by decide +kernel
theorem d_Letters_hexOf_20 : decode b_Letters_hexOf 20 = .ok (.if_icmp .lt 17, 3) := by decide +kernel
theorem d_Letters_hexOf_23 : decode b_Letters_hexOf 23 = .ok (.iload_n 0, 1) := by decide +kernel
theorem d_Letters_hexOf_24 : decode b_Letters_hexOf 24 = .ok (.bipush 70, 2) := by decide +kernel
theorem d_Letters_hexOf_26 : decode b_Letters_hexOf 26 = .ok (.if_icmp .gt 11, 3) := by decide +kernel
theorem d_Letters_hexOf_29 : decode b_Letters_hexOf 29 = .ok (.iload_n 0, 1) := by decide +kernel
theorem d_Letters_hexOf_30 : decode b_Letters_hexOf 30 = .ok (.bipush 65, 2) := by decide +kernel
theorem d_Letters_hexOf_32 : decode b_Letters_hexOf 32 = .ok (.isub, 1) := by decide +kernel
theorem d_Letters_hexOf_33 : decode b_Letters_hexOf 33 = .ok (.bipush 10, 2) := by decide +kernel
theorem d_Letters_hexOf_35 : decode b_Letters_hexOf 35 = .ok (.iadd, 1) := by decide +kernel
theorem d_Letters_hexOf_36 : decode b_Letters_hexOf 36 = .ok (.ireturn, 1) := by decide +kernel
theorem d_Letters_hexOf_37 : decode b_Letters_hexOf 37 = .ok (.iload_n 0, 1) := by decide +kernel
theorem d_Letters_hexOf_38 : decode b_Letters_hexOf 38 = .ok (.bipush 97, 2) := by decide +kernel
theorem d_Letters_hexOf_40 : decode b_Letters_hexOf 40 = .ok (.if_icmp .lt 19, 3) := by decide +kernel
theorem d_Letters_hexOf_43 : decode b_Letters_hexOf 43 = .ok (.iload_n 0, 1) := by decide +kernel
theorem d_Letters_hexOf_44 : decode b_Letters_hexOf 44 = .ok (.bipush 102, 2) := by decide +kernel
theorem d_Letters_hexOf_46 : decode b_Letters_hexOf 46 = .ok (.if_icmp .gt 13, 3) := by decide +kernel
theorem d_Letters_hexOf_49 : decode b_Letters_hexOf 49 = .ok (.iload_n 0, 1) := by decide +kernel
theorem d_Letters_hexOf_50 : decode b_Letters_hexOf 50 = .ok (.bipush 97, 2) := by decide +kernel
theorem d_Letters_hexOf_52 : decode b_Letters_hexOf 52 = .ok (.isub, 1) := by decide +kernel
theorem d_Letters_hexOf_53 : decode b_Letters_hexOf 53 = .ok (.bipush 10, 2) := by decide +kernel
theorem d_Letters_hexOf_55 : decode b_Letters_hexOf 55 = .ok (.iadd, 1) := by decide +kernel
theorem d_Letters_hexOf_56 : decode b_Letters_hexOf 56 = .ok (.goto 4, 3) := by decide +kernel
theorem d_Letters_hexOf_59 : decode b_Letters_hexOf 59 = .ok (.iconst (-1), 1) := by decide +kernel
theorem d_Letters_hexOf_60 : decode b_Letters_hexOf 60 = .ok (.ireturn, 1) := by decide +kernel
theorem d_MC_byteAt_0 : decode b_MC_byteAt 0 = .ok (.aload_n 0, 1) := by decide +kernel
theorem d_MC_byteAt_1 : decode b_MC_byteAt 1 = .ok (.getfield 57, 3) := by decide +kernel
theorem d_MC_byteAt_4 : decode b_MC_byteAt 4 = .ok (.iload_n 1, 1) := by decide +kernel
theorem d_MC_byteAt_5 : decode b_MC_byteAt 5 = .ok (.invokevirtual 142, 3) := by decide +kernel
theorem d_MC_byteAt_8 : decode b_MC_byteAt 8 = .ok (.ireturn, 1) := by decide +kernel
theorem d_MC_at_0 : decode b_MC_at 0 = .ok (.aload_n 0, 1) := by decide +kernel
theorem d_MC_at_1 : decode b_MC_at 1 = .ok (.getfield 18, 3) := by decide +kernel
theorem d_MC_at_4 : decode b_MC_at 4 = .ok (.iload_n 1, 1) := by decide +kernel
theorem d_MC_at_5 : decode b_MC_at 5 = .ok (.invokevirtual 142, 3) := by decide +kernel
theorem d_MC_at_8 : decode b_MC_at 8 = .ok (.ireturn, 1) := by decide +kernel
theorem d_Row_countOf_0 : decode b_Row_countOf 0 = .ok (.iconst 0, 1) := by decide +kernel
theorem d_Row_countOf_1 : decode b_Row_countOf 1 = .ok (.istore_n 2, 1) := by decide +kernel
theorem d_Row_countOf_2 : decode b_Row_countOf 2 = .ok (.iconst 0, 1) := by decide +kernel
theorem d_Row_countOf_3 : decode b_Row_countOf 3 = .ok (.istore_n 3, 1) := by decide +kernel
theorem d_Row_countOf_4 : decode b_Row_countOf 4 = .ok (.iload_n 3, 1) := by decide +kernel
theorem d_Row_countOf_5 : decode b_Row_countOf 5 = .ok (.aload_n 0, 1) := by decide +kernel
theorem d_Row_countOf_6 : decode b_Row_countOf 6 = .ok (.getfield 21, 3) := by decide +kernel
theorem d_Row_countOf_9 : decode b_Row_countOf 9 = .ok (.if_icmp .ge 21, 3) := by decide +kernel
theorem d_Row_countOf_12 : decode b_Row_countOf 12 = .ok (.aload_n 0, 1) := by decide +kernel
theorem d_Row_countOf_13 : decode b_Row_countOf 13 = .ok (.iload_n 3, 1) := by decide +kernel
theorem d_Row_countOf_14 : decode b_Row_countOf 14 = .ok (.invokevirtual 29, 3) := by decide +kernel
theorem d_Row_countOf_17 : decode b_Row_countOf 17 = .ok (.iload_n 1, 1) := by decide +kernel
theorem d_Row_countOf_18 : decode b_Row_countOf 18 = .ok (.if_icmp .ne 6, 3) := by decide +kernel
theorem d_Row_countOf_21 : decode b_Row_countOf 21 = .ok (.iinc 2 1, 3) := by decide +kernel
theorem d_Row_countOf_24 : decode b_Row_countOf 24 = .ok (.iinc 3 1, 3) := by decide +kernel
theorem d_Row_countOf_27 : decode b_Row_countOf 27 = .ok (.goto (-23), 3) := by decide +kernel
theorem d_Row_countOf_30 : decode b_Row_countOf 30 = .ok (.iload_n 2, 1) := by decide +kernel
theorem d_Row_countOf_31 : decode b_Row_countOf 31 = .ok (.ireturn, 1) := by decide +kernel
theorem d_Line_goToStart_0 : decode b_Line_goToStart 0 = .ok (.aload_n 0, 1) := by decide +kernel
theorem d_Line_goToStart_1 : decode b_Line_goToStart 1 = .ok (.iconst 0, 1) := by decide +kernel
theorem d_Line_goToStart_2 : decode b_Line_goToStart 2 = .ok (.putfield 9, 3) := by decide +kernel
theorem d_Line_goToStart_5 : decode b_Line_goToStart 5 = .ok (.return_, 1) := by decide +kernel
theorem d_Line_step_0 : decode b_Line_step 0 = .ok (.aload_n 0, 1) := by decide +kernel
theorem d_Line_step_1 : decode b_Line_step 1 = .ok (.getfield 9, 3) := by decide +kernel
theorem d_Line_step_4 : decode b_Line_step 4 = .ok (.aload_n 1, 1) := by decide +kernel
theorem d_Line_step_5 : decode b_Line_step 5 = .ok (.invokevirtual 15, 3) := by decide +kernel
theorem d_Line_step_8 : decode b_Line_step 8 = .ok (.if_icmp .lt 5, 3) := by decide +kernel
theorem d_Line_step_11 : decode b_Line_step 11 = .ok (.iconst 0, 1) := by decide +kernel
theorem d_Line_step_12 : decode b_Line_step 12 = .ok (.ireturn, 1) := by decide +kernel
theorem d_Line_step_13 : decode b_Line_step 13 = .ok (.aload_n 0, 1) := by decide +kernel
theorem d_Line_step_14 : decode b_Line_step 14 = .ok (.aload_n 0, 1) := by decide +kernel
theorem d_Line_step_15 : decode b_Line_step 15 = .ok (.getfield 9, 3) := by decide +kernel
theorem d_Line_step_18 : decode b_Line_step 18 = .ok (.putfield 21, 3) := by decide +kernel
theorem d_Line_step_21 : decode b_Line_step 21 = .ok (.aload_n 0, 1) := by decide +kernel
theorem d_Line_step_22 : decode b_Line_step 22 = .ok (.aload_n 1, 1) := by decide +kernel
theorem d_Line_step_23 : decode b_Line_step 23 = .ok (.invokevirtual 15, 3) := by decide +kernel
theorem d_Line_step_26 : decode b_Line_step 26 = .ok (.putfield 24, 3) := by decide +kernel
theorem d_Line_step_29 : decode b_Line_step 29 = .ok (.aload_n 0, 1) := by decide +kernel
theorem d_Line_step_30 : decode b_Line_step 30 = .ok (.getfield 21, 3) := by decide +kernel
theorem d_Line_step_33 : decode b_Line_step 33 = .ok (.istore_n 2, 1) := by decide +kernel
theorem d_Line_step_34 : decode b_Line_step 34 = .ok (.iload_n 2, 1) := by decide +kernel
theorem d_Line_step_35 : decode b_Line_step 35 = .ok (.aload_n 1, 1) := by decide +kernel
theorem d_Line_step_36 : decode b_Line_step 36 = .ok (.invokevirtual 15, 3) := by decide +kernel
theorem d_Line_step_39 : decode b_Line_step 39 = .ok (.if_icmp .ge 27, 3) := by decide +kernel
theorem d_Line_step_42 : decode b_Line_step 42 = .ok (.aload_n 1, 1) := by decide +kernel
theorem d_Line_step_43 : decode b_Line_step 43 = .ok (.iload_n 2, 1) := by decide +kernel
theorem d_Line_step_44 : decode b_Line_step 44 = .ok (.invokevirtual 27, 3) := by decide +kernel
theorem d_Line_step_47 : decode b_Line_step 47 = .ok (.bipush 10, 2) := by decide +kernel
theorem d_Line_step_49 : decode b_Line_step 49 = .ok (.if_icmp .ne 11, 3) := by decide +kernel
theorem d_Line_step_52 : decode b_Line_step 52 = .ok (.aload_n 0, 1) := by decide +kernel
theorem d_Line_step_53 : decode b_Line_step 53 = .ok (.iload_n 2, 1) := by decide +kernel
theorem d_Line_step_54 : decode b_Line_step 54 = .ok (.putfield 24, 3) := by decide +kernel
theorem d_Line_step_57 : decode b_Line_step 57 = .ok (.goto 9, 3) := by decide +kernel
theorem d_Line_step_60 : decode b_Line_step 60 = .ok (.iinc 2 1, 3) := by decide +kernel
theorem d_Line_step_63 : decode b_Line_step 63 = .ok (.goto (-29), 3) := by decide +kernel
theorem d_Line_step_66 : decode b_Line_step 66 = .ok (.aload_n 0, 1) := by decide +kernel
theorem d_Line_step_67 : decode b_Line_step 67 = .ok (.aload_n 0, 1) := by decide +kernel
theorem d_Line_step_68 : decode b_Line_step 68 = .ok (.getfield 24, 3) := by decide +kernel
theorem d_Line_step_71 : decode b_Line_step 71 = .ok (.aload_n 1, 1) := by decide +kernel
theorem d_Line_step_72 : decode b_Line_step 72 = .ok (.invokevirtual 15, 3) := by decide +kernel
theorem d_Line_step_75 : decode b_Line_step 75 = .ok (.if_icmp .ge 7, 3) := by decide +kernel
theorem d_Line_step_78 : decode b_Line_step 78 = .ok (.iconst 1, 1) := by decide +kernel
theorem d_Line_step_79 : decode b_Line_step 79 = .ok (.goto 4, 3) := by decide +kernel
theorem d_Line_step_82 : decode b_Line_step 82 = .ok (.iconst 0, 1) := by decide +kernel
theorem d_Line_step_83 : decode b_Line_step 83 = .ok (.putfield 31, 3) := by decide +kernel
theorem d_Line_step_86 : decode b_Line_step 86 = .ok (.aload_n 0, 1) := by decide +kernel
theorem d_Line_step_87 : decode b_Line_step 87 = .ok (.aload_n 0, 1) := by decide +kernel
theorem d_Line_step_88 : decode b_Line_step 88 = .ok (.getfield 24, 3) := by decide +kernel
theorem d_Line_step_91 : decode b_Line_step 91 = .ok (.iconst 1, 1) := by decide +kernel
theorem d_Line_step_92 : decode b_Line_step 92 = .ok (.iadd, 1) := by decide +kernel
theorem d_Line_step_93 : decode b_Line_step 93 = .ok (.putfield 9, 3) := by decide +kernel
theorem d_Line_step_96 : decode b_Line_step 96 = .ok (.aload_n 0, 1) := by decide +kernel
theorem d_Line_step_97 : decode b_Line_step 97 = .ok (.getfield 31, 3) := by decide +kernel
theorem d_Line_step_100 : decode b_Line_step 100 = .ok (.ifCond .eq 39, 3) := by decide +kernel
theorem d_Line_step_103 : decode b_Line_step 103 = .ok (.aload_n 0, 1) := by decide +kernel
theorem d_Line_step_104 : decode b_Line_step 104 = .ok (.getfield 24, 3) := by decide +kernel
theorem d_Line_step_107 : decode b_Line_step 107 = .ok (.aload_n 0, 1) := by decide +kernel
theorem d_Line_step_108 : decode b_Line_step 108 = .ok (.getfield 21, 3) := by decide +kernel
theorem d_Line_step_111 : decode b_Line_step 111 = .ok (.if_icmp .le 28, 3) := by decide +kernel
theorem d_Line_step_114 : decode b_Line_step 114 = .ok (.aload_n 1, 1) := by decide +kernel
theorem d_Line_step_115 : decode b_Line_step 115 = .ok (.aload_n 0, 1) := by decide +kernel
theorem d_Line_step_116 : decode b_Line_step 116 = .ok (.getfield 24, 3) := by decide +kernel
theorem d_Line_step_119 : decode b_Line_step 119 = .ok (.iconst 1, 1) := by decide +kernel
theorem d_Line_step_120 : decode b_Line_step 120 = .ok (.isub, 1) := by decide +kernel
theorem d_Line_step_121 : decode b_Line_step 121 = .ok (.invokevirtual 27, 3) := by decide +kernel
theorem d_Line_step_124 : decode b_Line_step 124 = .ok (.bipush 13, 2) := by decide +kernel
theorem d_Line_step_126 : decode b_Line_step 126 = .ok (.if_icmp .ne 13, 3) := by decide +kernel
theorem d_Line_step_129 : decode b_Line_step 129 = .ok (.aload_n 0, 1) := by decide +kernel
theorem d_Line_step_130 : decode b_Line_step 130 = .ok (.dup, 1) := by decide +kernel
theorem d_Line_step_131 : decode b_Line_step 131 = .ok (.getfield 24, 3) := by decide +kernel
theorem d_Line_step_134 : decode b_Line_step 134 = .ok (.iconst 1, 1) := by decide +kernel
theorem d_Line_step_135 : decode b_Line_step 135 = .ok (.isub, 1) := by decide +kernel
theorem d_Line_step_136 : decode b_Line_step 136 = .ok (.putfield 24, 3) := by decide +kernel
theorem d_Line_step_139 : decode b_Line_step 139 = .ok (.iconst 1, 1) := by decide +kernel
theorem d_Line_step_140 : decode b_Line_step 140 = .ok (.ireturn, 1) := by decide +kernel
theorem d_Uncoder_withoutBlanks_0 : decode b_Uncoder_withoutBlanks 0 = .ok (.iload_n 2, 1) := by decide +kernel
theorem d_Uncoder_withoutBlanks_1 : decode b_Uncoder_withoutBlanks 1 = .ok (.istore_n 3, 1) := by decide +kernel
theorem d_Uncoder_withoutBlanks_2 : decode b_Uncoder_withoutBlanks 2 = .ok (.iload_n 3, 1) := by decide +kernel
theorem d_Uncoder_withoutBlanks_3 : decode b_Uncoder_withoutBlanks 3 = .ok (.iload_n 1, 1) := by decide +kernel
theorem d_Uncoder_withoutBlanks_4 : decode b_Uncoder_withoutBlanks 4 = .ok (.if_icmp .le 34, 3) := by decide +kernel
theorem d_Uncoder_withoutBlanks_7 : decode b_Uncoder_withoutBlanks 7 = .ok (.aload_n 0, 1) := by decide +kernel
theorem d_Uncoder_withoutBlanks_8 : decode b_Uncoder_withoutBlanks 8 = .ok (.iload_n 3, 1) := by decide +kernel
theorem d_Uncoder_withoutBlanks_9 : decode b_Uncoder_withoutBlanks 9 = .ok (.iconst 1, 1) := by decide +kernel
theorem d_Uncoder_withoutBlanks_10 : decode b_Uncoder_withoutBlanks 10 = .ok (.isub, 1) := by decide +kernel
theorem d_Uncoder_withoutBlanks_11 : decode b_Uncoder_withoutBlanks 11 = .ok (.invokevirtual 62, 3) := by decide +kernel
theorem d_Uncoder_withoutBlanks_14 : decode b_Uncoder_withoutBlanks 14 = .ok (.istore 4, 2) := by decide +kernel
theorem d_Uncoder_withoutBlanks_16 : decode b_Uncoder_withoutBlanks 16 = .ok (.iload 4, 2) := by decide +kernel
theorem d_Uncoder_withoutBlanks_18 : decode b_Uncoder_withoutBlanks 18 = .ok (.bipush 32, 2) := by decide +kernel
theorem d_Uncoder_withoutBlanks_20 : decode b_Uncoder_withoutBlanks 20 = .ok (.if_icmp .eq 12, 3) := by decide +kernel
theorem d_Uncoder_withoutBlanks_23 : decode b_Uncoder_withoutBlanks 23 = .ok (.iload 4, 2) := by decide +kernel
theorem d_Uncoder_withoutBlanks_25 : decode b_Uncoder_withoutBlanks 25 = .ok (.bipush 9, 2) := by decide +kernel
theorem d_Uncoder_withoutBlanks_27 : decode b_Uncoder_withoutBlanks 27 = .ok (.if_icmp .eq 5, 3) := by decide +kernel
theorem d_Uncoder_withoutBlanks_30 : decode b_Uncoder_withoutBlanks 30 = .ok (.iload_n 3, 1) := by decide +kernel
theorem d_Uncoder_withoutBlanks_31 : decode b_Uncoder_withoutBlanks 31 = .ok (.ireturn, 1) := by decide +kernel
theorem d_Uncoder_withoutBlanks_32 : decode b_Uncoder_withoutBlanks 32 = .ok (.iinc 3 (-1), 3) := by decide +kernel
theorem d_Uncoder_withoutBlanks_35 : decode b_Uncoder_withoutBlanks 35 = .ok (.goto (-33), 3) := by decide +kernel
theorem d_Uncoder_withoutBlanks_38 : decode b_Uncoder_withoutBlanks 38 = .ok (.iload_n 1, 1) := by decide +kernel
theorem d_Uncoder_withoutBlanks_39 : decode b_Uncoder_withoutBlanks 39 = .ok (.ireturn, 1) := by decide +kernel
theorem d_Line_length_0 : decode b_Line_length 0 = .ok (.aload_n 0, 1) := by decide +kernel
theorem d_Line_length_1 : decode b_Line_length 1 = .ok (.getfield 24, 3) := by decide +kernel
theorem d_Line_length_4 : decode b_Line_length 4 = .ok (.aload_n 0, 1) := by decide +kernel
theorem d_Line_length_5 : decode b_Line_length 5 = .ok (.getfield 21, 3) := by decide +kernel
theorem d_Line_length_8 : decode b_Line_length 8 = .ok (.isub, 1) := by decide +kernel
theorem d_Line_length_9 : decode b_Line_length 9 = .ok (.ireturn, 1) := by decide +kernel
theorem d_Line_begins_0 : decode b_Line_begins 0 = .ok (.iconst 0, 1) := by decide +kernel
theorem d_Line_begins_1 : decode b_Line_begins 1 = .ok (.istore_n 3, 1) := by decide +kernel
theorem d_Line_begins_2 : decode b_Line_begins 2 = .ok (.iload_n 3, 1) := by decide +kernel
theorem d_Line_begins_3 : decode b_Line_begins 3 = .ok (.aload_n 2, 1) := by decide +kernel
theorem d_Line_begins_4 : decode b_Line_begins 4 = .ok (.invokevirtual 35, 3) := by decide +kernel
theorem d_Line_begins_7 : decode b_Line_begins 7 = .ok (.if_icmp .ge 29, 3) := by decide +kernel
theorem d_Line_begins_10 : decode b_Line_begins 10 = .ok (.aload_n 1, 1) := by decide +kernel
theorem d_Line_begins_11 : decode b_Line_begins 11 = .ok (.aload_n 0, 1) := by decide +kernel
theorem d_Line_begins_12 : decode b_Line_begins 12 = .ok (.getfield 21, 3) := by decide +kernel
theorem d_Line_begins_15 : decode b_Line_begins 15 = .ok (.iload_n 3, 1) := by decide +kernel
theorem d_Line_begins_16 : decode b_Line_begins 16 = .ok (.iadd, 1) := by decide +kernel
theorem d_Line_begins_17 : decode b_Line_begins 17 = .ok (.invokevirtual 27, 3) := by decide +kernel
theorem d_Line_begins_20 : decode b_Line_begins 20 = .ok (.aload_n 2, 1) := by decide +kernel
theorem d_Line_begins_21 : decode b_Line_begins 21 = .ok (.iload_n 3, 1) := by decide +kernel
theorem d_Line_begins_22 : decode b_Line_begins 22 = .ok (.invokevirtual 40, 3) := by decide +kernel
theorem d_Line_begins_25 : decode b_Line_begins 25 = .ok (.if_icmp .eq 5, 3) := by decide +kernel
theorem d_Line_begins_28 : decode b_Line_begins 28 = .ok (.iconst 0, 1) := by decide +kernel
theorem d_Line_begins_29 : decode b_Line_begins 29 = .ok (.ireturn, 1) := by decide +kernel
theorem d_Line_begins_30 : decode b_Line_begins 30 = .ok (.iinc 3 1, 3) := by decide +kernel
theorem d_Line_begins_33 : decode b_Line_begins 33 = .ok (.goto (-31), 3) := by decide +kernel
theorem d_Line_begins_36 : decode b_Line_begins 36 = .ok (.iconst 1, 1) := by decide +kernel
theorem d_Line_begins_37 : decode b_Line_begins 37 = .ok (.ireturn, 1) := by decide +kernel
theorem d_Uncoder_hexValue_0 : decode b_Uncoder_hexValue 0 = .ok (.iload_n 0, 1) := by decide +kernel
theorem d_Uncoder_hexValue_1 : decode b_Uncoder_hexValue 1 = .ok (.bipush 32, 2) := by decide +kernel
theorem d_Uncoder_hexValue_3 : decode b_Uncoder_hexValue 3 = .ok (.isub, 1) := by decide +kernel
theorem d_Uncoder_hexValue_4 : decode b_Uncoder_hexValue 4 = .ok (.bipush 63, 2) := by decide +kernel
theorem d_Uncoder_hexValue_6 : decode b_Uncoder_hexValue 6 = .ok (.iand, 1) := by decide +kernel
theorem d_Uncoder_hexValue_7 : decode b_Uncoder_hexValue 7 = .ok (.ireturn, 1) := by decide +kernel
theorem d_Uncoder_unhexLine_0 : decode b_Uncoder_unhexLine 0 = .ok (.aload_n 1, 1) := by decide +kernel
theorem d_Uncoder_unhexLine_1 : decode b_Uncoder_unhexLine 1 = .ok (.aload_n 0, 1) := by decide +kernel
theorem d_Uncoder_unhexLine_2 : decode b_Uncoder_unhexLine 2 = .ok (.getfield 21, 3) := by decide +kernel
theorem d_Uncoder_unhexLine_5 : decode b_Uncoder_unhexLine 5 = .ok (.getfield 93, 3) := by decide +kernel
theorem d_Uncoder_unhexLine_8 : decode b_Uncoder_unhexLine 8 = .ok (.invokevirtual 62, 3) := by decide +kernel
theorem d_Uncoder_unhexLine_11 : decode b_Uncoder_unhexLine 11 = .ok (.invokestatic 125, 3) := by decide +kernel
theorem d_Uncoder_unhexLine_14 : decode b_Uncoder_unhexLine 14 = .ok (.istore_n 3, 1) := by decide +kernel
theorem d_Uncoder_unhexLine_15 : decode b_Uncoder_unhexLine 15 = .ok (.aload_n 0, 1) := by decide +kernel
theorem d_Uncoder_unhexLine_16 : decode b_Uncoder_unhexLine 16 = .ok (.getfield 21, 3) := by decide +kernel
theorem d_Uncoder_unhexLine_19 : decode b_Uncoder_unhexLine 19 = .ok (.invokevirtual 105, 3) := by decide +kernel
theorem d_Uncoder_unhexLine_22 : decode b_Uncoder_unhexLine 22 = .ok (.iconst 1, 1) := by decide +kernel
theorem d_Uncoder_unhexLine_23 : decode b_Uncoder_unhexLine 23 = .ok (.isub, 1) := by decide +kernel
theorem d_Uncoder_unhexLine_24 : decode b_Uncoder_unhexLine 24 = .ok (.istore 4, 2) := by decide +kernel
theorem d_Uncoder_unhexLine_26 : decode b_Uncoder_unhexLine 26 = .ok (.iload 4, 2) := by decide +kernel
theorem d_Uncoder_unhexLine_28 : decode b_Uncoder_unhexLine 28 = .ok (.iconst 3, 1) := by decide +kernel
theorem d_Uncoder_unhexLine_29 : decode b_Uncoder_unhexLine 29 = .ok (.iadd, 1) := by decide +kernel
theorem d_Uncoder_unhexLine_30 : decode b_Uncoder_unhexLine 30 = .ok (.iconst 4, 1) := by decide +kernel
theorem d_Uncoder_unhexLine_31 : decode b_Uncoder_unhexLine 31 = .ok (.idiv, 1) := by decide +kernel
theorem d_Uncoder_unhexLine_32 : decode b_Uncoder_unhexLine 32 = .ok (.iconst 4, 1) := by decide +kernel
theorem d_Uncoder_unhexLine_33 : decode b_Uncoder_unhexLine 33 = .ok (.imul, 1) := by decide +kernel
theorem d_Uncoder_unhexLine_34 : decode b_Uncoder_unhexLine 34 = .ok (.istore 5, 2) := by decide +kernel
theorem d_Uncoder_unhexLine_36 : decode b_Uncoder_unhexLine 36 = .ok (.aload_n 0, 1) := by decide +kernel
theorem d_Uncoder_unhexLine_37 : decode b_Uncoder_unhexLine 37 = .ok (.getfield 12, 3) := by decide +kernel
theorem d_Uncoder_unhexLine_40 : decode b_Uncoder_unhexLine 40 = .ok (.invokevirtual 59, 3) := by decide +kernel
theorem d_Uncoder_unhexLine_43 : decode b_Uncoder_unhexLine 43 = .ok (.iconst 0, 1) := by decide +kernel
theorem d_Uncoder_unhexLine_44 : decode b_Uncoder_unhexLine 44 = .ok (.istore 6, 2) := by decide +kernel
theorem d_Uncoder_unhexLine_46 : decode b_Uncoder_unhexLine 46 = .ok (.iload 6, 2) := by decide +kernel
theorem d_Uncoder_unhexLine_48 : decode b_Uncoder_unhexLine 48 = .ok (.iload 5, 2) := by decide +kernel
theorem d_Uncoder_unhexLine_50 : decode b_Uncoder_unhexLine 50 = .ok (.if_icmp .ge 80, 3) := by decide +kernel
theorem d_Uncoder_unhexLine_53 : decode b_Uncoder_unhexLine 53 = .ok (.iload_n 3, 1) := by decide +kernel
theorem d_Uncoder_unhexLine_54 : decode b_Uncoder_unhexLine 54 = .ok (.ifCond .le 76, 3) := by decide +kernel
theorem d_Uncoder_unhexLine_57 : decode b_Uncoder_unhexLine 57 = .ok (.aload_n 0, 1) := by decide +kernel
theorem d_Uncoder_unhexLine_58 : decode b_Uncoder_unhexLine 58 = .ok (.getfield 12, 3) := by decide +kernel
theorem d_Uncoder_unhexLine_61 : decode b_Uncoder_unhexLine 61 = .ok (.iload 6, 2) := by decide +kernel
theorem d_Uncoder_unhexLine_63 : decode b_Uncoder_unhexLine 63 = .ok (.iload 4, 2) := by decide +kernel
theorem d_Uncoder_unhexLine_65 : decode b_Uncoder_unhexLine 65 = .ok (.if_icmp .ge 25, 3) := by decide +kernel
theorem d_Uncoder_unhexLine_68 : decode b_Uncoder_unhexLine 68 = .ok (.aload_n 1, 1) := by decide +kernel
theorem d_Uncoder_unhexLine_69 : decode b_Uncoder_unhexLine 69 = .ok (.aload_n 0, 1) := by decide +kernel
theorem d_Uncoder_unhexLine_70 : decode b_Uncoder_unhexLine 70 = .ok (.getfield 21, 3) := by decide +kernel
theorem d_Uncoder_unhexLine_73 : decode b_Uncoder_unhexLine 73 = .ok (.getfield 93, 3) := by decide +kernel
theorem d_Uncoder_unhexLine_76 : decode b_Uncoder_unhexLine 76 = .ok (.iconst 1, 1) := by decide +kernel
theorem d_Uncoder_unhexLine_77 : decode b_Uncoder_unhexLine 77 = .ok (.iadd, 1) := by decide +kernel
theorem d_Uncoder_unhexLine_78 : decode b_Uncoder_unhexLine 78 = .ok (.iload 6, 2) := by decide +kernel
theorem d_Uncoder_unhexLine_80 : decode b_Uncoder_unhexLine 80 = .ok (.iadd, 1) := by decide +kernel
theorem d_Uncoder_unhexLine_81 : decode b_Uncoder_unhexLine 81 = .ok (.invokevirtual 62, 3) := by decide +kernel
theorem d_Uncoder_unhexLine_84 : decode b_Uncoder_unhexLine 84 = .ok (.invokestatic 125, 3) := by decide +kernel
theorem d_Uncoder_unhexLine_87 : decode b_Uncoder_unhexLine 87 = .ok (.goto 4, 3) := by decide +kernel
theorem d_Uncoder_unhexLine_90 : decode b_Uncoder_unhexLine 90 = .ok (.iconst 0, 1) := by decide +kernel
theorem d_Uncoder_unhexLine_91 : decode b_Uncoder_unhexLine 91 = .ok (.bipush 6, 2) := by decide +kernel
theorem d_Uncoder_unhexLine_93 : decode b_Uncoder_unhexLine 93 = .ok (.invokevirtual 71, 3) := by decide +kernel
theorem d_Uncoder_unhexLine_96 : decode b_Uncoder_unhexLine 96 = .ok (.aload_n 0, 1) := by decide +kernel
theorem d_Uncoder_unhexLine_97 : decode b_Uncoder_unhexLine 97 = .ok (.getfield 12, 3) := by decide +kernel
theorem d_Uncoder_unhexLine_100 : decode b_Uncoder_unhexLine 100 = .ok (.bipush 8, 2) := by decide +kernel
theorem d_Uncoder_unhexLine_102 : decode b_Uncoder_unhexLine 102 = .ok (.invokevirtual 75, 3) := by decide +kernel
theorem d_Uncoder_unhexLine_105 : decode b_Uncoder_unhexLine 105 = .ok (.ifCond .eq 19, 3) := by decide +kernel
theorem d_Uncoder_unhexLine_108 : decode b_Uncoder_unhexLine 108 = .ok (.aload_n 2, 1) := by decide +kernel
theorem d_Uncoder_unhexLine_109 : decode b_Uncoder_unhexLine 109 = .ok (.aload_n 0, 1) := by decide +kernel
theorem d_Uncoder_unhexLine_110 : decode b_Uncoder_unhexLine 110 = .ok (.getfield 12, 3) := by decide +kernel
theorem d_Uncoder_unhexLine_113 : decode b_Uncoder_unhexLine 113 = .ok (.bipush 8, 2) := by decide +kernel
theorem d_Uncoder_unhexLine_115 : decode b_Uncoder_unhexLine 115 = .ok (.invokevirtual 79, 3) := by decide +kernel
theorem d_Uncoder_unhexLine_118 : decode b_Uncoder_unhexLine 118 = .ok (.invokevirtual 82, 3) := by decide +kernel
theorem d_Uncoder_unhexLine_121 : decode b_Uncoder_unhexLine 121 = .ok (.iinc 3 (-1), 3) := by decide +kernel
theorem d_Uncoder_unhexLine_124 : decode b_Uncoder_unhexLine 124 = .ok (.iinc 6 1, 3) := by decide +kernel
theorem d_Uncoder_unhexLine_127 : decode b_Uncoder_unhexLine 127 = .ok (.goto (-81), 3) := by decide +kernel
theorem d_Uncoder_unhexLine_130 : decode b_Uncoder_unhexLine 130 = .ok (.return_, 1) := by decide +kernel
theorem d_MC_swapTapes_0 : decode b_MC_swapTapes 0 = .ok (.aload_n 0, 1) := by decide +kernel
theorem d_MC_swapTapes_1 : decode b_MC_swapTapes 1 = .ok (.getfield 57, 3) := by decide +kernel
theorem d_MC_swapTapes_4 : decode b_MC_swapTapes 4 = .ok (.astore_n 1, 1) := by decide +kernel
theorem d_MC_swapTapes_5 : decode b_MC_swapTapes 5 = .ok (.aload_n 0, 1) := by decide +kernel
theorem d_MC_swapTapes_6 : decode b_MC_swapTapes 6 = .ok (.aload_n 0, 1) := by decide +kernel
theorem d_MC_swapTapes_7 : decode b_MC_swapTapes 7 = .ok (.getfield 60, 3) := by decide +kernel
theorem d_MC_swapTapes_10 : decode b_MC_swapTapes 10 = .ok (.putfield 57, 3) := by decide +kernel
theorem d_MC_swapTapes_13 : decode b_MC_swapTapes 13 = .ok (.aload_n 0, 1) := by decide +kernel
theorem d_MC_swapTapes_14 : decode b_MC_swapTapes 14 = .ok (.aload_n 1, 1) := by decide +kernel
theorem d_MC_swapTapes_15 : decode b_MC_swapTapes 15 = .ok (.putfield 60, 3) := by decide +kernel
theorem d_MC_swapTapes_18 : decode b_MC_swapTapes 18 = .ok (.return_, 1) := by decide +kernel
theorem d_MC_isCharset_0 : decode b_MC_isCharset 0 = .ok (.iload_n 0, 1) := by decide +kernel
theorem d_MC_isCharset_1 : decode b_MC_isCharset 1 = .ok (.ifCond .lt 13, 3) := by decide +kernel
theorem d_MC_isCharset_4 : decode b_MC_isCharset 4 = .ok (.iload_n 0, 1) := by decide +kernel
theorem d_MC_isCharset_5 : decode b_MC_isCharset 5 = .ok (.bipush 9, 2) := by decide +kernel
theorem d_MC_isCharset_7 : decode b_MC_isCharset 7 = .ok (.if_icmp .gt 7, 3) := by decide +kernel
theorem d_MC_isCharset_10 : decode b_MC_isCharset 10 = .ok (.iconst 1, 1) := by decide +kernel
theorem d_MC_isCharset_11 : decode b_MC_isCharset 11 = .ok (.goto 4, 3) := by decide +kernel
theorem d_MC_isCharset_14 : decode b_MC_isCharset 14 = .ok (.iconst 0, 1) := by decide +kernel
theorem d_MC_isCharset_15 : decode b_MC_isCharset 15 = .ok (.ireturn, 1) := by decide +kernel
theorem d_Writer_goesInRun_0 : decode b_Writer_goesInRun 0 = .ok (.iload_n 0, 1) := by decide +kernel
theorem d_Writer_goesInRun_1 : decode b_Writer_goesInRun 1 = .ok (.bipush 9, 2) := by decide +kernel
theorem d_Writer_goesInRun_3 : decode b_Writer_goesInRun 3 = .ok (.if_icmp .eq 15, 3) := by decide +kernel
theorem d_Writer_goesInRun_6 : decode b_Writer_goesInRun 6 = .ok (.iload_n 0, 1) := by decide +kernel
theorem d_Writer_goesInRun_7 : decode b_Writer_goesInRun 7 = .ok (.bipush 10, 2) := by decide +kernel
theorem d_Writer_goesInRun_9 : decode b_Writer_goesInRun 9 = .ok (.if_icmp .eq 9, 3) := by decide +kernel
theorem d_Writer_goesInRun_12 : decode b_Writer_goesInRun 12 = .ok (.iload_n 0, 1) := by decide +kernel
theorem d_Writer_goesInRun_13 : decode b_Writer_goesInRun 13 = .ok (.bipush 13, 2) := by decide +kernel
theorem d_Writer_goesInRun_15 : decode b_Writer_goesInRun 15 = .ok (.if_icmp .ne 5, 3) := by decide +kernel
theorem d_Writer_goesInRun_18 : decode b_Writer_goesInRun 18 = .ok (.iconst 0, 1) := by decide +kernel
theorem d_Writer_goesInRun_19 : decode b_Writer_goesInRun 19 = .ok (.ireturn, 1) := by decide +kernel
theorem d_Writer_goesInRun_20 : decode b_Writer_goesInRun 20 = .ok (.iload_n 0, 1) := by decide +kernel
theorem d_Writer_goesInRun_21 : decode b_Writer_goesInRun 21 = .ok (.bipush 32, 2) := by decide +kernel
theorem d_Writer_goesInRun_23 : decode b_Writer_goesInRun 23 = .ok (.if_icmp .lt 21, 3) := by decide +kernel
theorem d_Writer_goesInRun_26 : decode b_Writer_goesInRun 26 = .ok (.iload_n 0, 1) := by decide +kernel
theorem d_Writer_goesInRun_27 : decode b_Writer_goesInRun 27 = .ok (.bipush 126, 2) := by decide +kernel
theorem d_Writer_goesInRun_29 : decode b_Writer_goesInRun 29 = .ok (.if_icmp .gt 15, 3) := by decide +kernel
theorem d_Writer_goesInRun_32 : decode b_Writer_goesInRun 32 = .ok (.iload_n 0, 1) := by decide +kernel
theorem d_Writer_goesInRun_33 : decode b_Writer_goesInRun 33 = .ok (.bipush 92, 2) := by decide +kernel
theorem d_Writer_goesInRun_35 : decode b_Writer_goesInRun 35 = .ok (.if_icmp .eq 9, 3) := by decide +kernel
theorem d_Writer_goesInRun_38 : decode b_Writer_goesInRun 38 = .ok (.iload_n 0, 1) := by decide +kernel
theorem d_Writer_goesInRun_39 : decode b_Writer_goesInRun 39 = .ok (.bipush 126, 2) := by decide +kernel
theorem d_Writer_goesInRun_41 : decode b_Writer_goesInRun 41 = .ok (.if_icmp .ne 7, 3) := by decide +kernel
theorem d_Writer_goesInRun_44 : decode b_Writer_goesInRun 44 = .ok (.iconst 1, 1) := by decide +kernel
theorem d_Writer_goesInRun_45 : decode b_Writer_goesInRun 45 = .ok (.goto 4, 3) := by decide +kernel
theorem d_Writer_goesInRun_48 : decode b_Writer_goesInRun 48 = .ok (.iconst 0, 1) := by decide +kernel
theorem d_Writer_goesInRun_49 : decode b_Writer_goesInRun 49 = .ok (.ireturn, 1) := by decide +kernel
theorem d_Writer_unitsOf_0 : decode b_Writer_unitsOf 0 = .ok (.iload_n 0, 1) := by decide +kernel
theorem d_Writer_unitsOf_1 : decode b_Writer_unitsOf 1 = .ok (.ldc 53, 2) := by decide +kernel
theorem d_Writer_unitsOf_3 : decode b_Writer_unitsOf 3 = .ok (.if_icmp .ge 7, 3) := by decide +kernel
theorem d_Writer_unitsOf_6 : decode b_Writer_unitsOf 6 = .ok (.iconst 1, 1) := by decide +kernel
theorem d_Writer_unitsOf_7 : decode b_Writer_unitsOf 7 = .ok (.goto 4, 3) := by decide +kernel
theorem d_Writer_unitsOf_10 : decode b_Writer_unitsOf 10 = .ok (.iconst 2, 1) := by decide +kernel
theorem d_Writer_unitsOf_11 : decode b_Writer_unitsOf 11 = .ok (.ireturn, 1) := by decide +kernel
theorem d_Writer_directWidthOf_0 : decode b_Writer_directWidthOf 0 = .ok (.iload_n 0, 1) := by decide +kernel
theorem d_Writer_directWidthOf_1 : decode b_Writer_directWidthOf 1 = .ok (.bipush 43, 2) := by decide +kernel
theorem d_Writer_directWidthOf_3 : decode b_Writer_directWidthOf 3 = .ok (.if_icmp .ne 7, 3) := by decide +kernel
theorem d_Writer_directWidthOf_6 : decode b_Writer_directWidthOf 6 = .ok (.iconst 2, 1) := by decide +kernel
theorem d_Writer_directWidthOf_7 : decode b_Writer_directWidthOf 7 = .ok (.goto 4, 3) := by decide +kernel
theorem d_Writer_directWidthOf_10 : decode b_Writer_directWidthOf 10 = .ok (.iconst 1, 1) := by decide +kernel
theorem d_Writer_directWidthOf_11 : decode b_Writer_directWidthOf 11 = .ok (.ireturn, 1) := by decide +kernel
theorem d_Writer_unitOf_0 : decode b_Writer_unitOf 0 = .ok (.iload_n 0, 1) := by decide +kernel
theorem d_Writer_unitOf_1 : decode b_Writer_unitOf 1 = .ok (.invokestatic 50, 3) := by decide +kernel
theorem d_Writer_unitOf_4 : decode b_Writer_unitOf 4 = .ok (.iconst 1, 1) := by decide +kernel
theorem d_Writer_unitOf_5 : decode b_Writer_unitOf 5 = .ok (.if_icmp .ne 5, 3) := by decide +kernel
theorem d_Writer_unitOf_8 : decode b_Writer_unitOf 8 = .ok (.iload_n 0, 1) := by decide +kernel
theorem d_Writer_unitOf_9 : decode b_Writer_unitOf 9 = .ok (.ireturn, 1) := by decide +kernel
theorem d_Writer_unitOf_10 : decode b_Writer_unitOf 10 = .ok (.iload_n 1, 1) := by decide +kernel
theorem d_Writer_unitOf_11 : decode b_Writer_unitOf 11 = .ok (.ifCond .ne 16, 3) := by decide +kernel
theorem d_Writer_unitOf_14 : decode b_Writer_unitOf 14 = .ok (.ldc 54, 2) := by decide +kernel
theorem d_Writer_unitOf_16 : decode b_Writer_unitOf 16 = .ok (.iload_n 0, 1) := by decide +kernel
theorem d_Writer_unitOf_17 : decode b_Writer_unitOf 17 = .ok (.ldc 53, 2) := by decide +kernel
theorem d_Writer_unitOf_19 : decode b_Writer_unitOf 19 = .ok (.isub, 1) := by decide +kernel
theorem d_Writer_unitOf_20 : decode b_Writer_unitOf 20 = .ok (.bipush 10, 2) := by decide +kernel
theorem d_Writer_unitOf_22 : decode b_Writer_unitOf 22 = .ok (.ishr, 1) := by decide +kernel
theorem d_Writer_unitOf_23 : decode b_Writer_unitOf 23 = .ok (.iadd, 1) := by decide +kernel
theorem d_Writer_unitOf_24 : decode b_Writer_unitOf 24 = .ok (.goto 14, 3) := by decide +kernel
theorem d_Writer_unitOf_27 : decode b_Writer_unitOf 27 = .ok (.ldc 55, 2) := by decide +kernel
theorem d_Writer_unitOf_29 : decode b_Writer_unitOf 29 = .ok (.iload_n 0, 1) := by decide +kernel
theorem d_Writer_unitOf_30 : decode b_Writer_unitOf 30 = .ok (.ldc 53, 2) := by decide +kernel
theorem d_Writer_unitOf_32 : decode b_Writer_unitOf 32 = .ok (.isub, 1) := by decide +kernel
theorem d_Writer_unitOf_33 : decode b_Writer_unitOf 33 = .ok (.sipush 1023, 3) := by decide +kernel
theorem d_Writer_unitOf_36 : decode b_Writer_unitOf 36 = .ok (.iand, 1) := by decide +kernel
theorem d_Writer_unitOf_37 : decode b_Writer_unitOf 37 = .ok (.iadd, 1) := by decide +kernel
theorem d_Writer_unitOf_38 : decode b_Writer_unitOf 38 = .ok (.ireturn, 1) := by decide +kernel
theorem d_Letters_letterOf_0 : decode b_Letters_letterOf 0 = .ok (.iload_n 0, 1) := by decide +kernel
theorem d_Letters_letterOf_1 : decode b_Letters_letterOf 1 = .ok (.bipush 26, 2) := by decide +kernel
theorem d_Letters_letterOf_3 : decode b_Letters_letterOf 3 = .ok (.if_icmp .ge 8, 3) := by decide +kernel
theorem d_Letters_letterOf_6 : decode b_Letters_letterOf 6 = .ok (.bipush 65, 2) := by decide +kernel
theorem d_Letters_letterOf_8 : decode b_Letters_letterOf 8 = .ok (.iload_n 0, 1) := by decide +kernel
theorem d_Letters_letterOf_9 : decode b_Letters_letterOf 9 = .ok (.iadd, 1) := by decide +kernel
theorem d_Letters_letterOf_10 : decode b_Letters_letterOf 10 = .ok (.ireturn, 1) := by decide +kernel
theorem d_Letters_letterOf_11 : decode b_Letters_letterOf 11 = .ok (.iload_n 0, 1) := by decide +kernel
theorem d_Letters_letterOf_12 : decode b_Letters_letterOf 12 = .ok (.bipush 52, 2) := by decide +kernel
theorem d_Letters_letterOf_14 : decode b_Letters_letterOf 14 = .ok (.if_icmp .ge 11, 3) := by decide +kernel
theorem d_Letters_letterOf_17 : decode b_Letters_letterOf 17 = .ok (.bipush 97, 2) := by decide +kernel
theorem d_Letters_letterOf_19 : decode b_Letters_letterOf 19 = .ok (.iload_n 0, 1) := by decide +kernel
theorem d_Letters_letterOf_20 : decode b_Letters_letterOf 20 = .ok (.iadd, 1) := by decide +kernel
theorem d_Letters_letterOf_21 : decode b_Letters_letterOf 21 = .ok (.bipush 26, 2) := by decide +kernel
theorem d_Letters_letterOf_23 : decode b_Letters_letterOf 23 = .ok (.isub, 1) := by decide +kernel
theorem d_Letters_letterOf_24 : decode b_Letters_letterOf 24 = .ok (.ireturn, 1) := by decide +kernel
theorem d_Letters_letterOf_25 : decode b_Letters_letterOf 25 = .ok (.iload_n 0, 1) := by decide +kernel
theorem d_Letters_letterOf_26 : decode b_Letters_letterOf 26 = .ok (.bipush 62, 2) := by decide +kernel
theorem d_Letters_letterOf_28 : decode b_Letters_letterOf 28 = .ok (.if_icmp .ge 11, 3) := by decide +kernel
theorem d_Letters_letterOf_31 : decode b_Letters_letterOf 31 = .ok (.bipush 48, 2) := by decide +kernel
theorem d_Letters_letterOf_33 : decode b_Letters_letterOf 33 = .ok (.iload_n 0, 1) := by decide +kernel
theorem d_Letters_letterOf_34 : decode b_Letters_letterOf 34 = .ok (.iadd, 1) := by decide +kernel
theorem d_Letters_letterOf_35 : decode b_Letters_letterOf 35 = .ok (.bipush 52, 2) := by decide +kernel
theorem d_Letters_letterOf_37 : decode b_Letters_letterOf 37 = .ok (.isub, 1) := by decide +kernel
theorem d_Letters_letterOf_38 : decode b_Letters_letterOf 38 = .ok (.ireturn, 1) := by decide +kernel
theorem d_Letters_letterOf_39 : decode b_Letters_letterOf 39 = .ok (.iload_n 0, 1) := by decide +kernel
theorem d_Letters_letterOf_40 : decode b_Letters_letterOf 40 = .ok (.bipush 62, 2) := by decide +kernel
theorem d_Letters_letterOf_42 : decode b_Letters_letterOf 42 = .ok (.if_icmp .ne 8, 3) := by decide +kernel
theorem d_Letters_letterOf_45 : decode b_Letters_letterOf 45 = .ok (.bipush 43, 2) := by decide +kernel
theorem d_Letters_letterOf_47 : decode b_Letters_letterOf 47 = .ok (.goto 5, 3) := by decide +kernel
theorem d_Letters_letterOf_50 : decode b_Letters_letterOf 50 = .ok (.bipush 47, 2) := by decide +kernel
theorem d_Letters_letterOf_52 : decode b_Letters_letterOf 52 = .ok (.ireturn, 1) := by decide +kernel
theorem d_Bits_fillUp_0 : decode b_Bits_fillUp 0 = .ok (.aload_n 0, 1) := by decide +kernel
theorem d_Bits_fillUp_1 : decode b_Bits_fillUp 1 = .ok (.getfield 13, 3) := by decide +kernel
theorem d_Bits_fillUp_4 : decode b_Bits_fillUp 4 = .ok (.ifCond .le 22, 3) := by decide +kernel
theorem d_Bits_fillUp_7 : decode b_Bits_fillUp 7 = .ok (.aload_n 0, 1) := by decide +kernel
theorem d_Bits_fillUp_8 : decode b_Bits_fillUp 8 = .ok (.getfield 13, 3) := by decide +kernel
theorem d_Bits_fillUp_11 : decode b_Bits_fillUp 11 = .ok (.iload_n 1, 1) := by decide +kernel
theorem d_Bits_fillUp_12 : decode b_Bits_fillUp 12 = .ok (.if_icmp .ge 14, 3) := by decide +kernel
theorem d_Bits_fillUp_15 : decode b_Bits_fillUp 15 = .ok (.aload_n 0, 1) := by decide +kernel
theorem d_Bits_fillUp_16 : decode b_Bits_fillUp 16 = .ok (.iconst 0, 1) := by decide +kernel
theorem d_Bits_fillUp_17 : decode b_Bits_fillUp 17 = .ok (.iload_n 1, 1) := by decide +kernel
theorem d_Bits_fillUp_18 : decode b_Bits_fillUp 18 = .ok (.aload_n 0, 1) := by decide +kernel
theorem d_Bits_fillUp_19 : decode b_Bits_fillUp 19 = .ok (.getfield 13, 3) := by decide +kernel
theorem d_Bits_fillUp_22 : decode b_Bits_fillUp 22 = .ok (.isub, 1) := by decide +kernel
theorem d_Bits_fillUp_23 : decode b_Bits_fillUp 23 = .ok (.invokevirtual 16, 3) := by decide +kernel
theorem d_Bits_fillUp_26 : decode b_Bits_fillUp 26 = .ok (.return_, 1) := by decide +kernel
theorem d_Writer_writeDirectly_0 : decode b_Writer_writeDirectly 0 = .ok (.aload_n 1, 1) := by decide +kernel
theorem d_Writer_writeDirectly_1 : decode b_Writer_writeDirectly 1 = .ok (.iload_n 0, 1) := by decide +kernel
theorem d_Writer_writeDirectly_2 : decode b_Writer_writeDirectly 2 = .ok (.invokevirtual 22, 3) := by decide +kernel
theorem d_Writer_writeDirectly_5 : decode b_Writer_writeDirectly 5 = .ok (.iload_n 0, 1) := by decide +kernel
theorem d_Writer_writeDirectly_6 : decode b_Writer_writeDirectly 6 = .ok (.bipush 43, 2) := by decide +kernel
theorem d_Writer_writeDirectly_8 : decode b_Writer_writeDirectly 8 = .ok (.if_icmp .ne 9, 3) := by decide +kernel
theorem d_Writer_writeDirectly_11 : decode b_Writer_writeDirectly 11 = .ok (.aload_n 1, 1) := by decide +kernel
theorem d_Writer_writeDirectly_12 : decode b_Writer_writeDirectly 12 = .ok (.bipush 45, 2) := by decide +kernel
theorem d_Writer_writeDirectly_14 : decode b_Writer_writeDirectly 14 = .ok (.invokevirtual 22, 3) := by decide +kernel
theorem d_Writer_writeDirectly_17 : decode b_Writer_writeDirectly 17 = .ok (.return_, 1) := by decide +kernel
theorem d_Writer_utf8WidthOf_0 : decode b_Writer_utf8WidthOf 0 = .ok (.iload_n 0, 1) := by decide +kernel
theorem d_Writer_utf8WidthOf_1 : decode b_Writer_utf8WidthOf 1 = .ok (.sipush 128, 3) := by decide +kernel
theorem d_Writer_utf8WidthOf_4 : decode b_Writer_utf8WidthOf 4 = .ok (.if_icmp .ge 5, 3) := by decide +kernel
theorem d_Writer_utf8WidthOf_7 : decode b_Writer_utf8WidthOf 7 = .ok (.iconst 1, 1) := by decide +kernel
theorem d_Writer_utf8WidthOf_8 : decode b_Writer_utf8WidthOf 8 = .ok (.ireturn, 1) := by decide +kernel
theorem d_Writer_utf8WidthOf_9 : decode b_Writer_utf8WidthOf 9 = .ok (.iload_n 0, 1) := by decide +kernel
theorem d_Writer_utf8WidthOf_10 : decode b_Writer_utf8WidthOf 10 = .ok (.sipush 2048, 3) := by decide +kernel
theorem d_Writer_utf8WidthOf_13 : decode b_Writer_utf8WidthOf 13 = .ok (.if_icmp .ge 5, 3) := by decide +kernel
theorem d_Writer_utf8WidthOf_16 : decode b_Writer_utf8WidthOf 16 = .ok (.iconst 2, 1) := by decide +kernel
theorem d_Writer_utf8WidthOf_17 : decode b_Writer_utf8WidthOf 17 = .ok (.ireturn, 1) := by decide +kernel
theorem d_Writer_utf8WidthOf_18 : decode b_Writer_utf8WidthOf 18 = .ok (.iload_n 0, 1) := by decide +kernel
theorem d_Writer_utf8WidthOf_19 : decode b_Writer_utf8WidthOf 19 = .ok (.ldc 53, 2) := by decide +kernel
theorem d_Writer_utf8WidthOf_21 : decode b_Writer_utf8WidthOf 21 = .ok (.if_icmp .ge 7, 3) := by decide +kernel
theorem d_Writer_utf8WidthOf_24 : decode b_Writer_utf8WidthOf 24 = .ok (.iconst 3, 1) := by decide +kernel
theorem d_Writer_utf8WidthOf_25 : decode b_Writer_utf8WidthOf 25 = .ok (.goto 4, 3) := by decide +kernel
theorem d_Writer_utf8WidthOf_28 : decode b_Writer_utf8WidthOf 28 = .ok (.iconst 4, 1) := by decide +kernel
theorem d_Writer_utf8WidthOf_29 : decode b_Writer_utf8WidthOf 29 = .ok (.ireturn, 1) := by decide +kernel
theorem d_Writer_writeUtf8_0 : decode b_Writer_writeUtf8 0 = .ok (.iload_n 0, 1) := by decide +kernel
theorem d_Writer_writeUtf8_1 : decode b_Writer_writeUtf8 1 = .ok (.invokestatic 47, 3) := by decide +kernel
theorem d_Writer_writeUtf8_4 : decode b_Writer_writeUtf8 4 = .ok (.tableswitch 79 1 3 #[28, 34, 49], 28) := by decide +kernel
theorem d_Writer_writeUtf8_32 : decode b_Writer_writeUtf8 32 = .ok (.aload_n 1, 1) := by decide +kernel
theorem d_Writer_writeUtf8_33 : decode b_Writer_writeUtf8 33 = .ok (.iload_n 0, 1) := by decide +kernel
theorem d_Writer_writeUtf8_34 : decode b_Writer_writeUtf8 34 = .ok (.invokevirtual 22, 3) := by decide +kernel
theorem d_Writer_writeUtf8_37 : decode b_Writer_writeUtf8 37 = .ok (.return_, 1) := by decide +kernel
theorem d_Writer_writeUtf8_38 : decode b_Writer_writeUtf8 38 = .ok (.aload_n 1, 1) := by decide +kernel
theorem d_Writer_writeUtf8_39 : decode b_Writer_writeUtf8 39 = .ok (.sipush 192, 3) := by decide +kernel
theorem d_Writer_writeUtf8_42 : decode b_Writer_writeUtf8 42 = .ok (.iload_n 0, 1) := by decide +kernel
theorem d_Writer_writeUtf8_43 : decode b_Writer_writeUtf8 43 = .ok (.bipush 6, 2) := by decide +kernel
theorem d_Writer_writeUtf8_45 : decode b_Writer_writeUtf8 45 = .ok (.ishr, 1) := by decide +kernel
theorem d_Writer_writeUtf8_46 : decode b_Writer_writeUtf8 46 = .ok (.ior, 1) := by decide +kernel
theorem d_Writer_writeUtf8_47 : decode b_Writer_writeUtf8 47 = .ok (.invokevirtual 22, 3) := by decide +kernel
theorem d_Writer_writeUtf8_50 : decode b_Writer_writeUtf8 50 = .ok (.goto 75, 3) := by decide +kernel
theorem d_Writer_writeUtf8_53 : decode b_Writer_writeUtf8 53 = .ok (.aload_n 1, 1) := by decide +kernel
theorem d_Writer_writeUtf8_54 : decode b_Writer_writeUtf8 54 = .ok (.sipush 224, 3) := by decide +kernel
theorem d_Writer_writeUtf8_57 : decode b_Writer_writeUtf8 57 = .ok (.iload_n 0, 1) := by decide +kernel
theorem d_Writer_writeUtf8_58 : decode b_Writer_writeUtf8 58 = .ok (.bipush 12, 2) := by decide +kernel
theorem d_Writer_writeUtf8_60 : decode b_Writer_writeUtf8 60 = .ok (.ishr, 1) := by decide +kernel
theorem d_Writer_writeUtf8_61 : decode b_Writer_writeUtf8 61 = .ok (.ior, 1) := by decide +kernel
theorem d_Writer_writeUtf8_62 : decode b_Writer_writeUtf8 62 = .ok (.invokevirtual 22, 3) := by decide +kernel
theorem d_Writer_writeUtf8_65 : decode b_Writer_writeUtf8 65 = .ok (.aload_n 1, 1) := by decide +kernel
theorem d_Writer_writeUtf8_66 : decode b_Writer_writeUtf8 66 = .ok (.sipush 128, 3) := by decide +kernel
theorem d_Writer_writeUtf8_69 : decode b_Writer_writeUtf8 69 = .ok (.iload_n 0, 1) := by decide +kernel
theorem d_Writer_writeUtf8_70 : decode b_Writer_writeUtf8 70 = .ok (.bipush 6, 2) := by decide +kernel
theorem d_Writer_writeUtf8_72 : decode b_Writer_writeUtf8 72 = .ok (.ishr, 1) := by decide +kernel
theorem d_Writer_writeUtf8_73 : decode b_Writer_writeUtf8 73 = .ok (.bipush 63, 2) := by decide +kernel
theorem d_Writer_writeUtf8_75 : decode b_Writer_writeUtf8 75 = .ok (.iand, 1) := by decide +kernel
theorem d_Writer_writeUtf8_76 : decode b_Writer_writeUtf8 76 = .ok (.ior, 1) := by decide +kernel
theorem d_Writer_writeUtf8_77 : decode b_Writer_writeUtf8 77 = .ok (.invokevirtual 22, 3) := by decide +kernel
theorem d_Writer_writeUtf8_80 : decode b_Writer_writeUtf8 80 = .ok (.goto 45, 3) := by decide +kernel
theorem d_Writer_writeUtf8_83 : decode b_Writer_writeUtf8 83 = .ok (.aload_n 1, 1) := by decide +kernel
theorem d_Writer_writeUtf8_84 : decode b_Writer_writeUtf8 84 = .ok (.sipush 240, 3) := by decide +kernel
theorem d_Writer_writeUtf8_87 : decode b_Writer_writeUtf8 87 = .ok (.iload_n 0, 1) := by decide +kernel
theorem d_Writer_writeUtf8_88 : decode b_Writer_writeUtf8 88 = .ok (.bipush 18, 2) := by decide +kernel
theorem d_Writer_writeUtf8_90 : decode b_Writer_writeUtf8 90 = .ok (.ishr, 1) := by decide +kernel
theorem d_Writer_writeUtf8_91 : decode b_Writer_writeUtf8 91 = .ok (.ior, 1) := by decide +kernel
theorem d_Writer_writeUtf8_92 : decode b_Writer_writeUtf8 92 = .ok (.invokevirtual 22, 3) := by decide +kernel
theorem d_Writer_writeUtf8_95 : decode b_Writer_writeUtf8 95 = .ok (.aload_n 1, 1) := by decide +kernel
theorem d_Writer_writeUtf8_96 : decode b_Writer_writeUtf8 96 = .ok (.sipush 128, 3) := by decide +kernel
theorem d_Writer_writeUtf8_99 : decode b_Writer_writeUtf8 99 = .ok (.iload_n 0, 1) := by decide +kernel
theorem d_Writer_writeUtf8_100 : decode b_Writer_writeUtf8 100 = .ok (.bipush 12, 2) := by decide +kernel
theorem d_Writer_writeUtf8_102 : decode b_Writer_writeUtf8 102 = .ok (.ishr, 1) := by decide +kernel
theorem d_Writer_writeUtf8_103 : decode b_Writer_writeUtf8 103 = .ok (.bipush 63, 2) := by decide +kernel
theorem d_Writer_writeUtf8_105 : decode b_Writer_writeUtf8 105 = .ok (.iand, 1) := by decide +kernel
theorem d_Writer_writeUtf8_106 : decode b_Writer_writeUtf8 106 = .ok (.ior, 1) := by decide +kernel
theorem d_Writer_writeUtf8_107 : decode b_Writer_writeUtf8 107 = .ok (.invokevirtual 22, 3) := by decide +kernel
theorem d_Writer_writeUtf8_110 : decode b_Writer_writeUtf8 110 = .ok (.aload_n 1, 1) := by decide +kernel
theorem d_Writer_writeUtf8_111 : decode b_Writer_writeUtf8 111 = .ok (.sipush 128, 3) := by decide +kernel
theorem d_Writer_writeUtf8_114 : decode b_Writer_writeUtf8 114 = .ok (.iload_n 0, 1) := by decide +kernel
theorem d_Writer_writeUtf8_115 : decode b_Writer_writeUtf8 115 = .ok (.bipush 6, 2) := by decide +kernel
theorem d_Writer_writeUtf8_117 : decode b_Writer_writeUtf8 117 = .ok (.ishr, 1) := by decide +kernel
theorem d_Writer_writeUtf8_118 : decode b_Writer_writeUtf8 118 = .ok (.bipush 63, 2) := by decide +kernel
theorem d_Writer_writeUtf8_120 : decode b_Writer_writeUtf8 120 = .ok (.iand, 1) := by decide +kernel
theorem d_Writer_writeUtf8_121 : decode b_Writer_writeUtf8 121 = .ok (.ior, 1) := by decide +kernel
theorem d_Writer_writeUtf8_122 : decode b_Writer_writeUtf8 122 = .ok (.invokevirtual 22, 3) := by decide +kernel
theorem d_Writer_writeUtf8_125 : decode b_Writer_writeUtf8 125 = .ok (.aload_n 1, 1) := by decide +kernel
theorem d_Writer_writeUtf8_126 : decode b_Writer_writeUtf8 126 = .ok (.sipush 128, 3) := by decide +kernel
theorem d_Writer_writeUtf8_129 : decode b_Writer_writeUtf8 129 = .ok (.iload_n 0, 1) := by decide +kernel
theorem d_Writer_writeUtf8_130 : decode b_Writer_writeUtf8 130 = .ok (.bipush 63, 2) := by decide +kernel
theorem d_Writer_writeUtf8_132 : decode b_Writer_writeUtf8 132 = .ok (.iand, 1) := by decide +kernel
theorem d_Writer_writeUtf8_133 : decode b_Writer_writeUtf8 133 = .ok (.ior, 1) := by decide +kernel
theorem d_Writer_writeUtf8_134 : decode b_Writer_writeUtf8 134 = .ok (.invokevirtual 22, 3) := by decide +kernel
theorem d_Writer_writeUtf8_137 : decode b_Writer_writeUtf8 137 = .ok (.return_, 1) := by decide +kernel
theorem d_Writer_writeUtf16_0 : decode b_Writer_writeUtf16 0 = .ok (.iconst 0, 1) := by decide +kernel
theorem d_Writer_writeUtf16_1 : decode b_Writer_writeUtf16 1 = .ok (.istore_n 3, 1) := by decide +kernel
theorem d_Writer_writeUtf16_2 : decode b_Writer_writeUtf16 2 = .ok (.iload_n 3, 1) := by decide +kernel
theorem d_Writer_writeUtf16_3 : decode b_Writer_writeUtf16 3 = .ok (.iload_n 0, 1) := by decide +kernel
theorem d_Writer_writeUtf16_4 : decode b_Writer_writeUtf16 4 = .ok (.invokestatic 50, 3) := by decide +kernel
theorem d_Writer_writeUtf16_7 : decode b_Writer_writeUtf16 7 = .ok (.if_icmp .ge 61, 3) := by decide +kernel
theorem d_Writer_writeUtf16_10 : decode b_Writer_writeUtf16 10 = .ok (.iload_n 0, 1) := by decide +kernel
theorem d_Writer_writeUtf16_11 : decode b_Writer_writeUtf16 11 = .ok (.iload_n 3, 1) := by decide +kernel
theorem d_Writer_writeUtf16_12 : decode b_Writer_writeUtf16 12 = .ok (.invokestatic 69, 3) := by decide +kernel
theorem d_Writer_writeUtf16_15 : decode b_Writer_writeUtf16 15 = .ok (.istore 4, 2) := by decide +kernel
theorem d_Writer_writeUtf16_17 : decode b_Writer_writeUtf16 17 = .ok (.iload 4, 2) := by decide +kernel
theorem d_Writer_writeUtf16_19 : decode b_Writer_writeUtf16 19 = .ok (.bipush 8, 2) := by decide +kernel
theorem d_Writer_writeUtf16_21 : decode b_Writer_writeUtf16 21 = .ok (.ishr, 1) := by decide +kernel
theorem d_Writer_writeUtf16_22 : decode b_Writer_writeUtf16 22 = .ok (.istore 5, 2) := by decide +kernel
theorem d_Writer_writeUtf16_24 : decode b_Writer_writeUtf16 24 = .ok (.iload 4, 2) := by decide +kernel
theorem d_Writer_writeUtf16_26 : decode b_Writer_writeUtf16 26 = .ok (.sipush 255, 3) := by decide +kernel
theorem d_Writer_writeUtf16_29 : decode b_Writer_writeUtf16 29 = .ok (.iand, 1) := by decide +kernel
theorem d_Writer_writeUtf16_30 : decode b_Writer_writeUtf16 30 = .ok (.istore 6, 2) := by decide +kernel
theorem d_Writer_writeUtf16_32 : decode b_Writer_writeUtf16 32 = .ok (.aload_n 2, 1) := by decide +kernel
theorem d_Writer_writeUtf16_33 : decode b_Writer_writeUtf16 33 = .ok (.iload_n 1, 1) := by decide +kernel
theorem d_Writer_writeUtf16_34 : decode b_Writer_writeUtf16 34 = .ok (.ifCond .eq 8, 3) := by decide +kernel
theorem d_Writer_writeUtf16_37 : decode b_Writer_writeUtf16 37 = .ok (.iload 5, 2) := by decide +kernel
theorem d_Writer_writeUtf16_39 : decode b_Writer_writeUtf16 39 = .ok (.goto 5, 3) := by decide +kernel
theorem d_Writer_writeUtf16_42 : decode b_Writer_writeUtf16 42 = .ok (.iload 6, 2) := by decide +kernel
theorem d_Writer_writeUtf16_44 : decode b_Writer_writeUtf16 44 = .ok (.invokevirtual 22, 3) := by decide +kernel
theorem d_Writer_writeUtf16_47 : decode b_Writer_writeUtf16 47 = .ok (.aload_n 2, 1) := by decide +kernel
theorem d_Writer_writeUtf16_48 : decode b_Writer_writeUtf16 48 = .ok (.iload_n 1, 1) := by decide +kernel
theorem d_Writer_writeUtf16_49 : decode b_Writer_writeUtf16 49 = .ok (.ifCond .eq 8, 3) := by decide +kernel
theorem d_Writer_writeUtf16_52 : decode b_Writer_writeUtf16 52 = .ok (.iload 6, 2) := by decide +kernel
theorem d_Writer_writeUtf16_54 : decode b_Writer_writeUtf16 54 = .ok (.goto 5, 3) := by decide +kernel
theorem d_Writer_writeUtf16_57 : decode b_Writer_writeUtf16 57 = .ok (.iload 5, 2) := by decide +kernel
theorem d_Writer_writeUtf16_59 : decode b_Writer_writeUtf16 59 = .ok (.invokevirtual 22, 3) := by decide +kernel
theorem d_Writer_writeUtf16_62 : decode b_Writer_writeUtf16 62 = .ok (.iinc 3 1, 3) := by decide +kernel
theorem d_Writer_writeUtf16_65 : decode b_Writer_writeUtf16 65 = .ok (.goto (-63), 3) := by decide +kernel
theorem d_Writer_writeUtf16_68 : decode b_Writer_writeUtf16 68 = .ok (.return_, 1) := by decide +kernel
theorem d_SingleBytes_latin9ByteOf_0 : decode b_SingleBytes_latin9ByteOf 0 = .ok (.iconst 0, 1) := by decide +kernel
theorem d_SingleBytes_latin9ByteOf_1 : decode b_SingleBytes_latin9ByteOf 1 = .ok (.istore_n 1, 1) := by decide +kernel
theorem d_SingleBytes_latin9ByteOf_2 : decode b_SingleBytes_latin9ByteOf 2 = .ok (.iload_n 1, 1) := by decide +kernel
theorem d_SingleBytes_latin9ByteOf_3 : decode b_SingleBytes_latin9ByteOf 3 = .ok (.iconst 1, 1) := by decide +kernel
theorem d_SingleBytes_latin9ByteOf_4 : decode b_SingleBytes_latin9ByteOf 4 = .ok (.iadd, 1) := by decide +kernel
theorem d_SingleBytes_latin9ByteOf_5 : decode b_SingleBytes_latin9ByteOf 5 = .ok (.getstatic 36, 3) := by decide +kernel
theorem d_SingleBytes_latin9ByteOf_8 : decode b_SingleBytes_latin9ByteOf 8 = .ok (.arraylength, 1) := by decide +kernel
theorem d_SingleBytes_latin9ByteOf_9 : decode b_SingleBytes_latin9ByteOf 9 = .ok (.if_icmp .ge 26, 3) := by decide +kernel
theorem d_SingleBytes_latin9ByteOf_12 : decode b_SingleBytes_latin9ByteOf 12 = .ok (.getstatic 36, 3) := by decide +kernel
theorem d_SingleBytes_latin9ByteOf_15 : decode b_SingleBytes_latin9ByteOf 15 = .ok (.iload_n 1, 1) := by decide +kernel
theorem d_SingleBytes_latin9ByteOf_16 : decode b_SingleBytes_latin9ByteOf 16 = .ok (.iconst 1, 1) := by decide +kernel
theorem d_SingleBytes_latin9ByteOf_17 : decode b_SingleBytes_latin9ByteOf 17 = .ok (.iadd, 1) := by decide +kernel
theorem d_SingleBytes_latin9ByteOf_18 : decode b_SingleBytes_latin9ByteOf 18 = .ok (.iaload, 1) := by decide +kernel
theorem d_SingleBytes_latin9ByteOf_19 : decode b_SingleBytes_latin9ByteOf 19 = .ok (.iload_n 0, 1) := by decide +kernel
theorem d_SingleBytes_latin9ByteOf_20 : decode b_SingleBytes_latin9ByteOf 20 = .ok (.if_icmp .ne 9, 3) := by decide +kernel
theorem d_SingleBytes_latin9ByteOf_23 : decode b_SingleBytes_latin9ByteOf 23 = .ok (.getstatic 36, 3) := by decide +kernel
theorem d_SingleBytes_latin9ByteOf_26 : decode b_SingleBytes_latin9ByteOf 26 = .ok (.iload_n 1, 1) := by decide +kernel
theorem d_SingleBytes_latin9ByteOf_27 : decode b_SingleBytes_latin9ByteOf 27 = .ok (.iaload, 1) := by decide +kernel
theorem d_SingleBytes_latin9ByteOf_28 : decode b_SingleBytes_latin9ByteOf 28 = .ok (.ireturn, 1) := by decide +kernel
theorem d_SingleBytes_latin9ByteOf_29 : decode b_SingleBytes_latin9ByteOf 29 = .ok (.iinc 1 2, 3) := by decide +kernel
theorem d_SingleBytes_latin9ByteOf_32 : decode b_SingleBytes_latin9ByteOf 32 = .ok (.goto (-30), 3) := by decide +kernel
theorem d_SingleBytes_latin9ByteOf_35 : decode b_SingleBytes_latin9ByteOf 35 = .ok (.iload_n 0, 1) := by decide +kernel
theorem d_SingleBytes_latin9ByteOf_36 : decode b_SingleBytes_latin9ByteOf 36 = .ok (.sipush 256, 3) := by decide +kernel
theorem d_SingleBytes_latin9ByteOf_39 : decode b_SingleBytes_latin9ByteOf 39 = .ok (.if_icmp .ge 15, 3) := by decide +kernel
theorem d_SingleBytes_latin9ByteOf_42 : decode b_SingleBytes_latin9ByteOf 42 = .ok (.iload_n 0, 1) := by decide +kernel
theorem d_SingleBytes_latin9ByteOf_43 : decode b_SingleBytes_latin9ByteOf 43 = .ok (.invokestatic 9, 3) := by decide +kernel
theorem d_SingleBytes_latin9ByteOf_46 : decode b_SingleBytes_latin9ByteOf 46 = .ok (.iload_n 0, 1) := by decide +kernel
theorem d_SingleBytes_latin9ByteOf_47 : decode b_SingleBytes_latin9ByteOf 47 = .ok (.if_icmp .ne 7, 3) := by decide +kernel
theorem d_SingleBytes_latin9ByteOf_50 : decode b_SingleBytes_latin9ByteOf 50 = .ok (.iload_n 0, 1) := by decide +kernel
theorem d_SingleBytes_latin9ByteOf_51 : decode b_SingleBytes_latin9ByteOf 51 = .ok (.goto 5, 3) := by decide +kernel
theorem d_SingleBytes_latin9ByteOf_54 : decode b_SingleBytes_latin9ByteOf 54 = .ok (.bipush 63, 2) := by decide +kernel
theorem d_SingleBytes_latin9ByteOf_56 : decode b_SingleBytes_latin9ByteOf 56 = .ok (.ireturn, 1) := by decide +kernel
theorem d_SingleBytes_placeIn_0 : decode b_SingleBytes_placeIn 0 = .ok (.iconst 0, 1) := by decide +kernel
theorem d_SingleBytes_placeIn_1 : decode b_SingleBytes_placeIn 1 = .ok (.istore_n 2, 1) := by decide +kernel
theorem d_SingleBytes_placeIn_2 : decode b_SingleBytes_placeIn 2 = .ok (.iload_n 2, 1) := by decide +kernel
theorem d_SingleBytes_placeIn_3 : decode b_SingleBytes_placeIn 3 = .ok (.aload_n 0, 1) := by decide +kernel
theorem d_SingleBytes_placeIn_4 : decode b_SingleBytes_placeIn 4 = .ok (.arraylength, 1) := by decide +kernel
theorem d_SingleBytes_placeIn_5 : decode b_SingleBytes_placeIn 5 = .ok (.if_icmp .ge 18, 3) := by decide +kernel
theorem d_SingleBytes_placeIn_8 : decode b_SingleBytes_placeIn 8 = .ok (.aload_n 0, 1) := by decide +kernel
theorem d_SingleBytes_placeIn_9 : decode b_SingleBytes_placeIn 9 = .ok (.iload_n 2, 1) := by decide +kernel
theorem d_SingleBytes_placeIn_10 : decode b_SingleBytes_placeIn 10 = .ok (.iaload, 1) := by decide +kernel
theorem d_SingleBytes_placeIn_11 : decode b_SingleBytes_placeIn 11 = .ok (.iload_n 1, 1) := by decide +kernel
theorem d_SingleBytes_placeIn_12 : decode b_SingleBytes_placeIn 12 = .ok (.if_icmp .ne 5, 3) := by decide +kernel
theorem d_SingleBytes_placeIn_15 : decode b_SingleBytes_placeIn 15 = .ok (.iload_n 2, 1) := by decide +kernel
theorem d_SingleBytes_placeIn_16 : decode b_SingleBytes_placeIn 16 = .ok (.ireturn, 1) := by decide +kernel
theorem d_SingleBytes_placeIn_17 : decode b_SingleBytes_placeIn 17 = .ok (.iinc 2 1, 3) := by decide +kernel
theorem d_SingleBytes_placeIn_20 : decode b_SingleBytes_placeIn 20 = .ok (.goto (-18), 3) := by decide +kernel
theorem d_SingleBytes_placeIn_23 : decode b_SingleBytes_placeIn 23 = .ok (.iconst (-1), 1) := by decide +kernel
theorem d_SingleBytes_placeIn_24 : decode b_SingleBytes_placeIn 24 = .ok (.ireturn, 1) := by decide +kernel
theorem d_SingleBytes_koiByteOf_0 : decode b_SingleBytes_koiByteOf 0 = .ok (.iload_n 0, 1) := by decide +kernel
theorem d_SingleBytes_koiByteOf_1 : decode b_SingleBytes_koiByteOf 1 = .ok (.sipush 1105, 3) := by decide +kernel
theorem d_SingleBytes_koiByteOf_4 : decode b_SingleBytes_koiByteOf 4 = .ok (.if_icmp .ne 7, 3) := by decide +kernel
theorem d_SingleBytes_koiByteOf_7 : decode b_SingleBytes_koiByteOf 7 = .ok (.sipush 163, 3) := by decide +kernel
theorem d_SingleBytes_koiByteOf_10 : decode b_SingleBytes_koiByteOf 10 = .ok (.ireturn, 1) := by decide +kernel
theorem d_SingleBytes_koiByteOf_11 : decode b_SingleBytes_koiByteOf 11 = .ok (.iload_n 0, 1) := by decide +kernel
theorem d_SingleBytes_koiByteOf_12 : decode b_SingleBytes_koiByteOf 12 = .ok (.sipush 1025, 3) := by decide +kernel
theorem d_SingleBytes_koiByteOf_15 : decode b_SingleBytes_koiByteOf 15 = .ok (.if_icmp .ne 7, 3) := by decide +kernel
theorem d_SingleBytes_koiByteOf_18 : decode b_SingleBytes_koiByteOf 18 = .ok (.sipush 179, 3) := by decide +kernel
theorem d_SingleBytes_koiByteOf_21 : decode b_SingleBytes_koiByteOf 21 = .ok (.ireturn, 1) := by decide +kernel
theorem d_SingleBytes_koiByteOf_22 : decode b_SingleBytes_koiByteOf 22 = .ok (.getstatic 42, 3) := by decide +kernel
theorem d_SingleBytes_koiByteOf_25 : decode b_SingleBytes_koiByteOf 25 = .ok (.iload_n 0, 1) := by decide +kernel
theorem d_SingleBytes_koiByteOf_26 : decode b_SingleBytes_koiByteOf 26 = .ok (.invokestatic 39, 3) := by decide +kernel
theorem d_SingleBytes_koiByteOf_29 : decode b_SingleBytes_koiByteOf 29 = .ok (.istore_n 1, 1) := by decide +kernel
theorem d_SingleBytes_koiByteOf_30 : decode b_SingleBytes_koiByteOf 30 = .ok (.iload_n 1, 1) := by decide +kernel
theorem d_SingleBytes_koiByteOf_31 : decode b_SingleBytes_koiByteOf 31 = .ok (.iconst (-1), 1) := by decide +kernel
theorem d_SingleBytes_koiByteOf_32 : decode b_SingleBytes_koiByteOf 32 = .ok (.if_icmp .eq 9, 3) := by decide +kernel
theorem d_SingleBytes_koiByteOf_35 : decode b_SingleBytes_koiByteOf 35 = .ok (.sipush 192, 3) := by decide +kernel
theorem d_SingleBytes_koiByteOf_38 : decode b_SingleBytes_koiByteOf 38 = .ok (.iload_n 1, 1) := by decide +kernel
theorem d_SingleBytes_koiByteOf_39 : decode b_SingleBytes_koiByteOf 39 = .ok (.iadd, 1) := by decide +kernel
theorem d_SingleBytes_koiByteOf_40 : decode b_SingleBytes_koiByteOf 40 = .ok (.ireturn, 1) := by decide +kernel
theorem d_SingleBytes_koiByteOf_41 : decode b_SingleBytes_koiByteOf 41 = .ok (.getstatic 42, 3) := by decide +kernel
theorem d_SingleBytes_koiByteOf_44 : decode b_SingleBytes_koiByteOf 44 = .ok (.iload_n 0, 1) := by decide +kernel
theorem d_SingleBytes_koiByteOf_45 : decode b_SingleBytes_koiByteOf 45 = .ok (.bipush 32, 2) := by decide +kernel
theorem d_SingleBytes_koiByteOf_47 : decode b_SingleBytes_koiByteOf 47 = .ok (.iadd, 1) := by decide +kernel
theorem d_SingleBytes_koiByteOf_48 : decode b_SingleBytes_koiByteOf 48 = .ok (.invokestatic 39, 3) := by decide +kernel
theorem d_SingleBytes_koiByteOf_51 : decode b_SingleBytes_koiByteOf 51 = .ok (.istore_n 2, 1) := by decide +kernel
theorem d_SingleBytes_koiByteOf_52 : decode b_SingleBytes_koiByteOf 52 = .ok (.iload_n 2, 1) := by decide +kernel
theorem d_SingleBytes_koiByteOf_53 : decode b_SingleBytes_koiByteOf 53 = .ok (.iconst (-1), 1) := by decide +kernel
theorem d_SingleBytes_koiByteOf_54 : decode b_SingleBytes_koiByteOf 54 = .ok (.if_icmp .ne 8, 3) := by decide +kernel
theorem d_SingleBytes_koiByteOf_57 : decode b_SingleBytes_koiByteOf 57 = .ok (.bipush 63, 2) := by decide +kernel
theorem d_SingleBytes_koiByteOf_59 : decode b_SingleBytes_koiByteOf 59 = .ok (.goto 8, 3) := by decide +kernel
theorem d_SingleBytes_koiByteOf_62 : decode b_SingleBytes_koiByteOf 62 = .ok (.sipush 224, 3) := by decide +kernel
theorem d_SingleBytes_koiByteOf_65 : decode b_SingleBytes_koiByteOf 65 = .ok (.iload_n 2, 1) := by decide +kernel
theorem d_SingleBytes_koiByteOf_66 : decode b_SingleBytes_koiByteOf 66 = .ok (.iadd, 1) := by decide +kernel
theorem d_SingleBytes_koiByteOf_67 : decode b_SingleBytes_koiByteOf 67 = .ok (.ireturn, 1) := by decide +kernel
theorem d_Coder_endLine_0 : decode b_Coder_endLine 0 = .ok (.aload_n 1, 1) := by decide +kernel
theorem d_Coder_endLine_1 : decode b_Coder_endLine 1 = .ok (.bipush 13, 2) := by decide +kernel
theorem d_Coder_endLine_3 : decode b_Coder_endLine 3 = .ok (.invokevirtual 58, 3) := by decide +kernel
theorem d_Coder_endLine_6 : decode b_Coder_endLine 6 = .ok (.aload_n 1, 1) := by decide +kernel
theorem d_Coder_endLine_7 : decode b_Coder_endLine 7 = .ok (.bipush 10, 2) := by decide +kernel
theorem d_Coder_endLine_9 : decode b_Coder_endLine 9 = .ok (.invokevirtual 58, 3) := by decide +kernel
theorem d_Coder_endLine_12 : decode b_Coder_endLine 12 = .ok (.aload_n 0, 1) := by decide +kernel
theorem d_Coder_endLine_13 : decode b_Coder_endLine 13 = .ok (.iconst 0, 1) := by decide +kernel
theorem d_Coder_endLine_14 : decode b_Coder_endLine 14 = .ok (.putfield 18, 3) := by decide +kernel
theorem d_Coder_endLine_17 : decode b_Coder_endLine 17 = .ok (.return_, 1) := by decide +kernel
theorem d_Coder_isLineEnd_0 : decode b_Coder_isLineEnd 0 = .ok (.aload_n 0, 1) := by decide +kernel
theorem d_Coder_isLineEnd_1 : decode b_Coder_isLineEnd 1 = .ok (.iload_n 1, 1) := by decide +kernel
theorem d_Coder_isLineEnd_2 : decode b_Coder_isLineEnd 2 = .ok (.invokevirtual 38, 3) := by decide +kernel
theorem d_Coder_isLineEnd_5 : decode b_Coder_isLineEnd 5 = .ok (.bipush 13, 2) := by decide +kernel
theorem d_Coder_isLineEnd_7 : decode b_Coder_isLineEnd 7 = .ok (.if_icmp .ne 19, 3) := by decide +kernel
theorem d_Coder_isLineEnd_10 : decode b_Coder_isLineEnd 10 = .ok (.aload_n 0, 1) := by decide +kernel
theorem d_Coder_isLineEnd_11 : decode b_Coder_isLineEnd 11 = .ok (.iload_n 1, 1) := by decide +kernel
theorem d_Coder_isLineEnd_12 : decode b_Coder_isLineEnd 12 = .ok (.iconst 1, 1) := by decide +kernel
theorem d_Coder_isLineEnd_13 : decode b_Coder_isLineEnd 13 = .ok (.iadd, 1) := by decide +kernel
theorem d_Coder_isLineEnd_14 : decode b_Coder_isLineEnd 14 = .ok (.invokevirtual 38, 3) := by decide +kernel
theorem d_Coder_isLineEnd_17 : decode b_Coder_isLineEnd 17 = .ok (.bipush 10, 2) := by decide +kernel
theorem d_Coder_isLineEnd_19 : decode b_Coder_isLineEnd 19 = .ok (.if_icmp .ne 7, 3) := by decide +kernel
theorem d_Coder_isLineEnd_22 : decode b_Coder_isLineEnd 22 = .ok (.iconst 1, 1) := by decide +kernel
theorem d_Coder_isLineEnd_23 : decode b_Coder_isLineEnd 23 = .ok (.goto 4, 3) := by decide +kernel
theorem d_Coder_isLineEnd_26 : decode b_Coder_isLineEnd 26 = .ok (.iconst 0, 1) := by decide +kernel
theorem d_Coder_isLineEnd_27 : decode b_Coder_isLineEnd 27 = .ok (.ireturn, 1) := by decide +kernel
theorem d_Coder_isItself_0 : decode b_Coder_isItself 0 = .ok (.aload_n 0, 1) := by decide +kernel
theorem d_Coder_isItself_1 : decode b_Coder_isItself 1 = .ok (.iload_n 1, 1) := by decide +kernel
theorem d_Coder_isItself_2 : decode b_Coder_isItself 2 = .ok (.invokevirtual 38, 3) := by decide +kernel
theorem d_Coder_isItself_5 : decode b_Coder_isItself 5 = .ok (.istore_n 2, 1) := by decide +kernel
theorem d_Coder_isItself_6 : decode b_Coder_isItself 6 = .ok (.iload_n 2, 1) := by decide +kernel
theorem d_Coder_isItself_7 : decode b_Coder_isItself 7 = .ok (.bipush 32, 2) := by decide +kernel
theorem d_Coder_isItself_9 : decode b_Coder_isItself 9 = .ok (.if_icmp .eq 9, 3) := by decide +kernel
theorem d_Coder_isItself_12 : decode b_Coder_isItself 12 = .ok (.iload_n 2, 1) := by decide +kernel
theorem d_Coder_isItself_13 : decode b_Coder_isItself 13 = .ok (.bipush 9, 2) := by decide +kernel
theorem d_Coder_isItself_15 : decode b_Coder_isItself 15 = .ok (.if_icmp .ne 29, 3) := by decide +kernel
theorem d_Coder_isItself_18 : decode b_Coder_isItself 18 = .ok (.iload_n 1, 1) := by decide +kernel
theorem d_Coder_isItself_19 : decode b_Coder_isItself 19 = .ok (.iconst 1, 1) := by decide +kernel
theorem d_Coder_isItself_20 : decode b_Coder_isItself 20 = .ok (.iadd, 1) := by decide +kernel
theorem d_Coder_isItself_21 : decode b_Coder_isItself 21 = .ok (.aload_n 0, 1) := by decide +kernel
theorem d_Coder_isItself_22 : decode b_Coder_isItself 22 = .ok (.invokevirtual 32, 3) := by decide +kernel
theorem d_Coder_isItself_25 : decode b_Coder_isItself 25 = .ok (.if_icmp .ge 17, 3) := by decide +kernel
theorem d_Coder_isItself_28 : decode b_Coder_isItself 28 = .ok (.aload_n 0, 1) := by decide +kernel
theorem d_Coder_isItself_29 : decode b_Coder_isItself 29 = .ok (.iload_n 1, 1) := by decide +kernel
theorem d_Coder_isItself_30 : decode b_Coder_isItself 30 = .ok (.iconst 1, 1) := by decide +kernel
theorem d_Coder_isItself_31 : decode b_Coder_isItself 31 = .ok (.iadd, 1) := by decide +kernel
theorem d_Coder_isItself_32 : decode b_Coder_isItself 32 = .ok (.invokestatic 72, 3) := by decide +kernel
theorem d_Coder_isItself_35 : decode b_Coder_isItself 35 = .ok (.ifCond .ne 7, 3) := by decide +kernel
theorem d_Coder_isItself_38 : decode b_Coder_isItself 38 = .ok (.iconst 1, 1) := by decide +kernel
theorem d_Coder_isItself_39 : decode b_Coder_isItself 39 = .ok (.goto 4, 3) := by decide +kernel
theorem d_Coder_isItself_42 : decode b_Coder_isItself 42 = .ok (.iconst 0, 1) := by decide +kernel
theorem d_Coder_isItself_43 : decode b_Coder_isItself 43 = .ok (.ireturn, 1) := by decide +kernel
theorem d_Coder_isItself_44 : decode b_Coder_isItself 44 = .ok (.iload_n 2, 1) := by decide +kernel
theorem d_Coder_isItself_45 : decode b_Coder_isItself 45 = .ok (.bipush 32, 2) := by decide +kernel
theorem d_Coder_isItself_47 : decode b_Coder_isItself 47 = .ok (.if_icmp .le 19, 3) := by decide +kernel
theorem d_Coder_isItself_50 : decode b_Coder_isItself 50 = .ok (.iload_n 2, 1) := by decide +kernel
theorem d_Coder_isItself_51 : decode b_Coder_isItself 51 = .ok (.bipush 126, 2) := by decide +kernel
theorem d_Coder_isItself_53 : decode b_Coder_isItself 53 = .ok (.if_icmp .gt 13, 3) := by decide +kernel
theorem d_Coder_isItself_56 : decode b_Coder_isItself 56 = .ok (.iload_n 2, 1) := by decide +kernel
theorem d_Coder_isItself_57 : decode b_Coder_isItself 57 = .ok (.bipush 61, 2) := by decide +kernel
theorem d_Coder_isItself_59 : decode b_Coder_isItself 59 = .ok (.if_icmp .eq 7, 3) := by decide +kernel
theorem d_Coder_isItself_62 : decode b_Coder_isItself 62 = .ok (.iconst 1, 1) := by decide +kernel
theorem d_Coder_isItself_63 : decode b_Coder_isItself 63 = .ok (.goto 4, 3) := by decide +kernel
theorem d_Coder_isItself_66 : decode b_Coder_isItself 66 = .ok (.iconst 0, 1) := by decide +kernel
theorem d_Coder_isItself_67 : decode b_Coder_isItself 67 = .ok (.ireturn, 1) := by decide +kernel
theorem d_Letters_digitOf_0 : decode b_Letters_digitOf 0 = .ok (.ldc 11, 2) := by decide +kernel
theorem d_Letters_digitOf_2 : decode b_Letters_digitOf 2 = .ok (.iload_n 0, 1) := by decide +kernel
theorem d_Letters_digitOf_3 : decode b_Letters_digitOf 3 = .ok (.bipush 15, 2) := by decide +kernel
theorem d_Letters_digitOf_5 : decode b_Letters_digitOf 5 = .ok (.iand, 1) := by decide +kernel
theorem d_Letters_digitOf_6 : decode b_Letters_digitOf 6 = .ok (.invokevirtual 13, 3) := by decide +kernel
theorem d_Letters_digitOf_9 : decode b_Letters_digitOf 9 = .ok (.ireturn, 1) := by decide +kernel
theorem d_Names_goesOnAs_0 : decode b_Names_goesOnAs 0 = .ok (.iload_n 3, 1) := by decide +kernel
theorem d_Names_goesOnAs_1 : decode b_Names_goesOnAs 1 = .ok (.istore 5, 2) := by decide +kernel
theorem d_Names_goesOnAs_3 : decode b_Names_goesOnAs 3 = .ok (.iload 5, 2) := by decide +kernel
theorem d_Names_goesOnAs_5 : decode b_Names_goesOnAs 5 = .ok (.iload 4, 2) := by decide +kernel
theorem d_Names_goesOnAs_7 : decode b_Names_goesOnAs 7 = .ok (.if_icmp .ge 42, 3) := by decide +kernel
theorem d_Names_goesOnAs_10 : decode b_Names_goesOnAs 10 = .ok (.iload 5, 2) := by decide +kernel
theorem d_Names_goesOnAs_12 : decode b_Names_goesOnAs 12 = .ok (.aload_n 2, 1) := by decide +kernel
theorem d_Names_goesOnAs_13 : decode b_Names_goesOnAs 13 = .ok (.invokevirtual 41, 3) := by decide +kernel
theorem d_Names_goesOnAs_16 : decode b_Names_goesOnAs 16 = .ok (.if_icmp .ge 33, 3) := by decide +kernel
theorem d_Names_goesOnAs_19 : decode b_Names_goesOnAs 19 = .ok (.aload_n 0, 1) := by decide +kernel
theorem d_Names_goesOnAs_20 : decode b_Names_goesOnAs 20 = .ok (.iload_n 1, 1) := by decide +kernel
theorem d_Names_goesOnAs_21 : decode b_Names_goesOnAs 21 = .ok (.iload 5, 2) := by decide +kernel
theorem d_Names_goesOnAs_23 : decode b_Names_goesOnAs 23 = .ok (.iadd, 1) := by decide +kernel
theorem d_Names_goesOnAs_24 : decode b_Names_goesOnAs 24 = .ok (.iload_n 3, 1) := by decide +kernel
theorem d_Names_goesOnAs_25 : decode b_Names_goesOnAs 25 = .ok (.isub, 1) := by decide +kernel
theorem d_Names_goesOnAs_26 : decode b_Names_goesOnAs 26 = .ok (.invokevirtual 55, 3) := by decide +kernel
theorem d_Names_goesOnAs_29 : decode b_Names_goesOnAs 29 = .ok (.invokestatic 61, 3) := by decide +kernel
theorem d_Names_goesOnAs_32 : decode b_Names_goesOnAs 32 = .ok (.aload_n 2, 1) := by decide +kernel
theorem d_Names_goesOnAs_33 : decode b_Names_goesOnAs 33 = .ok (.iload 5, 2) := by decide +kernel
theorem d_Names_goesOnAs_35 : decode b_Names_goesOnAs 35 = .ok (.invokevirtual 47, 3) := by decide +kernel
theorem d_Names_goesOnAs_38 : decode b_Names_goesOnAs 38 = .ok (.if_icmp .eq 5, 3) := by decide +kernel
theorem d_Names_goesOnAs_41 : decode b_Names_goesOnAs 41 = .ok (.iconst 0, 1) := by decide +kernel
theorem d_Names_goesOnAs_42 : decode b_Names_goesOnAs 42 = .ok (.ireturn, 1) := by decide +kernel
theorem d_Names_goesOnAs_43 : decode b_Names_goesOnAs 43 = .ok (.iinc 5 1, 3) := by decide +kernel
theorem d_Names_goesOnAs_46 : decode b_Names_goesOnAs 46 = .ok (.goto (-43), 3) := by decide +kernel
theorem d_Names_goesOnAs_49 : decode b_Names_goesOnAs 49 = .ok (.iconst 1, 1) := by decide +kernel
theorem d_Names_goesOnAs_50 : decode b_Names_goesOnAs 50 = .ok (.ireturn, 1) := by decide +kernel
theorem d_Reader_readUtf8_0 : decode b_Reader_readUtf8 0 = .ok (.iconst 0, 1) := by decide +kernel
theorem d_Reader_readUtf8_1 : decode b_Reader_readUtf8 1 = .ok (.istore 4, 2) := by decide +kernel
theorem d_Reader_readUtf8_3 : decode b_Reader_readUtf8 3 = .ok (.iconst 0, 1) := by decide +kernel
theorem d_Reader_readUtf8_4 : decode b_Reader_readUtf8 4 = .ok (.istore 5, 2) := by decide +kernel
theorem d_Reader_readUtf8_6 : decode b_Reader_readUtf8 6 = .ok (.iconst 0, 1) := by decide +kernel
theorem d_Reader_readUtf8_7 : decode b_Reader_readUtf8 7 = .ok (.istore 6, 2) := by decide +kernel
theorem d_Reader_readUtf8_9 : decode b_Reader_readUtf8 9 = .ok (.iconst 0, 1) := by decide +kernel
theorem d_Reader_readUtf8_10 : decode b_Reader_readUtf8 10 = .ok (.istore 7, 2) := by decide +kernel
theorem d_Reader_readUtf8_12 : decode b_Reader_readUtf8 12 = .ok (.iload_n 1, 1) := by decide +kernel
theorem d_Reader_readUtf8_13 : decode b_Reader_readUtf8 13 = .ok (.istore 8, 2) := by decide +kernel
theorem d_Reader_readUtf8_15 : decode b_Reader_readUtf8 15 = .ok (.iload 8, 2) := by decide +kernel
theorem d_Reader_readUtf8_17 : decode b_Reader_readUtf8 17 = .ok (.iload_n 2, 1) := by decide +kernel
theorem d_Reader_readUtf8_18 : decode b_Reader_readUtf8 18 = .ok (.if_icmp .ge 142, 3) := by decide +kernel
theorem d_Reader_readUtf8_21 : decode b_Reader_readUtf8 21 = .ok (.aload_n 0, 1) := by decide +kernel
theorem d_Reader_readUtf8_22 : decode b_Reader_readUtf8 22 = .ok (.iload 8, 2) := by decide +kernel
theorem d_Reader_readUtf8_24 : decode b_Reader_readUtf8 24 = .ok (.invokevirtual 36, 3) := by decide +kernel
theorem d_Reader_readUtf8_27 : decode b_Reader_readUtf8 27 = .ok (.istore 9, 2) := by decide +kernel
theorem d_Reader_readUtf8_29 : decode b_Reader_readUtf8 29 = .ok (.iload 4, 2) := by decide +kernel
theorem d_Reader_readUtf8_31 : decode b_Reader_readUtf8 31 = .ok (.ifCond .le 57, 3) := by decide +kernel
theorem d_Reader_readUtf8_34 : decode b_Reader_readUtf8 34 = .ok (.iload 9, 2) := by decide +kernel
theorem d_Reader_readUtf8_36 : decode b_Reader_readUtf8 36 = .ok (.iload 6, 2) := by decide +kernel
theorem d_Reader_readUtf8_38 : decode b_Reader_readUtf8 38 = .ok (.if_icmp .lt 50, 3) := by decide +kernel
theorem d_Reader_readUtf8_41 : decode b_Reader_readUtf8 41 = .ok (.iload 9, 2) := by decide +kernel
theorem d_Reader_readUtf8_43 : decode b_Reader_readUtf8 43 = .ok (.iload 7, 2) := by decide +kernel
theorem d_Reader_readUtf8_45 : decode b_Reader_readUtf8 45 = .ok (.if_icmp .gt 43, 3) := by decide +kernel
theorem d_Reader_readUtf8_48 : decode b_Reader_readUtf8 48 = .ok (.iload 5, 2) := by decide +kernel
theorem d_Reader_readUtf8_50 : decode b_Reader_readUtf8 50 = .ok (.bipush 6, 2) := by decide +kernel
theorem d_Reader_readUtf8_52 : decode b_Reader_readUtf8 52 = .ok (.ishl, 1) := by decide +kernel
theorem d_Reader_readUtf8_53 : decode b_Reader_readUtf8 53 = .ok (.iload 9, 2) := by decide +kernel
theorem d_Reader_readUtf8_55 : decode b_Reader_readUtf8 55 = .ok (.bipush 63, 2) := by decide +kernel
theorem d_Reader_readUtf8_57 : decode b_Reader_readUtf8 57 = .ok (.iand, 1) := by decide +kernel
theorem d_Reader_readUtf8_58 : decode b_Reader_readUtf8 58 = .ok (.ior, 1) := by decide +kernel
theorem d_Reader_readUtf8_59 : decode b_Reader_readUtf8 59 = .ok (.istore 5, 2) := by decide +kernel
theorem d_Reader_readUtf8_61 : decode b_Reader_readUtf8 61 = .ok (.sipush 128, 3) := by decide +kernel
theorem d_Reader_readUtf8_64 : decode b_Reader_readUtf8 64 = .ok (.istore 6, 2) := by decide +kernel
theorem d_Reader_readUtf8_66 : decode b_Reader_readUtf8 66 = .ok (.sipush 191, 3) := by decide +kernel
theorem d_Reader_readUtf8_69 : decode b_Reader_readUtf8 69 = .ok (.istore 7, 2) := by decide +kernel
theorem d_Reader_readUtf8_71 : decode b_Reader_readUtf8 71 = .ok (.iinc 4 (-1), 3) := by decide +kernel
theorem d_Reader_readUtf8_74 : decode b_Reader_readUtf8 74 = .ok (.iload 4, 2) := by decide +kernel
theorem d_Reader_readUtf8_76 : decode b_Reader_readUtf8 76 = .ok (.ifCond .ne 78, 3) := by decide +kernel
theorem d_Reader_readUtf8_79 : decode b_Reader_readUtf8 79 = .ok (.aload_n 3, 1) := by decide +kernel
theorem d_Reader_readUtf8_80 : decode b_Reader_readUtf8 80 = .ok (.iload 5, 2) := by decide +kernel
theorem d_Reader_readUtf8_82 : decode b_Reader_readUtf8 82 = .ok (.invokevirtual 48, 3) := by decide +kernel
theorem d_Reader_readUtf8_85 : decode b_Reader_readUtf8 85 = .ok (.goto 69, 3) := by decide +kernel
theorem d_Reader_readUtf8_88 : decode b_Reader_readUtf8 88 = .ok (.iload 4, 2) := by decide +kernel
theorem d_Reader_readUtf8_90 : decode b_Reader_readUtf8 90 = .ok (.ifCond .le 9, 3) := by decide +kernel
theorem d_Reader_readUtf8_93 : decode b_Reader_readUtf8 93 = .ok (.aload_n 3, 1) := by decide +kernel
theorem d_Reader_readUtf8_94 : decode b_Reader_readUtf8 94 = .ok (.ldc 52, 2) := by decide +kernel
theorem d_Reader_readUtf8_96 : decode b_Reader_readUtf8 96 = .ok (.invokevirtual 48, 3) := by decide +kernel
theorem d_Reader_readUtf8_99 : decode b_Reader_readUtf8 99 = .ok (.iload 9, 2) := by decide +kernel
theorem d_Reader_readUtf8_101 : decode b_Reader_readUtf8 101 = .ok (.invokestatic 53, 3) := by decide +kernel
theorem d_Reader_readUtf8_104 : decode b_Reader_readUtf8 104 = .ok (.istore 4, 2) := by decide +kernel
theorem d_Reader_readUtf8_106 : decode b_Reader_readUtf8 106 = .ok (.iload 9, 2) := by decide +kernel
theorem d_Reader_readUtf8_108 : decode b_Reader_readUtf8 108 = .ok (.bipush 63, 2) := by decide +kernel
theorem d_Reader_readUtf8_110 : decode b_Reader_readUtf8 110 = .ok (.iload 4, 2) := by decide +kernel
theorem d_Reader_readUtf8_112 : decode b_Reader_readUtf8 112 = .ok (.ishr, 1) := by decide +kernel
theorem d_Reader_readUtf8_113 : decode b_Reader_readUtf8 113 = .ok (.iand, 1) := by decide +kernel
theorem d_Reader_readUtf8_114 : decode b_Reader_readUtf8 114 = .ok (.istore 5, 2) := by decide +kernel
theorem d_Reader_readUtf8_116 : decode b_Reader_readUtf8 116 = .ok (.iload 9, 2) := by decide +kernel
theorem d_Reader_readUtf8_118 : decode b_Reader_readUtf8 118 = .ok (.invokestatic 56, 3) := by decide +kernel
theorem d_Reader_readUtf8_121 : decode b_Reader_readUtf8 121 = .ok (.istore 6, 2) := by decide +kernel
theorem d_Reader_readUtf8_123 : decode b_Reader_readUtf8 123 = .ok (.iload 9, 2) := by decide +kernel
theorem d_Reader_readUtf8_125 : decode b_Reader_readUtf8 125 = .ok (.invokestatic 59, 3) := by decide +kernel
theorem d_Reader_readUtf8_128 : decode b_Reader_readUtf8 128 = .ok (.istore 7, 2) := by decide +kernel
theorem d_Reader_readUtf8_130 : decode b_Reader_readUtf8 130 = .ok (.iload 4, 2) := by decide +kernel
theorem d_Reader_readUtf8_132 : decode b_Reader_readUtf8 132 = .ok (.ifCond .ne 22, 3) := by decide +kernel
theorem d_Reader_readUtf8_135 : decode b_Reader_readUtf8 135 = .ok (.aload_n 3, 1) := by decide +kernel
theorem d_Reader_readUtf8_136 : decode b_Reader_readUtf8 136 = .ok (.iload 9, 2) := by decide +kernel
theorem d_Reader_readUtf8_138 : decode b_Reader_readUtf8 138 = .ok (.sipush 128, 3) := by decide +kernel
theorem d_Reader_readUtf8_141 : decode b_Reader_readUtf8 141 = .ok (.if_icmp .ge 8, 3) := by decide +kernel
theorem d_Reader_readUtf8_144 : decode b_Reader_readUtf8 144 = .ok (.iload 9, 2) := by decide +kernel
theorem d_Reader_readUtf8_146 : decode b_Reader_readUtf8 146 = .ok (.goto 5, 3) := by decide +kernel
theorem d_Reader_readUtf8_149 : decode b_Reader_readUtf8 149 = .ok (.ldc 52, 2) := by decide +kernel
theorem d_Reader_readUtf8_151 : decode b_Reader_readUtf8 151 = .ok (.invokevirtual 48, 3) := by decide +kernel
theorem d_Reader_readUtf8_154 : decode b_Reader_readUtf8 154 = .ok (.iinc 8 1, 3) := by decide +kernel
theorem d_Reader_readUtf8_157 : decode b_Reader_readUtf8 157 = .ok (.goto (-142), 3) := by decide +kernel
theorem d_Reader_readUtf8_160 : decode b_Reader_readUtf8 160 = .ok (.iload 4, 2) := by decide +kernel
theorem d_Reader_readUtf8_162 : decode b_Reader_readUtf8 162 = .ok (.ifCond .le 9, 3) := by decide +kernel
theorem d_Reader_readUtf8_165 : decode b_Reader_readUtf8 165 = .ok (.aload_n 3, 1) := by decide +kernel
theorem d_Reader_readUtf8_166 : decode b_Reader_readUtf8 166 = .ok (.ldc 52, 2) := by decide +kernel
theorem d_Reader_readUtf8_168 : decode b_Reader_readUtf8 168 = .ok (.invokevirtual 48, 3) := by decide +kernel
theorem d_Reader_readUtf8_171 : decode b_Reader_readUtf8 171 = .ok (.return_, 1) := by decide +kernel
theorem d_Reader_takeUnit_0 : decode b_Reader_takeUnit 0 = .ok (.iload_n 1, 1) := by decide +kernel
theorem d_Reader_takeUnit_1 : decode b_Reader_takeUnit 1 = .ok (.ldc 92, 2) := by decide +kernel
theorem d_Reader_takeUnit_3 : decode b_Reader_takeUnit 3 = .ok (.if_icmp .lt 13, 3) := by decide +kernel
theorem d_Reader_takeUnit_6 : decode b_Reader_takeUnit 6 = .ok (.iload_n 1, 1) := by decide +kernel
theorem d_Reader_takeUnit_7 : decode b_Reader_takeUnit 7 = .ok (.ldc 93, 2) := by decide +kernel
theorem d_Reader_takeUnit_9 : decode b_Reader_takeUnit 9 = .ok (.if_icmp .gt 7, 3) := by decide +kernel
theorem d_Reader_takeUnit_12 : decode b_Reader_takeUnit 12 = .ok (.iconst 1, 1) := by decide +kernel
theorem d_Reader_takeUnit_13 : decode b_Reader_takeUnit 13 = .ok (.goto 4, 3) := by decide +kernel
theorem d_Reader_takeUnit_16 : decode b_Reader_takeUnit 16 = .ok (.iconst 0, 1) := by decide +kernel
theorem d_Reader_takeUnit_17 : decode b_Reader_takeUnit 17 = .ok (.istore_n 3, 1) := by decide +kernel
theorem d_Reader_takeUnit_18 : decode b_Reader_takeUnit 18 = .ok (.aload_n 0, 1) := by decide +kernel
theorem d_Reader_takeUnit_19 : decode b_Reader_takeUnit 19 = .ok (.getfield 94, 3) := by decide +kernel
theorem d_Reader_takeUnit_22 : decode b_Reader_takeUnit 22 = .ok (.ifCond .eq 36, 3) := by decide +kernel
theorem d_Reader_takeUnit_25 : decode b_Reader_takeUnit 25 = .ok (.iload_n 3, 1) := by decide +kernel
theorem d_Reader_takeUnit_26 : decode b_Reader_takeUnit 26 = .ok (.ifCond .eq 32, 3) := by decide +kernel
theorem d_Reader_takeUnit_29 : decode b_Reader_takeUnit 29 = .ok (.aload_n 2, 1) := by decide +kernel
theorem d_Reader_takeUnit_30 : decode b_Reader_takeUnit 30 = .ok (.ldc 98, 2) := by decide +kernel
theorem d_Reader_takeUnit_32 : decode b_Reader_takeUnit 32 = .ok (.aload_n 0, 1) := by decide +kernel
theorem d_Reader_takeUnit_33 : decode b_Reader_takeUnit 33 = .ok (.getfield 94, 3) := by decide +kernel
theorem d_Reader_takeUnit_36 : decode b_Reader_takeUnit 36 = .ok (.ldc 99, 2) := by decide +kernel
theorem d_Reader_takeUnit_38 : decode b_Reader_takeUnit 38 = .ok (.isub, 1) := by decide +kernel
theorem d_Reader_takeUnit_39 : decode b_Reader_takeUnit 39 = .ok (.sipush 1024, 3) := by decide +kernel
theorem d_Reader_takeUnit_42 : decode b_Reader_takeUnit 42 = .ok (.imul, 1) := by decide +kernel
theorem d_Reader_takeUnit_43 : decode b_Reader_takeUnit 43 = .ok (.iadd, 1) := by decide +kernel
theorem d_Reader_takeUnit_44 : decode b_Reader_takeUnit 44 = .ok (.iload_n 1, 1) := by decide +kernel
theorem d_Reader_takeUnit_45 : decode b_Reader_takeUnit 45 = .ok (.iadd, 1) := by decide +kernel
theorem d_Reader_takeUnit_46 : decode b_Reader_takeUnit 46 = .ok (.ldc 92, 2) := by decide +kernel
theorem d_Reader_takeUnit_48 : decode b_Reader_takeUnit 48 = .ok (.isub, 1) := by decide +kernel
theorem d_Reader_takeUnit_49 : decode b_Reader_takeUnit 49 = .ok (.invokevirtual 48, 3) := by decide +kernel
theorem d_Reader_takeUnit_52 : decode b_Reader_takeUnit 52 = .ok (.aload_n 0, 1) := by decide +kernel
theorem d_Reader_takeUnit_53 : decode b_Reader_takeUnit 53 = .ok (.iconst 0, 1) := by decide +kernel
theorem d_Reader_takeUnit_54 : decode b_Reader_takeUnit 54 = .ok (.putfield 94, 3) := by decide +kernel
theorem d_Reader_takeUnit_57 : decode b_Reader_takeUnit 57 = .ok (.return_, 1) := by decide +kernel
theorem d_Reader_takeUnit_58 : decode b_Reader_takeUnit 58 = .ok (.aload_n 0, 1) := by decide +kernel
theorem d_Reader_takeUnit_59 : decode b_Reader_takeUnit 59 = .ok (.aload_n 2, 1) := by decide +kernel
theorem d_Reader_takeUnit_60 : decode b_Reader_takeUnit 60 = .ok (.invokevirtual 66, 3) := by decide +kernel
theorem d_Reader_takeUnit_63 : decode b_Reader_takeUnit 63 = .ok (.iload_n 1, 1) := by decide +kernel
theorem d_Reader_takeUnit_64 : decode b_Reader_takeUnit 64 = .ok (.ldc 99, 2) := by decide +kernel
theorem d_Reader_takeUnit_66 : decode b_Reader_takeUnit 66 = .ok (.if_icmp .lt 17, 3) := by decide +kernel
theorem d_Reader_takeUnit_69 : decode b_Reader_takeUnit 69 = .ok (.iload_n 1, 1) := by decide +kernel
theorem d_Reader_takeUnit_70 : decode b_Reader_takeUnit 70 = .ok (.ldc 100, 2) := by decide +kernel
theorem d_Reader_takeUnit_72 : decode b_Reader_takeUnit 72 = .ok (.if_icmp .gt 11, 3) := by decide +kernel
theorem d_Reader_takeUnit_75 : decode b_Reader_takeUnit 75 = .ok (.aload_n 0, 1) := by decide +kernel
theorem d_Reader_takeUnit_76 : decode b_Reader_takeUnit 76 = .ok (.iload_n 1, 1) := by decide +kernel
theorem d_Reader_takeUnit_77 : decode b_Reader_takeUnit 77 = .ok (.putfield 94, 3) := by decide +kernel
theorem d_Reader_takeUnit_80 : decode b_Reader_takeUnit 80 = .ok (.goto 17, 3) := by decide +kernel
theorem d_Reader_takeUnit_83 : decode b_Reader_takeUnit 83 = .ok (.aload_n 2, 1) := by decide +kernel
theorem d_Reader_takeUnit_84 : decode b_Reader_takeUnit 84 = .ok (.iload_n 3, 1) := by decide +kernel
theorem d_Reader_takeUnit_85 : decode b_Reader_takeUnit 85 = .ok (.ifCond .eq 8, 3) := by decide +kernel
theorem d_Reader_takeUnit_88 : decode b_Reader_takeUnit 88 = .ok (.ldc 52, 2) := by decide +kernel
theorem d_Reader_takeUnit_90 : decode b_Reader_takeUnit 90 = .ok (.goto 4, 3) := by decide +kernel
theorem d_Reader_takeUnit_93 : decode b_Reader_takeUnit 93 = .ok (.iload_n 1, 1) := by decide +kernel
theorem d_Reader_takeUnit_94 : decode b_Reader_takeUnit 94 = .ok (.invokevirtual 48, 3) := by decide +kernel
theorem d_Reader_takeUnit_97 : decode b_Reader_takeUnit 97 = .ok (.return_, 1) := by decide +kernel
theorem d_Reader_takeSixBits_0 : decode b_Reader_takeSixBits 0 = .ok (.aload_n 0, 1) := by decide +kernel
theorem d_Reader_takeSixBits_1 : decode b_Reader_takeSixBits 1 = .ok (.getfield 12, 3) := by decide +kernel
theorem d_Reader_takeSixBits_4 : decode b_Reader_takeSixBits 4 = .ok (.iload_n 1, 1) := by decide +kernel
theorem d_Reader_takeSixBits_5 : decode b_Reader_takeSixBits 5 = .ok (.bipush 6, 2) := by decide +kernel
theorem d_Reader_takeSixBits_7 : decode b_Reader_takeSixBits 7 = .ok (.invokevirtual 81, 3) := by decide +kernel
theorem d_Reader_takeSixBits_10 : decode b_Reader_takeSixBits 10 = .ok (.aload_n 0, 1) := by decide +kernel
theorem d_Reader_takeSixBits_11 : decode b_Reader_takeSixBits 11 = .ok (.getfield 12, 3) := by decide +kernel
theorem d_Reader_takeSixBits_14 : decode b_Reader_takeSixBits 14 = .ok (.bipush 16, 2) := by decide +kernel
theorem d_Reader_takeSixBits_16 : decode b_Reader_takeSixBits 16 = .ok (.invokevirtual 85, 3) := by decide +kernel
theorem d_Reader_takeSixBits_19 : decode b_Reader_takeSixBits 19 = .ok (.ifCond .eq 17, 3) := by decide +kernel
theorem d_Reader_takeSixBits_22 : decode b_Reader_takeSixBits 22 = .ok (.aload_n 0, 1) := by decide +kernel
theorem d_Reader_takeSixBits_23 : decode b_Reader_takeSixBits 23 = .ok (.aload_n 0, 1) := by decide +kernel
theorem d_Reader_takeSixBits_24 : decode b_Reader_takeSixBits 24 = .ok (.getfield 12, 3) := by decide +kernel
theorem d_Reader_takeSixBits_27 : decode b_Reader_takeSixBits 27 = .ok (.bipush 16, 2) := by decide +kernel
theorem d_Reader_takeSixBits_29 : decode b_Reader_takeSixBits 29 = .ok (.invokevirtual 89, 3) := by decide +kernel
theorem d_Reader_takeSixBits_32 : decode b_Reader_takeSixBits 32 = .ok (.aload_n 2, 1) := by decide +kernel
theorem d_Reader_takeSixBits_33 : decode b_Reader_takeSixBits 33 = .ok (.invokevirtual 62, 3) := by decide +kernel
theorem d_Reader_takeSixBits_36 : decode b_Reader_takeSixBits 36 = .ok (.return_, 1) := by decide +kernel
theorem d_SingleBytes_characterOf_0 : decode b_SingleBytes_characterOf 0 = .ok (.iload_n 1, 1) := by decide +kernel
theorem d_SingleBytes_characterOf_1 : decode b_SingleBytes_characterOf 1 = .ok (.sipush 128, 3) := by decide +kernel
theorem d_SingleBytes_characterOf_4 : decode b_SingleBytes_characterOf 4 = .ok (.if_icmp .ge 5, 3) := by decide +kernel
theorem d_SingleBytes_characterOf_7 : decode b_SingleBytes_characterOf 7 = .ok (.iload_n 1, 1) := by decide +kernel
theorem d_SingleBytes_characterOf_8 : decode b_SingleBytes_characterOf 8 = .ok (.ireturn, 1) := by decide +kernel
theorem d_SingleBytes_characterOf_9 : decode b_SingleBytes_characterOf 9 = .ok (.iload_n 0, 1) := by decide +kernel
theorem d_SingleBytes_characterOf_10 : decode b_SingleBytes_characterOf 10 = .ok (.tableswitch 81 1 8 #[46, 48, 53, 81, 81, 81, 81, 76], 46) := by decide +kernel
theorem d_SingleBytes_characterOf_56 : decode b_SingleBytes_characterOf 56 = .ok (.iload_n 1, 1) := by decide +kernel
theorem d_SingleBytes_characterOf_57 : decode b_SingleBytes_characterOf 57 = .ok (.ireturn, 1) := by decide +kernel
theorem d_SingleBytes_characterOf_58 : decode b_SingleBytes_characterOf 58 = .ok (.iload_n 1, 1) := by decide +kernel
theorem d_SingleBytes_characterOf_59 : decode b_SingleBytes_characterOf 59 = .ok (.invokestatic 9, 3) := by decide +kernel
theorem d_SingleBytes_characterOf_62 : decode b_SingleBytes_characterOf 62 = .ok (.ireturn, 1) := by decide +kernel
theorem d_SingleBytes_characterOf_63 : decode b_SingleBytes_characterOf 63 = .ok (.iload_n 1, 1) := by decide +kernel
theorem d_SingleBytes_characterOf_64 : decode b_SingleBytes_characterOf 64 = .ok (.sipush 160, 3) := by decide +kernel
theorem d_SingleBytes_characterOf_67 : decode b_SingleBytes_characterOf 67 = .ok (.if_icmp .ge 17, 3) := by decide +kernel
theorem d_SingleBytes_characterOf_70 : decode b_SingleBytes_characterOf 70 = .ok (.getstatic 15, 3) := by decide +kernel
theorem d_SingleBytes_characterOf_73 : decode b_SingleBytes_characterOf 73 = .ok (.iload_n 1, 1) := by decide +kernel
theorem d_SingleBytes_characterOf_74 : decode b_SingleBytes_characterOf 74 = .ok (.sipush 128, 3) := by decide +kernel
theorem d_SingleBytes_characterOf_77 : decode b_SingleBytes_characterOf 77 = .ok (.isub, 1) := by decide +kernel
theorem d_SingleBytes_characterOf_78 : decode b_SingleBytes_characterOf 78 = .ok (.invokestatic 19, 3) := by decide +kernel
theorem d_SingleBytes_characterOf_81 : decode b_SingleBytes_characterOf 81 = .ok (.goto 4, 3) := by decide +kernel
theorem d_SingleBytes_characterOf_84 : decode b_SingleBytes_characterOf 84 = .ok (.iload_n 1, 1) := by decide +kernel
theorem d_SingleBytes_characterOf_85 : decode b_SingleBytes_characterOf 85 = .ok (.ireturn, 1) := by decide +kernel
theorem d_SingleBytes_characterOf_86 : decode b_SingleBytes_characterOf 86 = .ok (.iload_n 1, 1) := by decide +kernel
theorem d_SingleBytes_characterOf_87 : decode b_SingleBytes_characterOf 87 = .ok (.invokestatic 23, 3) := by decide +kernel
theorem d_SingleBytes_characterOf_90 : decode b_SingleBytes_characterOf 90 = .ok (.ireturn, 1) := by decide +kernel
theorem d_SingleBytes_characterOf_91 : decode b_SingleBytes_characterOf 91 = .ok (.ldc 26, 2) := by decide +kernel
theorem d_SingleBytes_characterOf_93 : decode b_SingleBytes_characterOf 93 = .ok (.ireturn, 1) := by decide +kernel
theorem d_Uncoder_unquote_0 : decode b_Uncoder_unquote 0 = .ok (.iload_n 1, 1) := by decide +kernel
theorem d_Uncoder_unquote_1 : decode b_Uncoder_unquote 1 = .ok (.istore 5, 2) := by decide +kernel
theorem d_Uncoder_unquote_3 : decode b_Uncoder_unquote 3 = .ok (.iload 5, 2) := by decide +kernel
theorem d_Uncoder_unquote_5 : decode b_Uncoder_unquote 5 = .ok (.iload_n 2, 1) := by decide +kernel
theorem d_Uncoder_unquote_6 : decode b_Uncoder_unquote 6 = .ok (.if_icmp .ge 120, 3) := by decide +kernel
theorem d_Uncoder_unquote_9 : decode b_Uncoder_unquote 9 = .ok (.aload_n 0, 1) := by decide +kernel
theorem d_Uncoder_unquote_10 : decode b_Uncoder_unquote 10 = .ok (.iload 5, 2) := by decide +kernel
theorem d_Uncoder_unquote_12 : decode b_Uncoder_unquote 12 = .ok (.invokevirtual 62, 3) := by decide +kernel
theorem d_Uncoder_unquote_15 : decode b_Uncoder_unquote 15 = .ok (.istore 6, 2) := by decide +kernel
theorem d_Uncoder_unquote_17 : decode b_Uncoder_unquote 17 = .ok (.iload 6, 2) := by decide +kernel
theorem d_Uncoder_unquote_19 : decode b_Uncoder_unquote 19 = .ok (.bipush 61, 2) := by decide +kernel
theorem d_Uncoder_unquote_21 : decode b_Uncoder_unquote 21 = .ok (.if_icmp .ne 25, 3) := by decide +kernel
theorem d_Uncoder_unquote_24 : decode b_Uncoder_unquote 24 = .ok (.iload 5, 2) := by decide +kernel
theorem d_Uncoder_unquote_26 : decode b_Uncoder_unquote 26 = .ok (.iconst 2, 1) := by decide +kernel
theorem d_Uncoder_unquote_27 : decode b_Uncoder_unquote 27 = .ok (.iadd, 1) := by decide +kernel
theorem d_Uncoder_unquote_28 : decode b_Uncoder_unquote 28 = .ok (.iload_n 2, 1) := by decide +kernel
theorem d_Uncoder_unquote_29 : decode b_Uncoder_unquote 29 = .ok (.if_icmp .ge 17, 3) := by decide +kernel
theorem d_Uncoder_unquote_32 : decode b_Uncoder_unquote 32 = .ok (.aload_n 0, 1) := by decide +kernel
theorem d_Uncoder_unquote_33 : decode b_Uncoder_unquote 33 = .ok (.iload 5, 2) := by decide +kernel
theorem d_Uncoder_unquote_35 : decode b_Uncoder_unquote 35 = .ok (.iconst 1, 1) := by decide +kernel
theorem d_Uncoder_unquote_36 : decode b_Uncoder_unquote 36 = .ok (.iadd, 1) := by decide +kernel
theorem d_Uncoder_unquote_37 : decode b_Uncoder_unquote 37 = .ok (.invokevirtual 62, 3) := by decide +kernel
theorem d_Uncoder_unquote_40 : decode b_Uncoder_unquote 40 = .ok (.invokestatic 102, 3) := by decide +kernel
theorem d_Uncoder_unquote_43 : decode b_Uncoder_unquote 43 = .ok (.goto 4, 3) := by decide +kernel
theorem d_Uncoder_unquote_46 : decode b_Uncoder_unquote 46 = .ok (.iconst (-1), 1) := by decide +kernel
theorem d_Uncoder_unquote_47 : decode b_Uncoder_unquote 47 = .ok (.istore 7, 2) := by decide +kernel
theorem d_Uncoder_unquote_49 : decode b_Uncoder_unquote 49 = .ok (.iload 7, 2) := by decide +kernel
theorem d_Uncoder_unquote_51 : decode b_Uncoder_unquote 51 = .ok (.iconst (-1), 1) := by decide +kernel
theorem d_Uncoder_unquote_52 : decode b_Uncoder_unquote 52 = .ok (.if_icmp .eq 17, 3) := by decide +kernel
theorem d_Uncoder_unquote_55 : decode b_Uncoder_unquote 55 = .ok (.aload_n 0, 1) := by decide +kernel
theorem d_Uncoder_unquote_56 : decode b_Uncoder_unquote 56 = .ok (.iload 5, 2) := by decide +kernel
theorem d_Uncoder_unquote_58 : decode b_Uncoder_unquote 58 = .ok (.iconst 2, 1) := by decide +kernel
theorem d_Uncoder_unquote_59 : decode b_Uncoder_unquote 59 = .ok (.iadd, 1) := by decide +kernel
theorem d_Uncoder_unquote_60 : decode b_Uncoder_unquote 60 = .ok (.invokevirtual 62, 3) := by decide +kernel
theorem d_Uncoder_unquote_63 : decode b_Uncoder_unquote 63 = .ok (.invokestatic 102, 3) := by decide +kernel
theorem d_Uncoder_unquote_66 : decode b_Uncoder_unquote 66 = .ok (.goto 4, 3) := by decide +kernel
theorem d_Uncoder_unquote_69 : decode b_Uncoder_unquote 69 = .ok (.iconst (-1), 1) := by decide +kernel
theorem d_Uncoder_unquote_70 : decode b_Uncoder_unquote 70 = .ok (.istore 8, 2) := by decide +kernel
theorem d_Uncoder_unquote_72 : decode b_Uncoder_unquote 72 = .ok (.iload 8, 2) := by decide +kernel
theorem d_Uncoder_unquote_74 : decode b_Uncoder_unquote 74 = .ok (.iconst (-1), 1) := by decide +kernel
theorem d_Uncoder_unquote_75 : decode b_Uncoder_unquote 75 = .ok (.if_icmp .eq 22, 3) := by decide +kernel
theorem d_Uncoder_unquote_78 : decode b_Uncoder_unquote 78 = .ok (.aload 4, 2) := by decide +kernel
theorem d_Uncoder_unquote_80 : decode b_Uncoder_unquote 80 = .ok (.iload 7, 2) := by decide +kernel
theorem d_Uncoder_unquote_82 : decode b_Uncoder_unquote 82 = .ok (.bipush 16, 2) := by decide +kernel
theorem d_Uncoder_unquote_84 : decode b_Uncoder_unquote 84 = .ok (.imul, 1) := by decide +kernel
theorem d_Uncoder_unquote_85 : decode b_Uncoder_unquote 85 = .ok (.iload 8, 2) := by decide +kernel
theorem d_Uncoder_unquote_87 : decode b_Uncoder_unquote 87 = .ok (.iadd, 1) := by decide +kernel
theorem d_Uncoder_unquote_88 : decode b_Uncoder_unquote 88 = .ok (.invokevirtual 82, 3) := by decide +kernel
theorem d_Uncoder_unquote_91 : decode b_Uncoder_unquote 91 = .ok (.iinc 5 2, 3) := by decide +kernel
theorem d_Uncoder_unquote_94 : decode b_Uncoder_unquote 94 = .ok (.goto 26, 3) := by decide +kernel
theorem d_Uncoder_unquote_97 : decode b_Uncoder_unquote 97 = .ok (.aload 4, 2) := by decide +kernel
theorem d_Uncoder_unquote_99 : decode b_Uncoder_unquote 99 = .ok (.iload_n 3, 1) := by decide +kernel
theorem d_Uncoder_unquote_100 : decode b_Uncoder_unquote 100 = .ok (.ifCond .eq 15, 3) := by decide +kernel
theorem d_Uncoder_unquote_103 : decode b_Uncoder_unquote 103 = .ok (.iload 6, 2) := by decide +kernel
theorem d_Uncoder_unquote_105 : decode b_Uncoder_unquote 105 = .ok (.bipush 95, 2) := by decide +kernel
theorem d_Uncoder_unquote_107 : decode b_Uncoder_unquote 107 = .ok (.if_icmp .ne 8, 3) := by decide +kernel
theorem d_Uncoder_unquote_110 : decode b_Uncoder_unquote 110 = .ok (.bipush 32, 2) := by decide +kernel
theorem d_Uncoder_unquote_112 : decode b_Uncoder_unquote 112 = .ok (.goto 5, 3) := by decide +kernel
theorem d_Uncoder_unquote_115 : decode b_Uncoder_unquote 115 = .ok (.iload 6, 2) := by decide +kernel
theorem d_Uncoder_unquote_117 : decode b_Uncoder_unquote 117 = .ok (.invokevirtual 82, 3) := by decide +kernel
theorem d_Uncoder_unquote_120 : decode b_Uncoder_unquote 120 = .ok (.iinc 5 1, 3) := by decide +kernel
theorem d_Uncoder_unquote_123 : decode b_Uncoder_unquote 123 = .ok (.goto (-120), 3) := by decide +kernel
theorem d_Uncoder_unquote_126 : decode b_Uncoder_unquote 126 = .ok (.return_, 1) := by decide +kernel
theorem d_MC_count_0 : decode b_MC_count 0 = .ok (.iload_n 1, 1) := by decide +kernel
theorem d_MC_count_1 : decode b_MC_count 1 = .ok (.tableswitch 53 0 2 #[27, 35, 43], 27) := by decide +kernel
theorem d_MC_count_28 : decode b_MC_count 28 = .ok (.aload_n 0, 1) := by decide +kernel
theorem d_MC_count_29 : decode b_MC_count 29 = .ok (.getfield 57, 3) := by decide +kernel
theorem d_MC_count_32 : decode b_MC_count 32 = .ok (.invokevirtual 74, 3) := by decide +kernel
theorem d_MC_count_35 : decode b_MC_count 35 = .ok (.ireturn, 1) := by decide +kernel
theorem d_MC_count_36 : decode b_MC_count 36 = .ok (.aload_n 0, 1) := by decide +kernel
theorem d_MC_count_37 : decode b_MC_count 37 = .ok (.getfield 18, 3) := by decide +kernel
theorem d_MC_count_40 : decode b_MC_count 40 = .ok (.invokevirtual 74, 3) := by decide +kernel
theorem d_MC_count_43 : decode b_MC_count 43 = .ok (.ireturn, 1) := by decide +kernel
theorem d_MC_count_44 : decode b_MC_count 44 = .ok (.aload_n 0, 1) := by decide +kernel
theorem d_MC_count_45 : decode b_MC_count 45 = .ok (.getfield 18, 3) := by decide +kernel
theorem d_MC_count_48 : decode b_MC_count 48 = .ok (.ldc 146, 2) := by decide +kernel
theorem d_MC_count_50 : decode b_MC_count 50 = .ok (.invokevirtual 147, 3) := by decide +kernel
theorem d_MC_count_53 : decode b_MC_count 53 = .ok (.ireturn, 1) := by decide +kernel
theorem d_MC_count_54 : decode b_MC_count 54 = .ok (.iconst (-1), 1) := by decide +kernel
theorem d_MC_count_55 : decode b_MC_count 55 = .ok (.ireturn, 1) := by decide +kernel
theorem d_Uncoder_unquoteLines_0 : decode b_Uncoder_unquoteLines 0 = .ok (.aload_n 0, 1) := by decide +kernel
theorem d_Uncoder_unquoteLines_1 : decode b_Uncoder_unquoteLines 1 = .ok (.getfield 21, 3) := by decide +kernel
theorem d_Uncoder_unquoteLines_4 : decode b_Uncoder_unquoteLines 4 = .ok (.invokevirtual 86, 3) := by decide +kernel
theorem d_Uncoder_unquoteLines_7 : decode b_Uncoder_unquoteLines 7 = .ok (.iconst 0, 1) := by decide +kernel
theorem d_Uncoder_unquoteLines_8 : decode b_Uncoder_unquoteLines 8 = .ok (.istore_n 3, 1) := by decide +kernel
theorem d_Uncoder_unquoteLines_9 : decode b_Uncoder_unquoteLines 9 = .ok (.iload_n 3, 1) := by decide +kernel
theorem d_Uncoder_unquoteLines_10 : decode b_Uncoder_unquoteLines 10 = .ok (.aload_n 1, 1) := by decide +kernel
theorem d_Uncoder_unquoteLines_11 : decode b_Uncoder_unquoteLines 11 = .ok (.invokevirtual 25, 3) := by decide +kernel
theorem d_Uncoder_unquoteLines_14 : decode b_Uncoder_unquoteLines 14 = .ok (.if_icmp .ge 126, 3) := by decide +kernel
theorem d_Uncoder_unquoteLines_17 : decode b_Uncoder_unquoteLines 17 = .ok (.aload_n 0, 1) := by decide +kernel
theorem d_Uncoder_unquoteLines_18 : decode b_Uncoder_unquoteLines 18 = .ok (.getfield 21, 3) := by decide +kernel
theorem d_Uncoder_unquoteLines_21 : decode b_Uncoder_unquoteLines 21 = .ok (.aload_n 1, 1) := by decide +kernel
theorem d_Uncoder_unquoteLines_22 : decode b_Uncoder_unquoteLines 22 = .ok (.invokevirtual 89, 3) := by decide +kernel
theorem d_Uncoder_unquoteLines_25 : decode b_Uncoder_unquoteLines 25 = .ok (.ifCond .eq 115, 3) := by decide +kernel
theorem d_Uncoder_unquoteLines_28 : decode b_Uncoder_unquoteLines 28 = .ok (.aload_n 1, 1) := by decide +kernel
theorem d_Uncoder_unquoteLines_29 : decode b_Uncoder_unquoteLines 29 = .ok (.aload_n 0, 1) := by decide +kernel
theorem d_Uncoder_unquoteLines_30 : decode b_Uncoder_unquoteLines 30 = .ok (.getfield 21, 3) := by decide +kernel
theorem d_Uncoder_unquoteLines_33 : decode b_Uncoder_unquoteLines 33 = .ok (.getfield 93, 3) := by decide +kernel
theorem d_Uncoder_unquoteLines_36 : decode b_Uncoder_unquoteLines 36 = .ok (.aload_n 0, 1) := by decide +kernel
theorem d_Uncoder_unquoteLines_37 : decode b_Uncoder_unquoteLines 37 = .ok (.getfield 21, 3) := by decide +kernel
theorem d_Uncoder_unquoteLines_40 : decode b_Uncoder_unquoteLines 40 = .ok (.getfield 94, 3) := by decide +kernel
theorem d_Uncoder_unquoteLines_43 : decode b_Uncoder_unquoteLines 43 = .ok (.invokestatic 95, 3) := by decide +kernel
theorem d_Uncoder_unquoteLines_46 : decode b_Uncoder_unquoteLines 46 = .ok (.istore 4, 2) := by decide +kernel
theorem d_Uncoder_unquoteLines_48 : decode b_Uncoder_unquoteLines 48 = .ok (.iload 4, 2) := by decide +kernel
theorem d_Uncoder_unquoteLines_50 : decode b_Uncoder_unquoteLines 50 = .ok (.aload_n 0, 1) := by decide +kernel
theorem d_Uncoder_unquoteLines_51 : decode b_Uncoder_unquoteLines 51 = .ok (.getfield 21, 3) := by decide +kernel
theorem d_Uncoder_unquoteLines_54 : decode b_Uncoder_unquoteLines 54 = .ok (.getfield 93, 3) := by decide +kernel
theorem d_Uncoder_unquoteLines_57 : decode b_Uncoder_unquoteLines 57 = .ok (.if_icmp .le 20, 3) := by decide +kernel
theorem d_Uncoder_unquoteLines_60 : decode b_Uncoder_unquoteLines 60 = .ok (.aload_n 1, 1) := by decide +kernel
theorem d_Uncoder_unquoteLines_61 : decode b_Uncoder_unquoteLines 61 = .ok (.iload 4, 2) := by decide +kernel
theorem d_Uncoder_unquoteLines_63 : decode b_Uncoder_unquoteLines 63 = .ok (.iconst 1, 1) := by decide +kernel
theorem d_Uncoder_unquoteLines_64 : decode b_Uncoder_unquoteLines 64 = .ok (.isub, 1) := by decide +kernel
theorem d_Uncoder_unquoteLines_65 : decode b_Uncoder_unquoteLines 65 = .ok (.invokevirtual 62, 3) := by decide +kernel
theorem d_Uncoder_unquoteLines_68 : decode b_Uncoder_unquoteLines 68 = .ok (.bipush 61, 2) := by decide +kernel
theorem d_Uncoder_unquoteLines_70 : decode b_Uncoder_unquoteLines 70 = .ok (.if_icmp .ne 7, 3) := by decide +kernel
theorem d_Uncoder_unquoteLines_73 : decode b_Uncoder_unquoteLines 73 = .ok (.iconst 1, 1) := by decide +kernel
theorem d_Uncoder_unquoteLines_74 : decode b_Uncoder_unquoteLines 74 = .ok (.goto 4, 3) := by decide +kernel
theorem d_Uncoder_unquoteLines_77 : decode b_Uncoder_unquoteLines 77 = .ok (.iconst 0, 1) := by decide +kernel
theorem d_Uncoder_unquoteLines_78 : decode b_Uncoder_unquoteLines 78 = .ok (.istore 5, 2) := by decide +kernel
theorem d_Uncoder_unquoteLines_80 : decode b_Uncoder_unquoteLines 80 = .ok (.aload_n 1, 1) := by decide +kernel
theorem d_Uncoder_unquoteLines_81 : decode b_Uncoder_unquoteLines 81 = .ok (.aload_n 0, 1) := by decide +kernel
theorem d_Uncoder_unquoteLines_82 : decode b_Uncoder_unquoteLines 82 = .ok (.getfield 21, 3) := by decide +kernel
theorem d_Uncoder_unquoteLines_85 : decode b_Uncoder_unquoteLines 85 = .ok (.getfield 93, 3) := by decide +kernel
theorem d_Uncoder_unquoteLines_88 : decode b_Uncoder_unquoteLines 88 = .ok (.iload 5, 2) := by decide +kernel
theorem d_Uncoder_unquoteLines_90 : decode b_Uncoder_unquoteLines 90 = .ok (.ifCond .eq 10, 3) := by decide +kernel
theorem d_Uncoder_unquoteLines_93 : decode b_Uncoder_unquoteLines 93 = .ok (.iload 4, 2) := by decide +kernel
theorem d_Uncoder_unquoteLines_95 : decode b_Uncoder_unquoteLines 95 = .ok (.iconst 1, 1) := by decide +kernel
theorem d_Uncoder_unquoteLines_96 : decode b_Uncoder_unquoteLines 96 = .ok (.isub, 1) := by decide +kernel
theorem d_Uncoder_unquoteLines_97 : decode b_Uncoder_unquoteLines 97 = .ok (.goto 5, 3) := by decide +kernel
theorem d_Uncoder_unquoteLines_100 : decode b_Uncoder_unquoteLines 100 = .ok (.iload 4, 2) := by decide +kernel
theorem d_Uncoder_unquoteLines_102 : decode b_Uncoder_unquoteLines 102 = .ok (.iconst 0, 1) := by decide +kernel
theorem d_Uncoder_unquoteLines_103 : decode b_Uncoder_unquoteLines 103 = .ok (.aload_n 2, 1) := by decide +kernel
theorem d_Uncoder_unquoteLines_104 : decode b_Uncoder_unquoteLines 104 = .ok (.invokestatic 55, 3) := by decide +kernel
theorem d_Uncoder_unquoteLines_107 : decode b_Uncoder_unquoteLines 107 = .ok (.aload_n 0, 1) := by decide +kernel
theorem d_Uncoder_unquoteLines_108 : decode b_Uncoder_unquoteLines 108 = .ok (.getfield 21, 3) := by decide +kernel
theorem d_Uncoder_unquoteLines_111 : decode b_Uncoder_unquoteLines 111 = .ok (.getfield 99, 3) := by decide +kernel
theorem d_Uncoder_unquoteLines_114 : decode b_Uncoder_unquoteLines 114 = .ok (.ifCond .eq 20, 3) := by decide +kernel
theorem d_Uncoder_unquoteLines_117 : decode b_Uncoder_unquoteLines 117 = .ok (.iload 5, 2) := by decide +kernel
theorem d_Uncoder_unquoteLines_119 : decode b_Uncoder_unquoteLines 119 = .ok (.ifCond .ne 15, 3) := by decide +kernel
theorem d_Uncoder_unquoteLines_122 : decode b_Uncoder_unquoteLines 122 = .ok (.aload_n 2, 1) := by decide +kernel
theorem d_Uncoder_unquoteLines_123 : decode b_Uncoder_unquoteLines 123 = .ok (.bipush 13, 2) := by decide +kernel
theorem d_Uncoder_unquoteLines_125 : decode b_Uncoder_unquoteLines 125 = .ok (.invokevirtual 82, 3) := by decide +kernel
theorem d_Uncoder_unquoteLines_128 : decode b_Uncoder_unquoteLines 128 = .ok (.aload_n 2, 1) := by decide +kernel
theorem d_Uncoder_unquoteLines_129 : decode b_Uncoder_unquoteLines 129 = .ok (.bipush 10, 2) := by decide +kernel
theorem d_Uncoder_unquoteLines_131 : decode b_Uncoder_unquoteLines 131 = .ok (.invokevirtual 82, 3) := by decide +kernel
theorem d_Uncoder_unquoteLines_134 : decode b_Uncoder_unquoteLines 134 = .ok (.iinc 3 1, 3) := by decide +kernel
theorem d_Uncoder_unquoteLines_137 : decode b_Uncoder_unquoteLines 137 = .ok (.goto (-128), 3) := by decide +kernel
theorem d_Uncoder_unquoteLines_140 : decode b_Uncoder_unquoteLines 140 = .ok (.return_, 1) := by decide +kernel
theorem d_Uncoder_endsHex_0 : decode b_Uncoder_endsHex 0 = .ok (.aload_n 0, 1) := by decide +kernel
theorem d_Uncoder_endsHex_1 : decode b_Uncoder_endsHex 1 = .ok (.getfield 21, 3) := by decide +kernel
theorem d_Uncoder_endsHex_4 : decode b_Uncoder_endsHex 4 = .ok (.invokevirtual 105, 3) := by decide +kernel
theorem d_Uncoder_endsHex_7 : decode b_Uncoder_endsHex 7 = .ok (.ifCond .eq 31, 3) := by decide +kernel
theorem d_Uncoder_endsHex_10 : decode b_Uncoder_endsHex 10 = .ok (.aload_n 0, 1) := by decide +kernel
theorem d_Uncoder_endsHex_11 : decode b_Uncoder_endsHex 11 = .ok (.getfield 21, 3) := by decide +kernel
theorem d_Uncoder_endsHex_14 : decode b_Uncoder_endsHex 14 = .ok (.invokevirtual 105, 3) := by decide +kernel
theorem d_Uncoder_endsHex_17 : decode b_Uncoder_endsHex 17 = .ok (.ldc 123, 2) := by decide +kernel
theorem d_Uncoder_endsHex_19 : decode b_Uncoder_endsHex 19 = .ok (.invokevirtual 110, 3) := by decide +kernel
theorem d_Uncoder_endsHex_22 : decode b_Uncoder_endsHex 22 = .ok (.if_icmp .ne 18, 3) := by decide +kernel
theorem d_Uncoder_endsHex_25 : decode b_Uncoder_endsHex 25 = .ok (.aload_n 0, 1) := by decide +kernel
theorem d_Uncoder_endsHex_26 : decode b_Uncoder_endsHex 26 = .ok (.getfield 21, 3) := by decide +kernel
theorem d_Uncoder_endsHex_29 : decode b_Uncoder_endsHex 29 = .ok (.aload_n 1, 1) := by decide +kernel
theorem d_Uncoder_endsHex_30 : decode b_Uncoder_endsHex 30 = .ok (.ldc 123, 2) := by decide +kernel
theorem d_Uncoder_endsHex_32 : decode b_Uncoder_endsHex 32 = .ok (.invokevirtual 113, 3) := by decide +kernel
theorem d_Uncoder_endsHex_35 : decode b_Uncoder_endsHex 35 = .ok (.ifCond .eq 5, 3) := by decide +kernel
theorem d_Uncoder_endsHex_38 : decode b_Uncoder_endsHex 38 = .ok (.iconst 1, 1) := by decide +kernel
theorem d_Uncoder_endsHex_39 : decode b_Uncoder_endsHex 39 = .ok (.ireturn, 1) := by decide +kernel
theorem d_Uncoder_endsHex_40 : decode b_Uncoder_endsHex 40 = .ok (.aload_n 1, 1) := by decide +kernel
theorem d_Uncoder_endsHex_41 : decode b_Uncoder_endsHex 41 = .ok (.aload_n 0, 1) := by decide +kernel
theorem d_Uncoder_endsHex_42 : decode b_Uncoder_endsHex 42 = .ok (.getfield 21, 3) := by decide +kernel
theorem d_Uncoder_endsHex_45 : decode b_Uncoder_endsHex 45 = .ok (.getfield 93, 3) := by decide +kernel
theorem d_Uncoder_endsHex_48 : decode b_Uncoder_endsHex 48 = .ok (.invokevirtual 62, 3) := by decide +kernel
theorem d_Uncoder_endsHex_51 : decode b_Uncoder_endsHex 51 = .ok (.invokestatic 125, 3) := by decide +kernel
theorem d_Uncoder_endsHex_54 : decode b_Uncoder_endsHex 54 = .ok (.ifCond .ne 7, 3) := by decide +kernel
theorem d_Uncoder_endsHex_57 : decode b_Uncoder_endsHex 57 = .ok (.iconst 1, 1) := by decide +kernel
theorem d_Uncoder_endsHex_58 : decode b_Uncoder_endsHex 58 = .ok (.goto 4, 3) := by decide +kernel
theorem d_Uncoder_endsHex_61 : decode b_Uncoder_endsHex 61 = .ok (.iconst 0, 1) := by decide +kernel
theorem d_Uncoder_endsHex_62 : decode b_Uncoder_endsHex 62 = .ok (.ireturn, 1) := by decide +kernel
theorem d_Writer_endOfRun_0 : decode b_Writer_endOfRun 0 = .ok (.iload_n 1, 1) := by decide +kernel
theorem d_Writer_endOfRun_1 : decode b_Writer_endOfRun 1 = .ok (.istore_n 2, 1) := by decide +kernel
theorem d_Writer_endOfRun_2 : decode b_Writer_endOfRun 2 = .ok (.iload_n 2, 1) := by decide +kernel
theorem d_Writer_endOfRun_3 : decode b_Writer_endOfRun 3 = .ok (.aload_n 0, 1) := by decide +kernel
theorem d_Writer_endOfRun_4 : decode b_Writer_endOfRun 4 = .ok (.invokevirtual 28, 3) := by decide +kernel
theorem d_Writer_endOfRun_7 : decode b_Writer_endOfRun 7 = .ok (.if_icmp .ge 22, 3) := by decide +kernel
theorem d_Writer_endOfRun_10 : decode b_Writer_endOfRun 10 = .ok (.aload_n 0, 1) := by decide +kernel
theorem d_Writer_endOfRun_11 : decode b_Writer_endOfRun 11 = .ok (.iload_n 2, 1) := by decide +kernel
theorem d_Writer_endOfRun_12 : decode b_Writer_endOfRun 12 = .ok (.invokevirtual 32, 3) := by decide +kernel
theorem d_Writer_endOfRun_15 : decode b_Writer_endOfRun 15 = .ok (.invokestatic 90, 3) := by decide +kernel
theorem d_Writer_endOfRun_18 : decode b_Writer_endOfRun 18 = .ok (.ifCond .ne 5, 3) := by decide +kernel
theorem d_Writer_endOfRun_21 : decode b_Writer_endOfRun 21 = .ok (.iload_n 2, 1) := by decide +kernel
theorem d_Writer_endOfRun_22 : decode b_Writer_endOfRun 22 = .ok (.ireturn, 1) := by decide +kernel
theorem d_Writer_endOfRun_23 : decode b_Writer_endOfRun 23 = .ok (.iinc 2 1, 3) := by decide +kernel
theorem d_Writer_endOfRun_26 : decode b_Writer_endOfRun 26 = .ok (.goto (-24), 3) := by decide +kernel
theorem d_Writer_endOfRun_29 : decode b_Writer_endOfRun 29 = .ok (.aload_n 0, 1) := by decide +kernel
theorem d_Writer_endOfRun_30 : decode b_Writer_endOfRun 30 = .ok (.invokevirtual 28, 3) := by decide +kernel
theorem d_Writer_endOfRun_33 : decode b_Writer_endOfRun 33 = .ok (.ireturn, 1) := by decide +kernel
theorem d_Writer_widthOfRun_0 : decode b_Writer_widthOfRun 0 = .ok (.iconst 0, 1) := by decide +kernel
theorem d_Writer_widthOfRun_1 : decode b_Writer_widthOfRun 1 = .ok (.istore_n 3, 1) := by decide +kernel
theorem d_Writer_widthOfRun_2 : decode b_Writer_widthOfRun 2 = .ok (.iload_n 1, 1) := by decide +kernel
theorem d_Writer_widthOfRun_3 : decode b_Writer_widthOfRun 3 = .ok (.istore 4, 2) := by decide +kernel
theorem d_Writer_widthOfRun_5 : decode b_Writer_widthOfRun 5 = .ok (.iload 4, 2) := by decide +kernel
theorem d_Writer_widthOfRun_7 : decode b_Writer_widthOfRun 7 = .ok (.iload_n 2, 1) := by decide +kernel
theorem d_Writer_widthOfRun_8 : decode b_Writer_widthOfRun 8 = .ok (.if_icmp .ge 21, 3) := by decide +kernel
theorem d_Writer_widthOfRun_11 : decode b_Writer_widthOfRun 11 = .ok (.iload_n 3, 1) := by decide +kernel
theorem d_Writer_widthOfRun_12 : decode b_Writer_widthOfRun 12 = .ok (.aload_n 0, 1) := by decide +kernel
theorem d_Writer_widthOfRun_13 : decode b_Writer_widthOfRun 13 = .ok (.iload 4, 2) := by decide +kernel
theorem d_Writer_widthOfRun_15 : decode b_Writer_widthOfRun 15 = .ok (.invokevirtual 32, 3) := by decide +kernel
theorem d_Writer_widthOfRun_18 : decode b_Writer_widthOfRun 18 = .ok (.invokestatic 50, 3) := by decide +kernel
theorem d_Writer_widthOfRun_21 : decode b_Writer_widthOfRun 21 = .ok (.iadd, 1) := by decide +kernel
theorem d_Writer_widthOfRun_22 : decode b_Writer_widthOfRun 22 = .ok (.istore_n 3, 1) := by decide +kernel
theorem d_Writer_widthOfRun_23 : decode b_Writer_widthOfRun 23 = .ok (.iinc 4 1, 3) := by decide +kernel
theorem d_Writer_widthOfRun_26 : decode b_Writer_widthOfRun 26 = .ok (.goto (-21), 3) := by decide +kernel
theorem d_Writer_widthOfRun_29 : decode b_Writer_widthOfRun 29 = .ok (.iload_n 3, 1) := by decide +kernel
theorem d_Writer_widthOfRun_30 : decode b_Writer_widthOfRun 30 = .ok (.bipush 16, 2) := by decide +kernel
theorem d_Writer_widthOfRun_32 : decode b_Writer_widthOfRun 32 = .ok (.imul, 1) := by decide +kernel
theorem d_Writer_widthOfRun_33 : decode b_Writer_widthOfRun 33 = .ok (.iconst 5, 1) := by decide +kernel
theorem d_Writer_widthOfRun_34 : decode b_Writer_widthOfRun 34 = .ok (.iadd, 1) := by decide +kernel
theorem d_Writer_widthOfRun_35 : decode b_Writer_widthOfRun 35 = .ok (.bipush 6, 2) := by decide +kernel
theorem d_Writer_widthOfRun_37 : decode b_Writer_widthOfRun 37 = .ok (.idiv, 1) := by decide +kernel
theorem d_Writer_widthOfRun_38 : decode b_Writer_widthOfRun 38 = .ok (.iconst 2, 1) := by decide +kernel
theorem d_Writer_widthOfRun_39 : decode b_Writer_widthOfRun 39 = .ok (.iadd, 1) := by decide +kernel
theorem d_Writer_widthOfRun_40 : decode b_Writer_widthOfRun 40 = .ok (.ireturn, 1) := by decide +kernel
theorem d_Writer_putLetters_0 : decode b_Writer_putLetters 0 = .ok (.iconst 0, 1) := by decide +kernel
theorem d_Writer_putLetters_1 : decode b_Writer_putLetters 1 = .ok (.istore_n 2, 1) := by decide +kernel
theorem d_Writer_putLetters_2 : decode b_Writer_putLetters 2 = .ok (.iload_n 2, 1) := by decide +kernel
theorem d_Writer_putLetters_3 : decode b_Writer_putLetters 3 = .ok (.iconst 3, 1) := by decide +kernel
theorem d_Writer_putLetters_4 : decode b_Writer_putLetters 4 = .ok (.if_icmp .ge 37, 3) := by decide +kernel
theorem d_Writer_putLetters_7 : decode b_Writer_putLetters 7 = .ok (.aload_n 0, 1) := by decide +kernel
theorem d_Writer_putLetters_8 : decode b_Writer_putLetters 8 = .ok (.getfield 12, 3) := by decide +kernel
theorem d_Writer_putLetters_11 : decode b_Writer_putLetters 11 = .ok (.bipush 6, 2) := by decide +kernel
theorem d_Writer_putLetters_13 : decode b_Writer_putLetters 13 = .ok (.invokevirtual 108, 3) := by decide +kernel
theorem d_Writer_putLetters_16 : decode b_Writer_putLetters 16 = .ok (.ifCond .eq 25, 3) := by decide +kernel
theorem d_Writer_putLetters_19 : decode b_Writer_putLetters 19 = .ok (.aload_n 1, 1) := by decide +kernel
theorem d_Writer_putLetters_20 : decode b_Writer_putLetters 20 = .ok (.aload_n 0, 1) := by decide +kernel
theorem d_Writer_putLetters_21 : decode b_Writer_putLetters 21 = .ok (.getfield 12, 3) := by decide +kernel
theorem d_Writer_putLetters_24 : decode b_Writer_putLetters 24 = .ok (.bipush 6, 2) := by decide +kernel
theorem d_Writer_putLetters_26 : decode b_Writer_putLetters 26 = .ok (.invokevirtual 111, 3) := by decide +kernel
theorem d_Writer_putLetters_29 : decode b_Writer_putLetters 29 = .ok (.invokestatic 114, 3) := by decide +kernel
theorem d_Writer_putLetters_32 : decode b_Writer_putLetters 32 = .ok (.invokevirtual 22, 3) := by decide +kernel
theorem d_Writer_putLetters_35 : decode b_Writer_putLetters 35 = .ok (.iinc 2 1, 3) := by decide +kernel
theorem d_Writer_putLetters_38 : decode b_Writer_putLetters 38 = .ok (.goto (-36), 3) := by decide +kernel
theorem d_Writer_putLetters_41 : decode b_Writer_putLetters 41 = .ok (.return_, 1) := by decide +kernel
theorem d_Writer_widthOf_0 : decode b_Writer_widthOf 0 = .ok (.iload_n 1, 1) := by decide +kernel
theorem d_Writer_widthOf_1 : decode b_Writer_widthOf 1 = .ok (.tableswitch 43 4 7 #[31, 36, 36, 36], 31) := by decide +kernel
theorem d_Writer_widthOf_32 : decode b_Writer_widthOf 32 = .ok (.iload_n 0, 1) := by decide +kernel
theorem d_Writer_widthOf_33 : decode b_Writer_widthOf 33 = .ok (.invokestatic 47, 3) := by decide +kernel
theorem d_Writer_widthOf_36 : decode b_Writer_widthOf 36 = .ok (.ireturn, 1) := by decide +kernel
theorem d_Writer_widthOf_37 : decode b_Writer_widthOf 37 = .ok (.iload_n 0, 1) := by decide +kernel
theorem d_Writer_widthOf_38 : decode b_Writer_widthOf 38 = .ok (.invokestatic 50, 3) := by decide +kernel
theorem d_Writer_widthOf_41 : decode b_Writer_widthOf 41 = .ok (.iconst 2, 1) := by decide +kernel
theorem d_Writer_widthOf_42 : decode b_Writer_widthOf 42 = .ok (.imul, 1) := by decide +kernel
theorem d_Writer_widthOf_43 : decode b_Writer_widthOf 43 = .ok (.ireturn, 1) := by decide +kernel
theorem d_Writer_widthOf_44 : decode b_Writer_widthOf 44 = .ok (.iconst 1, 1) := by decide +kernel
theorem d_Writer_widthOf_45 : decode b_Writer_widthOf 45 = .ok (.ireturn, 1) := by decide +kernel
theorem d_SingleBytes_windowsByteOf_0 : decode b_SingleBytes_windowsByteOf 0 = .ok (.iload_n 0, 1) := by decide +kernel
theorem d_SingleBytes_windowsByteOf_1 : decode b_SingleBytes_windowsByteOf 1 = .ok (.sipush 160, 3) := by decide +kernel
theorem d_SingleBytes_windowsByteOf_4 : decode b_SingleBytes_windowsByteOf 4 = .ok (.if_icmp .lt 12, 3) := by decide +kernel
theorem d_SingleBytes_windowsByteOf_7 : decode b_SingleBytes_windowsByteOf 7 = .ok (.iload_n 0, 1) := by decide +kernel
theorem d_SingleBytes_windowsByteOf_8 : decode b_SingleBytes_windowsByteOf 8 = .ok (.sipush 256, 3) := by decide +kernel
theorem d_SingleBytes_windowsByteOf_11 : decode b_SingleBytes_windowsByteOf 11 = .ok (.if_icmp .ge 5, 3) := by decide +kernel
theorem d_SingleBytes_windowsByteOf_14 : decode b_SingleBytes_windowsByteOf 14 = .ok (.iload_n 0, 1) := by decide +kernel
theorem d_SingleBytes_windowsByteOf_15 : decode b_SingleBytes_windowsByteOf 15 = .ok (.ireturn, 1) := by decide +kernel
theorem d_SingleBytes_windowsByteOf_16 : decode b_SingleBytes_windowsByteOf 16 = .ok (.iload_n 0, 1) := by decide +kernel
theorem d_SingleBytes_windowsByteOf_17 : decode b_SingleBytes_windowsByteOf 17 = .ok (.ldc 26, 2) := by decide +kernel
theorem d_SingleBytes_windowsByteOf_19 : decode b_SingleBytes_windowsByteOf 19 = .ok (.if_icmp .ne 7, 3) := by decide +kernel
theorem d_SingleBytes_windowsByteOf_22 : decode b_SingleBytes_windowsByteOf 22 = .ok (.iconst (-1), 1) := by decide +kernel
theorem d_SingleBytes_windowsByteOf_23 : decode b_SingleBytes_windowsByteOf 23 = .ok (.goto 10, 3) := by decide +kernel
theorem d_SingleBytes_windowsByteOf_26 : decode b_SingleBytes_windowsByteOf 26 = .ok (.getstatic 15, 3) := by decide +kernel
theorem d_SingleBytes_windowsByteOf_29 : decode b_SingleBytes_windowsByteOf 29 = .ok (.iload_n 0, 1) := by decide +kernel
theorem d_SingleBytes_windowsByteOf_30 : decode b_SingleBytes_windowsByteOf 30 = .ok (.invokestatic 39, 3) := by decide +kernel
theorem d_SingleBytes_windowsByteOf_33 : decode b_SingleBytes_windowsByteOf 33 = .ok (.istore_n 1, 1) := by decide +kernel
theorem d_SingleBytes_windowsByteOf_34 : decode b_SingleBytes_windowsByteOf 34 = .ok (.iload_n 1, 1) := by decide +kernel
theorem d_SingleBytes_windowsByteOf_35 : decode b_SingleBytes_windowsByteOf 35 = .ok (.iconst (-1), 1) := by decide +kernel
theorem d_SingleBytes_windowsByteOf_36 : decode b_SingleBytes_windowsByteOf 36 = .ok (.if_icmp .ne 8, 3) := by decide +kernel
theorem d_SingleBytes_windowsByteOf_39 : decode b_SingleBytes_windowsByteOf 39 = .ok (.bipush 63, 2) := by decide +kernel
theorem d_SingleBytes_windowsByteOf_41 : decode b_SingleBytes_windowsByteOf 41 = .ok (.goto 8, 3) := by decide +kernel
theorem d_SingleBytes_windowsByteOf_44 : decode b_SingleBytes_windowsByteOf 44 = .ok (.sipush 128, 3) := by decide +kernel
theorem d_SingleBytes_windowsByteOf_47 : decode b_SingleBytes_windowsByteOf 47 = .ok (.iload_n 1, 1) := by decide +kernel
theorem d_SingleBytes_windowsByteOf_48 : decode b_SingleBytes_windowsByteOf 48 = .ok (.iadd, 1) := by decide +kernel
theorem d_SingleBytes_windowsByteOf_49 : decode b_SingleBytes_windowsByteOf 49 = .ok (.ireturn, 1) := by decide +kernel
theorem d_Coder_putLetter_0 : decode b_Coder_putLetter 0 = .ok (.aload_n 0, 1) := by decide +kernel
theorem d_Coder_putLetter_1 : decode b_Coder_putLetter 1 = .ok (.getfield 18, 3) := by decide +kernel
theorem d_Coder_putLetter_4 : decode b_Coder_putLetter 4 = .ok (.bipush 76, 2) := by decide +kernel
theorem d_Coder_putLetter_6 : decode b_Coder_putLetter 6 = .ok (.if_icmp .ne 8, 3) := by decide +kernel
theorem d_Coder_putLetter_9 : decode b_Coder_putLetter 9 = .ok (.aload_n 0, 1) := by decide +kernel
theorem d_Coder_putLetter_10 : decode b_Coder_putLetter 10 = .ok (.aload_n 1, 1) := by decide +kernel
theorem d_Coder_putLetter_11 : decode b_Coder_putLetter 11 = .ok (.invokevirtual 61, 3) := by decide +kernel
theorem d_Coder_putLetter_14 : decode b_Coder_putLetter 14 = .ok (.aload_n 1, 1) := by decide +kernel
theorem d_Coder_putLetter_15 : decode b_Coder_putLetter 15 = .ok (.aload_n 0, 1) := by decide +kernel
theorem d_Coder_putLetter_16 : decode b_Coder_putLetter 16 = .ok (.getfield 12, 3) := by decide +kernel
theorem d_Coder_putLetter_19 : decode b_Coder_putLetter 19 = .ok (.bipush 6, 2) := by decide +kernel
theorem d_Coder_putLetter_21 : decode b_Coder_putLetter 21 = .ok (.invokevirtual 64, 3) := by decide +kernel
theorem d_Coder_putLetter_24 : decode b_Coder_putLetter 24 = .ok (.invokestatic 67, 3) := by decide +kernel
theorem d_Coder_putLetter_27 : decode b_Coder_putLetter 27 = .ok (.invokevirtual 58, 3) := by decide +kernel
theorem d_Coder_putLetter_30 : decode b_Coder_putLetter 30 = .ok (.aload_n 0, 1) := by decide +kernel
theorem d_Coder_putLetter_31 : decode b_Coder_putLetter 31 = .ok (.dup, 1) := by decide +kernel
theorem d_Coder_putLetter_32 : decode b_Coder_putLetter 32 = .ok (.getfield 18, 3) := by decide +kernel
theorem d_Coder_putLetter_35 : decode b_Coder_putLetter 35 = .ok (.iconst 1, 1) := by decide +kernel
theorem d_Coder_putLetter_36 : decode b_Coder_putLetter 36 = .ok (.iadd, 1) := by decide +kernel
theorem d_Coder_putLetter_37 : decode b_Coder_putLetter 37 = .ok (.putfield 18, 3) := by decide +kernel
theorem d_Coder_putLetter_40 : decode b_Coder_putLetter 40 = .ok (.return_, 1) := by decide +kernel
theorem d_Coder_quoteByte_0 : decode b_Coder_quoteByte 0 = .ok (.iload_n 2, 1) := by decide +kernel
theorem d_Coder_quoteByte_1 : decode b_Coder_quoteByte 1 = .ok (.ifCond .eq 7, 3) := by decide +kernel
theorem d_Coder_quoteByte_4 : decode b_Coder_quoteByte 4 = .ok (.iconst 1, 1) := by decide +kernel
theorem d_Coder_quoteByte_5 : decode b_Coder_quoteByte 5 = .ok (.goto 4, 3) := by decide +kernel
theorem d_Coder_quoteByte_8 : decode b_Coder_quoteByte 8 = .ok (.iconst 3, 1) := by decide +kernel
theorem d_Coder_quoteByte_9 : decode b_Coder_quoteByte 9 = .ok (.istore 4, 2) := by decide +kernel
theorem d_Coder_quoteByte_11 : decode b_Coder_quoteByte 11 = .ok (.aload_n 0, 1) := by decide +kernel
theorem d_Coder_quoteByte_12 : decode b_Coder_quoteByte 12 = .ok (.getfield 18, 3) := by decide +kernel
theorem d_Coder_quoteByte_15 : decode b_Coder_quoteByte 15 = .ok (.iload 4, 2) := by decide +kernel
theorem d_Coder_quoteByte_17 : decode b_Coder_quoteByte 17 = .ok (.iadd, 1) := by decide +kernel
theorem d_Coder_quoteByte_18 : decode b_Coder_quoteByte 18 = .ok (.iconst 1, 1) := by decide +kernel
theorem d_Coder_quoteByte_19 : decode b_Coder_quoteByte 19 = .ok (.iadd, 1) := by decide +kernel
theorem d_Coder_quoteByte_20 : decode b_Coder_quoteByte 20 = .ok (.bipush 76, 2) := by decide +kernel
theorem d_Coder_quoteByte_22 : decode b_Coder_quoteByte 22 = .ok (.if_icmp .le 14, 3) := by decide +kernel
theorem d_Coder_quoteByte_25 : decode b_Coder_quoteByte 25 = .ok (.aload_n 3, 1) := by decide +kernel
theorem d_Coder_quoteByte_26 : decode b_Coder_quoteByte 26 = .ok (.bipush 61, 2) := by decide +kernel
theorem d_Coder_quoteByte_28 : decode b_Coder_quoteByte 28 = .ok (.invokevirtual 58, 3) := by decide +kernel
theorem d_Coder_quoteByte_31 : decode b_Coder_quoteByte 31 = .ok (.aload_n 0, 1) := by decide +kernel
theorem d_Coder_quoteByte_32 : decode b_Coder_quoteByte 32 = .ok (.aload_n 3, 1) := by decide +kernel
theorem d_Coder_quoteByte_33 : decode b_Coder_quoteByte 33 = .ok (.invokevirtual 61, 3) := by decide +kernel
theorem d_Coder_quoteByte_36 : decode b_Coder_quoteByte 36 = .ok (.iload_n 2, 1) := by decide +kernel
theorem d_Coder_quoteByte_37 : decode b_Coder_quoteByte 37 = .ok (.ifCond .eq 11, 3) := by decide +kernel
theorem d_Coder_quoteByte_40 : decode b_Coder_quoteByte 40 = .ok (.aload_n 3, 1) := by decide +kernel
theorem d_Coder_quoteByte_41 : decode b_Coder_quoteByte 41 = .ok (.iload_n 1, 1) := by decide +kernel
theorem d_Coder_quoteByte_42 : decode b_Coder_quoteByte 42 = .ok (.invokevirtual 58, 3) := by decide +kernel
theorem d_Coder_quoteByte_45 : decode b_Coder_quoteByte 45 = .ok (.goto 27, 3) := by decide +kernel
theorem d_Coder_quoteByte_48 : decode b_Coder_quoteByte 48 = .ok (.aload_n 3, 1) := by decide +kernel
theorem d_Coder_quoteByte_49 : decode b_Coder_quoteByte 49 = .ok (.bipush 61, 2) := by decide +kernel
theorem d_Coder_quoteByte_51 : decode b_Coder_quoteByte 51 = .ok (.invokevirtual 58, 3) := by decide +kernel
theorem d_Coder_quoteByte_54 : decode b_Coder_quoteByte 54 = .ok (.aload_n 3, 1) := by decide +kernel
theorem d_Coder_quoteByte_55 : decode b_Coder_quoteByte 55 = .ok (.iload_n 1, 1) := by decide +kernel
theorem d_Coder_quoteByte_56 : decode b_Coder_quoteByte 56 = .ok (.iconst 4, 1) := by decide +kernel
theorem d_Coder_quoteByte_57 : decode b_Coder_quoteByte 57 = .ok (.ishr, 1) := by decide +kernel
theorem d_Coder_quoteByte_58 : decode b_Coder_quoteByte 58 = .ok (.invokestatic 83, 3) := by decide +kernel
theorem d_Coder_quoteByte_61 : decode b_Coder_quoteByte 61 = .ok (.invokevirtual 58, 3) := by decide +kernel
theorem d_Coder_quoteByte_64 : decode b_Coder_quoteByte 64 = .ok (.aload_n 3, 1) := by decide +kernel
theorem d_Coder_quoteByte_65 : decode b_Coder_quoteByte 65 = .ok (.iload_n 1, 1) := by decide +kernel
theorem d_Coder_quoteByte_66 : decode b_Coder_quoteByte 66 = .ok (.invokestatic 83, 3) := by decide +kernel
theorem d_Coder_quoteByte_69 : decode b_Coder_quoteByte 69 = .ok (.invokevirtual 58, 3) := by decide +kernel
theorem d_Coder_quoteByte_72 : decode b_Coder_quoteByte 72 = .ok (.aload_n 0, 1) := by decide +kernel
theorem d_Coder_quoteByte_73 : decode b_Coder_quoteByte 73 = .ok (.dup, 1) := by decide +kernel
theorem d_Coder_quoteByte_74 : decode b_Coder_quoteByte 74 = .ok (.getfield 18, 3) := by decide +kernel
theorem d_Coder_quoteByte_77 : decode b_Coder_quoteByte 77 = .ok (.iload 4, 2) := by decide +kernel
theorem d_Coder_quoteByte_79 : decode b_Coder_quoteByte 79 = .ok (.iadd, 1) := by decide +kernel
theorem d_Coder_quoteByte_80 : decode b_Coder_quoteByte 80 = .ok (.putfield 18, 3) := by decide +kernel
theorem d_Coder_quoteByte_83 : decode b_Coder_quoteByte 83 = .ok (.return_, 1) := by decide +kernel
theorem d_Names_isOneOf_0 : decode b_Names_isOneOf 0 = .ok (.iconst 0, 1) := by decide +kernel
theorem d_Names_isOneOf_1 : decode b_Names_isOneOf 1 = .ok (.istore 4, 2) := by decide +kernel
theorem d_Names_isOneOf_3 : decode b_Names_isOneOf 3 = .ok (.iconst 0, 1) := by decide +kernel
theorem d_Names_isOneOf_4 : decode b_Names_isOneOf 4 = .ok (.istore 5, 2) := by decide +kernel
theorem d_Names_isOneOf_6 : decode b_Names_isOneOf 6 = .ok (.iload 5, 2) := by decide +kernel
theorem d_Names_isOneOf_8 : decode b_Names_isOneOf 8 = .ok (.aload_n 3, 1) := by decide +kernel
theorem d_Names_isOneOf_9 : decode b_Names_isOneOf 9 = .ok (.invokevirtual 41, 3) := by decide +kernel
theorem d_Names_isOneOf_12 : decode b_Names_isOneOf 12 = .ok (.if_icmp .ge 52, 3) := by decide +kernel
theorem d_Names_isOneOf_15 : decode b_Names_isOneOf 15 = .ok (.aload_n 3, 1) := by decide +kernel
theorem d_Names_isOneOf_16 : decode b_Names_isOneOf 16 = .ok (.iload 5, 2) := by decide +kernel
theorem d_Names_isOneOf_18 : decode b_Names_isOneOf 18 = .ok (.invokevirtual 47, 3) := by decide +kernel
theorem d_Names_isOneOf_21 : decode b_Names_isOneOf 21 = .ok (.bipush 32, 2) := by decide +kernel
theorem d_Names_isOneOf_23 : decode b_Names_isOneOf 23 = .ok (.if_icmp .ne 35, 3) := by decide +kernel
theorem d_Names_isOneOf_26 : decode b_Names_isOneOf 26 = .ok (.iload_n 2, 1) := by decide +kernel
theorem d_Names_isOneOf_27 : decode b_Names_isOneOf 27 = .ok (.iload_n 1, 1) := by decide +kernel
theorem d_Names_isOneOf_28 : decode b_Names_isOneOf 28 = .ok (.isub, 1) := by decide +kernel
theorem d_Names_isOneOf_29 : decode b_Names_isOneOf 29 = .ok (.iload 5, 2) := by decide +kernel
theorem d_Names_isOneOf_31 : decode b_Names_isOneOf 31 = .ok (.iload 4, 2) := by decide +kernel
theorem d_Names_isOneOf_33 : decode b_Names_isOneOf 33 = .ok (.isub, 1) := by decide +kernel
theorem d_Names_isOneOf_34 : decode b_Names_isOneOf 34 = .ok (.if_icmp .ne 18, 3) := by decide +kernel
theorem d_Names_isOneOf_37 : decode b_Names_isOneOf 37 = .ok (.aload_n 0, 1) := by decide +kernel
theorem d_Names_isOneOf_38 : decode b_Names_isOneOf 38 = .ok (.iload_n 1, 1) := by decide +kernel
theorem d_Names_isOneOf_39 : decode b_Names_isOneOf 39 = .ok (.aload_n 3, 1) := by decide +kernel
theorem d_Names_isOneOf_40 : decode b_Names_isOneOf 40 = .ok (.iload 4, 2) := by decide +kernel
theorem d_Names_isOneOf_42 : decode b_Names_isOneOf 42 = .ok (.iload 5, 2) := by decide +kernel
theorem d_Names_isOneOf_44 : decode b_Names_isOneOf 44 = .ok (.invokestatic 51, 3) := by decide +kernel
theorem d_Names_isOneOf_47 : decode b_Names_isOneOf 47 = .ok (.ifCond .eq 5, 3) := by decide +kernel
theorem d_Names_isOneOf_50 : decode b_Names_isOneOf 50 = .ok (.iconst 1, 1) := by decide +kernel
theorem d_Names_isOneOf_51 : decode b_Names_isOneOf 51 = .ok (.ireturn, 1) := by decide +kernel
theorem d_Names_isOneOf_52 : decode b_Names_isOneOf 52 = .ok (.iload 5, 2) := by decide +kernel
theorem d_Names_isOneOf_54 : decode b_Names_isOneOf 54 = .ok (.iconst 1, 1) := by decide +kernel
theorem d_Names_isOneOf_55 : decode b_Names_isOneOf 55 = .ok (.iadd, 1) := by decide +kernel
theorem d_Names_isOneOf_56 : decode b_Names_isOneOf 56 = .ok (.istore 4, 2) := by decide +kernel
theorem d_Names_isOneOf_58 : decode b_Names_isOneOf 58 = .ok (.iinc 5 1, 3) := by decide +kernel
theorem d_Names_isOneOf_61 : decode b_Names_isOneOf 61 = .ok (.goto (-55), 3) := by decide +kernel
theorem d_Names_isOneOf_64 : decode b_Names_isOneOf 64 = .ok (.iconst 0, 1) := by decide +kernel
theorem d_Names_isOneOf_65 : decode b_Names_isOneOf 65 = .ok (.ireturn, 1) := by decide +kernel
theorem d_Reader_readUtf16_0 : decode b_Reader_readUtf16 0 = .ok (.iload_n 2, 1) := by decide +kernel
theorem d_Reader_readUtf16_1 : decode b_Reader_readUtf16 1 = .ok (.istore 6, 2) := by decide +kernel
theorem d_Reader_readUtf16_3 : decode b_Reader_readUtf16 3 = .ok (.iload 6, 2) := by decide +kernel
theorem d_Reader_readUtf16_5 : decode b_Reader_readUtf16 5 = .ok (.iconst 1, 1) := by decide +kernel
theorem d_Reader_readUtf16_6 : decode b_Reader_readUtf16 6 = .ok (.iadd, 1) := by decide +kernel
theorem d_Reader_readUtf16_7 : decode b_Reader_readUtf16 7 = .ok (.iload_n 3, 1) := by decide +kernel
theorem d_Reader_readUtf16_8 : decode b_Reader_readUtf16 8 = .ok (.if_icmp .ge 59, 3) := by decide +kernel
theorem d_Reader_readUtf16_11 : decode b_Reader_readUtf16 11 = .ok (.aload_n 1, 1) := by decide +kernel
theorem d_Reader_readUtf16_12 : decode b_Reader_readUtf16 12 = .ok (.iload 6, 2) := by decide +kernel
theorem d_Reader_readUtf16_14 : decode b_Reader_readUtf16 14 = .ok (.invokevirtual 36, 3) := by decide +kernel
theorem d_Reader_readUtf16_17 : decode b_Reader_readUtf16 17 = .ok (.istore 7, 2) := by decide +kernel
theorem d_Reader_readUtf16_19 : decode b_Reader_readUtf16 19 = .ok (.aload_n 1, 1) := by decide +kernel
theorem d_Reader_readUtf16_20 : decode b_Reader_readUtf16 20 = .ok (.iload 6, 2) := by decide +kernel
theorem d_Reader_readUtf16_22 : decode b_Reader_readUtf16 22 = .ok (.iconst 1, 1) := by decide +kernel
theorem d_Reader_readUtf16_23 : decode b_Reader_readUtf16 23 = .ok (.iadd, 1) := by decide +kernel
theorem d_Reader_readUtf16_24 : decode b_Reader_readUtf16 24 = .ok (.invokevirtual 36, 3) := by decide +kernel
theorem d_Reader_readUtf16_27 : decode b_Reader_readUtf16 27 = .ok (.istore 8, 2) := by decide +kernel
theorem d_Reader_readUtf16_29 : decode b_Reader_readUtf16 29 = .ok (.aload_n 0, 1) := by decide +kernel
theorem d_Reader_readUtf16_30 : decode b_Reader_readUtf16 30 = .ok (.iload 4, 2) := by decide +kernel
theorem d_Reader_readUtf16_32 : decode b_Reader_readUtf16 32 = .ok (.ifCond .eq 15, 3) := by decide +kernel
theorem d_Reader_readUtf16_35 : decode b_Reader_readUtf16 35 = .ok (.iload 7, 2) := by decide +kernel
theorem d_Reader_readUtf16_37 : decode b_Reader_readUtf16 37 = .ok (.sipush 256, 3) := by decide +kernel
theorem d_Reader_readUtf16_40 : decode b_Reader_readUtf16 40 = .ok (.imul, 1) := by decide +kernel
theorem d_Reader_readUtf16_41 : decode b_Reader_readUtf16 41 = .ok (.iload 8, 2) := by decide +kernel
theorem d_Reader_readUtf16_43 : decode b_Reader_readUtf16 43 = .ok (.iadd, 1) := by decide +kernel
theorem d_Reader_readUtf16_44 : decode b_Reader_readUtf16 44 = .ok (.goto 12, 3) := by decide +kernel
theorem d_Reader_readUtf16_47 : decode b_Reader_readUtf16 47 = .ok (.iload 8, 2) := by decide +kernel
theorem d_Reader_readUtf16_49 : decode b_Reader_readUtf16 49 = .ok (.sipush 256, 3) := by decide +kernel
theorem d_Reader_readUtf16_52 : decode b_Reader_readUtf16 52 = .ok (.imul, 1) := by decide +kernel
theorem d_Reader_readUtf16_53 : decode b_Reader_readUtf16 53 = .ok (.iload 7, 2) := by decide +kernel
theorem d_Reader_readUtf16_55 : decode b_Reader_readUtf16 55 = .ok (.iadd, 1) := by decide +kernel
theorem d_Reader_readUtf16_56 : decode b_Reader_readUtf16 56 = .ok (.aload 5, 2) := by decide +kernel
theorem d_Reader_readUtf16_58 : decode b_Reader_readUtf16 58 = .ok (.invokevirtual 62, 3) := by decide +kernel
theorem d_Reader_readUtf16_61 : decode b_Reader_readUtf16 61 = .ok (.iinc 6 2, 3) := by decide +kernel
theorem d_Reader_readUtf16_64 : decode b_Reader_readUtf16 64 = .ok (.goto (-61), 3) := by decide +kernel
theorem d_Reader_readUtf16_67 : decode b_Reader_readUtf16 67 = .ok (.aload_n 0, 1) := by decide +kernel
theorem d_Reader_readUtf16_68 : decode b_Reader_readUtf16 68 = .ok (.aload 5, 2) := by decide +kernel
theorem d_Reader_readUtf16_70 : decode b_Reader_readUtf16 70 = .ok (.invokevirtual 66, 3) := by decide +kernel
theorem d_Reader_readUtf16_73 : decode b_Reader_readUtf16 73 = .ok (.iload_n 3, 1) := by decide +kernel
theorem d_Reader_readUtf16_74 : decode b_Reader_readUtf16 74 = .ok (.iload_n 2, 1) := by decide +kernel
theorem d_Reader_readUtf16_75 : decode b_Reader_readUtf16 75 = .ok (.isub, 1) := by decide +kernel
theorem d_Reader_readUtf16_76 : decode b_Reader_readUtf16 76 = .ok (.iconst 2, 1) := by decide +kernel
theorem d_Reader_readUtf16_77 : decode b_Reader_readUtf16 77 = .ok (.irem, 1) := by decide +kernel
theorem d_Reader_readUtf16_78 : decode b_Reader_readUtf16 78 = .ok (.ifCond .eq 10, 3) := by decide +kernel
theorem d_Reader_readUtf16_81 : decode b_Reader_readUtf16 81 = .ok (.aload 5, 2) := by decide +kernel
theorem d_Reader_readUtf16_83 : decode b_Reader_readUtf16 83 = .ok (.ldc 52, 2) := by decide +kernel
theorem d_Reader_readUtf16_85 : decode b_Reader_readUtf16 85 = .ok (.invokevirtual 48, 3) := by decide +kernel
theorem d_Reader_readUtf16_88 : decode b_Reader_readUtf16 88 = .ok (.return_, 1) := by decide +kernel
theorem d_Reader_readUtf7_0 : decode b_Reader_readUtf7 0 = .ok (.iconst 0, 1) := by decide +kernel
theorem d_Reader_readUtf7_1 : decode b_Reader_readUtf7 1 = .ok (.istore 5, 2) := by decide +kernel
theorem d_Reader_readUtf7_3 : decode b_Reader_readUtf7 3 = .ok (.iconst 1, 1) := by decide +kernel
theorem d_Reader_readUtf7_4 : decode b_Reader_readUtf7 4 = .ok (.istore 6, 2) := by decide +kernel
theorem d_Reader_readUtf7_6 : decode b_Reader_readUtf7 6 = .ok (.iload_n 2, 1) := by decide +kernel
theorem d_Reader_readUtf7_7 : decode b_Reader_readUtf7 7 = .ok (.istore 7, 2) := by decide +kernel
theorem d_Reader_readUtf7_9 : decode b_Reader_readUtf7 9 = .ok (.iload 7, 2) := by decide +kernel
theorem d_Reader_readUtf7_11 : decode b_Reader_readUtf7 11 = .ok (.iload_n 3, 1) := by decide +kernel
theorem d_Reader_readUtf7_12 : decode b_Reader_readUtf7 12 = .ok (.if_icmp .ge 147, 3) := by decide +kernel
theorem d_Reader_readUtf7_15 : decode b_Reader_readUtf7 15 = .ok (.aload_n 1, 1) := by decide +kernel
theorem d_Reader_readUtf7_16 : decode b_Reader_readUtf7 16 = .ok (.iload 7, 2) := by decide +kernel
theorem d_Reader_readUtf7_18 : decode b_Reader_readUtf7 18 = .ok (.invokevirtual 36, 3) := by decide +kernel
theorem d_Reader_readUtf7_21 : decode b_Reader_readUtf7 21 = .ok (.istore 8, 2) := by decide +kernel
theorem d_Reader_readUtf7_23 : decode b_Reader_readUtf7 23 = .ok (.iload 5, 2) := by decide +kernel
theorem d_Reader_readUtf7_25 : decode b_Reader_readUtf7 25 = .ok (.ifCond .eq 11, 3) := by decide +kernel
theorem d_Reader_readUtf7_28 : decode b_Reader_readUtf7 28 = .ok (.iload 8, 2) := by decide +kernel
theorem d_Reader_readUtf7_30 : decode b_Reader_readUtf7 30 = .ok (.invokestatic 70, 3) := by decide +kernel
theorem d_Reader_readUtf7_33 : decode b_Reader_readUtf7 33 = .ok (.goto 4, 3) := by decide +kernel
theorem d_Reader_readUtf7_36 : decode b_Reader_readUtf7 36 = .ok (.iconst (-1), 1) := by decide +kernel
theorem d_Reader_readUtf7_37 : decode b_Reader_readUtf7 37 = .ok (.istore 9, 2) := by decide +kernel
theorem d_Reader_readUtf7_39 : decode b_Reader_readUtf7 39 = .ok (.iload 9, 2) := by decide +kernel
theorem d_Reader_readUtf7_41 : decode b_Reader_readUtf7 41 = .ok (.iconst (-1), 1) := by decide +kernel
theorem d_Reader_readUtf7_42 : decode b_Reader_readUtf7 42 = .ok (.if_icmp .eq 17, 3) := by decide +kernel
theorem d_Reader_readUtf7_45 : decode b_Reader_readUtf7 45 = .ok (.aload_n 0, 1) := by decide +kernel
theorem d_Reader_readUtf7_46 : decode b_Reader_readUtf7 46 = .ok (.iload 9, 2) := by decide +kernel
theorem d_Reader_readUtf7_48 : decode b_Reader_readUtf7 48 = .ok (.aload 4, 2) := by decide +kernel
theorem d_Reader_readUtf7_50 : decode b_Reader_readUtf7 50 = .ok (.invokevirtual 75, 3) := by decide +kernel
theorem d_Reader_readUtf7_53 : decode b_Reader_readUtf7 53 = .ok (.iconst 0, 1) := by decide +kernel
theorem d_Reader_readUtf7_54 : decode b_Reader_readUtf7 54 = .ok (.istore 6, 2) := by decide +kernel
theorem d_Reader_readUtf7_56 : decode b_Reader_readUtf7 56 = .ok (.goto 97, 3) := by decide +kernel
theorem d_Reader_readUtf7_59 : decode b_Reader_readUtf7 59 = .ok (.iload 5, 2) := by decide +kernel
theorem d_Reader_readUtf7_61 : decode b_Reader_readUtf7 61 = .ok (.istore 10, 2) := by decide +kernel
theorem d_Reader_readUtf7_63 : decode b_Reader_readUtf7 63 = .ok (.aload_n 0, 1) := by decide +kernel
theorem d_Reader_readUtf7_64 : decode b_Reader_readUtf7 64 = .ok (.aload 4, 2) := by decide +kernel
theorem d_Reader_readUtf7_66 : decode b_Reader_readUtf7 66 = .ok (.invokevirtual 66, 3) := by decide +kernel
theorem d_Reader_readUtf7_69 : decode b_Reader_readUtf7 69 = .ok (.iload 10, 2) := by decide +kernel
theorem d_Reader_readUtf7_71 : decode b_Reader_readUtf7 71 = .ok (.ifCond .ne 14, 3) := by decide +kernel
theorem d_Reader_readUtf7_74 : decode b_Reader_readUtf7 74 = .ok (.iload 8, 2) := by decide +kernel
theorem d_Reader_readUtf7_76 : decode b_Reader_readUtf7 76 = .ok (.bipush 43, 2) := by decide +kernel
theorem d_Reader_readUtf7_78 : decode b_Reader_readUtf7 78 = .ok (.if_icmp .ne 7, 3) := by decide +kernel
theorem d_Reader_readUtf7_81 : decode b_Reader_readUtf7 81 = .ok (.iconst 1, 1) := by decide +kernel
theorem d_Reader_readUtf7_82 : decode b_Reader_readUtf7 82 = .ok (.goto 4, 3) := by decide +kernel
theorem d_Reader_readUtf7_85 : decode b_Reader_readUtf7 85 = .ok (.iconst 0, 1) := by decide +kernel
theorem d_Reader_readUtf7_86 : decode b_Reader_readUtf7 86 = .ok (.istore 5, 2) := by decide +kernel
theorem d_Reader_readUtf7_88 : decode b_Reader_readUtf7 88 = .ok (.iload 5, 2) := by decide +kernel
theorem d_Reader_readUtf7_90 : decode b_Reader_readUtf7 90 = .ok (.ifCond .eq 16, 3) := by decide +kernel
theorem d_Reader_readUtf7_93 : decode b_Reader_readUtf7 93 = .ok (.aload_n 0, 1) := by decide +kernel
theorem d_Reader_readUtf7_94 : decode b_Reader_readUtf7 94 = .ok (.getfield 12, 3) := by decide +kernel
theorem d_Reader_readUtf7_97 : decode b_Reader_readUtf7 97 = .ok (.invokevirtual 78, 3) := by decide +kernel
theorem d_Reader_readUtf7_100 : decode b_Reader_readUtf7 100 = .ok (.iconst 1, 1) := by decide +kernel
theorem d_Reader_readUtf7_101 : decode b_Reader_readUtf7 101 = .ok (.istore 6, 2) := by decide +kernel
theorem d_Reader_readUtf7_103 : decode b_Reader_readUtf7 103 = .ok (.goto 50, 3) := by decide +kernel
theorem d_Reader_readUtf7_106 : decode b_Reader_readUtf7 106 = .ok (.iload 10, 2) := by decide +kernel
theorem d_Reader_readUtf7_108 : decode b_Reader_readUtf7 108 = .ok (.ifCond .eq 10, 3) := by decide +kernel
theorem d_Reader_readUtf7_111 : decode b_Reader_readUtf7 111 = .ok (.iload 8, 2) := by decide +kernel
theorem d_Reader_readUtf7_113 : decode b_Reader_readUtf7 113 = .ok (.bipush 45, 2) := by decide +kernel
theorem d_Reader_readUtf7_115 : decode b_Reader_readUtf7 115 = .ok (.if_icmp .eq 26, 3) := by decide +kernel
theorem d_Reader_readUtf7_118 : decode b_Reader_readUtf7 118 = .ok (.aload 4, 2) := by decide +kernel
theorem d_Reader_readUtf7_120 : decode b_Reader_readUtf7 120 = .ok (.iload 8, 2) := by decide +kernel
theorem d_Reader_readUtf7_122 : decode b_Reader_readUtf7 122 = .ok (.sipush 128, 3) := by decide +kernel
theorem d_Reader_readUtf7_125 : decode b_Reader_readUtf7 125 = .ok (.if_icmp .ge 8, 3) := by decide +kernel
theorem d_Reader_readUtf7_128 : decode b_Reader_readUtf7 128 = .ok (.iload 8, 2) := by decide +kernel
theorem d_Reader_readUtf7_130 : decode b_Reader_readUtf7 130 = .ok (.goto 5, 3) := by decide +kernel
theorem d_Reader_readUtf7_133 : decode b_Reader_readUtf7 133 = .ok (.ldc 52, 2) := by decide +kernel
theorem d_Reader_readUtf7_135 : decode b_Reader_readUtf7 135 = .ok (.invokevirtual 48, 3) := by decide +kernel
theorem d_Reader_readUtf7_138 : decode b_Reader_readUtf7 138 = .ok (.goto 15, 3) := by decide +kernel
theorem d_Reader_readUtf7_141 : decode b_Reader_readUtf7 141 = .ok (.iload 6, 2) := by decide +kernel
theorem d_Reader_readUtf7_143 : decode b_Reader_readUtf7 143 = .ok (.ifCond .eq 10, 3) := by decide +kernel
theorem d_Reader_readUtf7_146 : decode b_Reader_readUtf7 146 = .ok (.aload 4, 2) := by decide +kernel
theorem d_Reader_readUtf7_148 : decode b_Reader_readUtf7 148 = .ok (.bipush 43, 2) := by decide +kernel
theorem d_Reader_readUtf7_150 : decode b_Reader_readUtf7 150 = .ok (.invokevirtual 48, 3) := by decide +kernel
theorem d_Reader_readUtf7_153 : decode b_Reader_readUtf7 153 = .ok (.iinc 7 1, 3) := by decide +kernel
theorem d_Reader_readUtf7_156 : decode b_Reader_readUtf7 156 = .ok (.goto (-147), 3) := by decide +kernel
theorem d_Reader_readUtf7_159 : decode b_Reader_readUtf7 159 = .ok (.aload_n 0, 1) := by decide +kernel
theorem d_Reader_readUtf7_160 : decode b_Reader_readUtf7 160 = .ok (.aload 4, 2) := by decide +kernel
theorem d_Reader_readUtf7_162 : decode b_Reader_readUtf7 162 = .ok (.invokevirtual 66, 3) := by decide +kernel
theorem d_Reader_readUtf7_165 : decode b_Reader_readUtf7 165 = .ok (.return_, 1) := by decide +kernel
theorem d_Reader_readSingleBytes_0 : decode b_Reader_readSingleBytes 0 = .ok (.iload_n 1, 1) := by decide +kernel
theorem d_Reader_readSingleBytes_1 : decode b_Reader_readSingleBytes 1 = .ok (.istore 5, 2) := by decide +kernel
theorem d_Reader_readSingleBytes_3 : decode b_Reader_readSingleBytes 3 = .ok (.iload 5, 2) := by decide +kernel
theorem d_Reader_readSingleBytes_5 : decode b_Reader_readSingleBytes 5 = .ok (.iload_n 2, 1) := by decide +kernel
theorem d_Reader_readSingleBytes_6 : decode b_Reader_readSingleBytes 6 = .ok (.if_icmp .ge 24, 3) := by decide +kernel
theorem d_Reader_readSingleBytes_9 : decode b_Reader_readSingleBytes 9 = .ok (.aload 4, 2) := by decide +kernel
theorem d_Reader_readSingleBytes_11 : decode b_Reader_readSingleBytes 11 = .ok (.iload_n 3, 1) := by decide +kernel
theorem d_Reader_readSingleBytes_12 : decode b_Reader_readSingleBytes 12 = .ok (.aload_n 0, 1) := by decide +kernel
theorem d_Reader_readSingleBytes_13 : decode b_Reader_readSingleBytes 13 = .ok (.iload 5, 2) := by decide +kernel
theorem d_Reader_readSingleBytes_15 : decode b_Reader_readSingleBytes 15 = .ok (.invokevirtual 36, 3) := by decide +kernel
theorem d_Reader_readSingleBytes_18 : decode b_Reader_readSingleBytes 18 = .ok (.invokestatic 42, 3) := by decide +kernel
theorem d_Reader_readSingleBytes_21 : decode b_Reader_readSingleBytes 21 = .ok (.invokevirtual 48, 3) := by decide +kernel
theorem d_Reader_readSingleBytes_24 : decode b_Reader_readSingleBytes 24 = .ok (.iinc 5 1, 3) := by decide +kernel
theorem d_Reader_readSingleBytes_27 : decode b_Reader_readSingleBytes 27 = .ok (.goto (-24), 3) := by decide +kernel
theorem d_Reader_readSingleBytes_30 : decode b_Reader_readSingleBytes 30 = .ok (.return_, 1) := by decide +kernel
theorem d_Uncoder_uncodeWord_0 : decode b_Uncoder_uncodeWord 0 = .ok (.aload_n 2, 1) := by decide +kernel
theorem d_Uncoder_uncodeWord_1 : decode b_Uncoder_uncodeWord 1 = .ok (.getfield 42, 3) := by decide +kernel
theorem d_Uncoder_uncodeWord_4 : decode b_Uncoder_uncodeWord 4 = .ok (.ifCond .eq 20, 3) := by decide +kernel
theorem d_Uncoder_uncodeWord_7 : decode b_Uncoder_uncodeWord 7 = .ok (.aload_n 0, 1) := by decide +kernel
theorem d_Uncoder_uncodeWord_8 : decode b_Uncoder_uncodeWord 8 = .ok (.aload_n 1, 1) := by decide +kernel
theorem d_Uncoder_uncodeWord_9 : decode b_Uncoder_uncodeWord 9 = .ok (.aload_n 2, 1) := by decide +kernel
theorem d_Uncoder_uncodeWord_10 : decode b_Uncoder_uncodeWord 10 = .ok (.getfield 48, 3) := by decide +kernel
theorem d_Uncoder_uncodeWord_13 : decode b_Uncoder_uncodeWord 13 = .ok (.aload_n 2, 1) := by decide +kernel
theorem d_Uncoder_uncodeWord_14 : decode b_Uncoder_uncodeWord 14 = .ok (.getfield 52, 3) := by decide +kernel
theorem d_Uncoder_uncodeWord_17 : decode b_Uncoder_uncodeWord 17 = .ok (.aload_n 3, 1) := by decide +kernel
theorem d_Uncoder_uncodeWord_18 : decode b_Uncoder_uncodeWord 18 = .ok (.invokevirtual 31, 3) := by decide +kernel
theorem d_Uncoder_uncodeWord_21 : decode b_Uncoder_uncodeWord 21 = .ok (.goto 17, 3) := by decide +kernel
theorem d_Uncoder_uncodeWord_24 : decode b_Uncoder_uncodeWord 24 = .ok (.aload_n 1, 1) := by decide +kernel
theorem d_Uncoder_uncodeWord_25 : decode b_Uncoder_uncodeWord 25 = .ok (.aload_n 2, 1) := by decide +kernel
theorem d_Uncoder_uncodeWord_26 : decode b_Uncoder_uncodeWord 26 = .ok (.getfield 48, 3) := by decide +kernel
theorem d_Uncoder_uncodeWord_29 : decode b_Uncoder_uncodeWord 29 = .ok (.aload_n 2, 1) := by decide +kernel
theorem d_Uncoder_uncodeWord_30 : decode b_Uncoder_uncodeWord 30 = .ok (.getfield 52, 3) := by decide +kernel
theorem d_Uncoder_uncodeWord_33 : decode b_Uncoder_uncodeWord 33 = .ok (.iconst 1, 1) := by decide +kernel
theorem d_Uncoder_uncodeWord_34 : decode b_Uncoder_uncodeWord 34 = .ok (.aload_n 3, 1) := by decide +kernel
theorem d_Uncoder_uncodeWord_35 : decode b_Uncoder_uncodeWord 35 = .ok (.invokestatic 55, 3) := by decide +kernel
theorem d_Uncoder_uncodeWord_38 : decode b_Uncoder_uncodeWord 38 = .ok (.return_, 1) := by decide +kernel
theorem d_Uncoder_unhexLines_0 : decode b_Uncoder_unhexLines 0 = .ok (.iconst 0, 1) := by decide +kernel
theorem d_Uncoder_unhexLines_1 : decode b_Uncoder_unhexLines 1 = .ok (.istore_n 3, 1) := by decide +kernel
theorem d_Uncoder_unhexLines_2 : decode b_Uncoder_unhexLines 2 = .ok (.aload_n 0, 1) := by decide +kernel
theorem d_Uncoder_unhexLines_3 : decode b_Uncoder_unhexLines 3 = .ok (.getfield 21, 3) := by decide +kernel
theorem d_Uncoder_unhexLines_6 : decode b_Uncoder_unhexLines 6 = .ok (.invokevirtual 86, 3) := by decide +kernel
theorem d_Uncoder_unhexLines_9 : decode b_Uncoder_unhexLines 9 = .ok (.iconst 0, 1) := by decide +kernel
theorem d_Uncoder_unhexLines_10 : decode b_Uncoder_unhexLines 10 = .ok (.istore 4, 2) := by decide +kernel
theorem d_Uncoder_unhexLines_12 : decode b_Uncoder_unhexLines 12 = .ok (.iload 4, 2) := by decide +kernel
theorem d_Uncoder_unhexLines_14 : decode b_Uncoder_unhexLines 14 = .ok (.aload_n 1, 1) := by decide +kernel
theorem d_Uncoder_unhexLines_15 : decode b_Uncoder_unhexLines 15 = .ok (.invokevirtual 25, 3) := by decide +kernel
theorem d_Uncoder_unhexLines_18 : decode b_Uncoder_unhexLines 18 = .ok (.if_icmp .ge 76, 3) := by decide +kernel
theorem d_Uncoder_unhexLines_21 : decode b_Uncoder_unhexLines 21 = .ok (.aload_n 0, 1) := by decide +kernel
theorem d_Uncoder_unhexLines_22 : decode b_Uncoder_unhexLines 22 = .ok (.getfield 21, 3) := by decide +kernel
theorem d_Uncoder_unhexLines_25 : decode b_Uncoder_unhexLines 25 = .ok (.aload_n 1, 1) := by decide +kernel
theorem d_Uncoder_unhexLines_26 : decode b_Uncoder_unhexLines 26 = .ok (.invokevirtual 89, 3) := by decide +kernel
theorem d_Uncoder_unhexLines_29 : decode b_Uncoder_unhexLines 29 = .ok (.ifCond .eq 65, 3) := by decide +kernel
theorem d_Uncoder_unhexLines_32 : decode b_Uncoder_unhexLines 32 = .ok (.iload_n 3, 1) := by decide +kernel
theorem d_Uncoder_unhexLines_33 : decode b_Uncoder_unhexLines 33 = .ok (.ifCond .ne 40, 3) := by decide +kernel
theorem d_Uncoder_unhexLines_36 : decode b_Uncoder_unhexLines 36 = .ok (.aload_n 0, 1) := by decide +kernel
theorem d_Uncoder_unhexLines_37 : decode b_Uncoder_unhexLines 37 = .ok (.getfield 21, 3) := by decide +kernel
theorem d_Uncoder_unhexLines_40 : decode b_Uncoder_unhexLines 40 = .ok (.invokevirtual 105, 3) := by decide +kernel
theorem d_Uncoder_unhexLines_43 : decode b_Uncoder_unhexLines 43 = .ok (.ldc 108, 2) := by decide +kernel
theorem d_Uncoder_unhexLines_45 : decode b_Uncoder_unhexLines 45 = .ok (.invokevirtual 110, 3) := by decide +kernel
theorem d_Uncoder_unhexLines_48 : decode b_Uncoder_unhexLines 48 = .ok (.if_icmp .le 20, 3) := by decide +kernel
theorem d_Uncoder_unhexLines_51 : decode b_Uncoder_unhexLines 51 = .ok (.aload_n 0, 1) := by decide +kernel
theorem d_Uncoder_unhexLines_52 : decode b_Uncoder_unhexLines 52 = .ok (.getfield 21, 3) := by decide +kernel
theorem d_Uncoder_unhexLines_55 : decode b_Uncoder_unhexLines 55 = .ok (.aload_n 1, 1) := by decide +kernel
theorem d_Uncoder_unhexLines_56 : decode b_Uncoder_unhexLines 56 = .ok (.ldc 108, 2) := by decide +kernel
theorem d_Uncoder_unhexLines_58 : decode b_Uncoder_unhexLines 58 = .ok (.invokevirtual 113, 3) := by decide +kernel
theorem d_Uncoder_unhexLines_61 : decode b_Uncoder_unhexLines 61 = .ok (.ifCond .eq 7, 3) := by decide +kernel
theorem d_Uncoder_unhexLines_64 : decode b_Uncoder_unhexLines 64 = .ok (.iconst 1, 1) := by decide +kernel
theorem d_Uncoder_unhexLines_65 : decode b_Uncoder_unhexLines 65 = .ok (.goto 4, 3) := by decide +kernel
theorem d_Uncoder_unhexLines_68 : decode b_Uncoder_unhexLines 68 = .ok (.iconst 0, 1) := by decide +kernel
theorem d_Uncoder_unhexLines_69 : decode b_Uncoder_unhexLines 69 = .ok (.istore_n 3, 1) := by decide +kernel
theorem d_Uncoder_unhexLines_70 : decode b_Uncoder_unhexLines 70 = .ok (.goto 18, 3) := by decide +kernel
theorem d_Uncoder_unhexLines_73 : decode b_Uncoder_unhexLines 73 = .ok (.aload_n 0, 1) := by decide +kernel
theorem d_Uncoder_unhexLines_74 : decode b_Uncoder_unhexLines 74 = .ok (.aload_n 1, 1) := by decide +kernel
theorem d_Uncoder_unhexLines_75 : decode b_Uncoder_unhexLines 75 = .ok (.invokevirtual 117, 3) := by decide +kernel
theorem d_Uncoder_unhexLines_78 : decode b_Uncoder_unhexLines 78 = .ok (.ifCond .eq 4, 3) := by decide +kernel
theorem d_Uncoder_unhexLines_81 : decode b_Uncoder_unhexLines 81 = .ok (.return_, 1) := by decide +kernel
theorem d_Uncoder_unhexLines_82 : decode b_Uncoder_unhexLines 82 = .ok (.aload_n 0, 1) := by decide +kernel
theorem d_Uncoder_unhexLines_83 : decode b_Uncoder_unhexLines 83 = .ok (.aload_n 1, 1) := by decide +kernel
theorem d_Uncoder_unhexLines_84 : decode b_Uncoder_unhexLines 84 = .ok (.aload_n 2, 1) := by decide +kernel
theorem d_Uncoder_unhexLines_85 : decode b_Uncoder_unhexLines 85 = .ok (.invokevirtual 120, 3) := by decide +kernel
theorem d_Uncoder_unhexLines_88 : decode b_Uncoder_unhexLines 88 = .ok (.iinc 4 1, 3) := by decide +kernel
theorem d_Uncoder_unhexLines_91 : decode b_Uncoder_unhexLines 91 = .ok (.goto (-79), 3) := by decide +kernel
theorem d_Uncoder_unhexLines_94 : decode b_Uncoder_unhexLines 94 = .ok (.return_, 1) := by decide +kernel
theorem d_Writer_writeRun_0 : decode b_Writer_writeRun 0 = .ok (.aload 4, 2) := by decide +kernel
theorem d_Writer_writeRun_2 : decode b_Writer_writeRun 2 = .ok (.bipush 43, 2) := by decide +kernel
theorem d_Writer_writeRun_4 : decode b_Writer_writeRun 4 = .ok (.invokevirtual 22, 3) := by decide +kernel
theorem d_Writer_writeRun_7 : decode b_Writer_writeRun 7 = .ok (.aload_n 0, 1) := by decide +kernel
theorem d_Writer_writeRun_8 : decode b_Writer_writeRun 8 = .ok (.getfield 12, 3) := by decide +kernel
theorem d_Writer_writeRun_11 : decode b_Writer_writeRun 11 = .ok (.invokevirtual 94, 3) := by decide +kernel
theorem d_Writer_writeRun_14 : decode b_Writer_writeRun 14 = .ok (.iload_n 2, 1) := by decide +kernel
theorem d_Writer_writeRun_15 : decode b_Writer_writeRun 15 = .ok (.istore 5, 2) := by decide +kernel
theorem d_Writer_writeRun_17 : decode b_Writer_writeRun 17 = .ok (.iload 5, 2) := by decide +kernel
theorem d_Writer_writeRun_19 : decode b_Writer_writeRun 19 = .ok (.iload_n 3, 1) := by decide +kernel
theorem d_Writer_writeRun_20 : decode b_Writer_writeRun 20 = .ok (.if_icmp .ge 58, 3) := by decide +kernel
theorem d_Writer_writeRun_23 : decode b_Writer_writeRun 23 = .ok (.aload_n 1, 1) := by decide +kernel
theorem d_Writer_writeRun_24 : decode b_Writer_writeRun 24 = .ok (.iload 5, 2) := by decide +kernel
theorem d_Writer_writeRun_26 : decode b_Writer_writeRun 26 = .ok (.invokevirtual 32, 3) := by decide +kernel
theorem d_Writer_writeRun_29 : decode b_Writer_writeRun 29 = .ok (.istore 6, 2) := by decide +kernel
theorem d_Writer_writeRun_31 : decode b_Writer_writeRun 31 = .ok (.iconst 0, 1) := by decide +kernel
theorem d_Writer_writeRun_32 : decode b_Writer_writeRun 32 = .ok (.istore 7, 2) := by decide +kernel
theorem d_Writer_writeRun_34 : decode b_Writer_writeRun 34 = .ok (.iload 7, 2) := by decide +kernel
theorem d_Writer_writeRun_36 : decode b_Writer_writeRun 36 = .ok (.iload 6, 2) := by decide +kernel
theorem d_Writer_writeRun_38 : decode b_Writer_writeRun 38 = .ok (.invokestatic 50, 3) := by decide +kernel
theorem d_Writer_writeRun_41 : decode b_Writer_writeRun 41 = .ok (.if_icmp .ge 31, 3) := by decide +kernel
theorem d_Writer_writeRun_44 : decode b_Writer_writeRun 44 = .ok (.aload_n 0, 1) := by decide +kernel
theorem d_Writer_writeRun_45 : decode b_Writer_writeRun 45 = .ok (.getfield 12, 3) := by decide +kernel
theorem d_Writer_writeRun_48 : decode b_Writer_writeRun 48 = .ok (.iload 6, 2) := by decide +kernel
theorem d_Writer_writeRun_50 : decode b_Writer_writeRun 50 = .ok (.iload 7, 2) := by decide +kernel
theorem d_Writer_writeRun_52 : decode b_Writer_writeRun 52 = .ok (.invokestatic 69, 3) := by decide +kernel
theorem d_Writer_writeRun_55 : decode b_Writer_writeRun 55 = .ok (.bipush 16, 2) := by decide +kernel
theorem d_Writer_writeRun_57 : decode b_Writer_writeRun 57 = .ok (.invokevirtual 97, 3) := by decide +kernel
theorem d_Writer_writeRun_60 : decode b_Writer_writeRun 60 = .ok (.aload_n 0, 1) := by decide +kernel
theorem d_Writer_writeRun_61 : decode b_Writer_writeRun 61 = .ok (.aload 4, 2) := by decide +kernel
theorem d_Writer_writeRun_63 : decode b_Writer_writeRun 63 = .ok (.invokevirtual 101, 3) := by decide +kernel
theorem d_Writer_writeRun_66 : decode b_Writer_writeRun 66 = .ok (.iinc 7 1, 3) := by decide +kernel
theorem d_Writer_writeRun_69 : decode b_Writer_writeRun 69 = .ok (.goto (-35), 3) := by decide +kernel
theorem d_Writer_writeRun_72 : decode b_Writer_writeRun 72 = .ok (.iinc 5 1, 3) := by decide +kernel
theorem d_Writer_writeRun_75 : decode b_Writer_writeRun 75 = .ok (.goto (-58), 3) := by decide +kernel
theorem d_Writer_writeRun_78 : decode b_Writer_writeRun 78 = .ok (.aload_n 0, 1) := by decide +kernel
theorem d_Writer_writeRun_79 : decode b_Writer_writeRun 79 = .ok (.getfield 12, 3) := by decide +kernel
theorem d_Writer_writeRun_82 : decode b_Writer_writeRun 82 = .ok (.bipush 6, 2) := by decide +kernel
theorem d_Writer_writeRun_84 : decode b_Writer_writeRun 84 = .ok (.invokevirtual 105, 3) := by decide +kernel
theorem d_Writer_writeRun_87 : decode b_Writer_writeRun 87 = .ok (.aload_n 0, 1) := by decide +kernel
theorem d_Writer_writeRun_88 : decode b_Writer_writeRun 88 = .ok (.aload 4, 2) := by decide +kernel
theorem d_Writer_writeRun_90 : decode b_Writer_writeRun 90 = .ok (.invokevirtual 101, 3) := by decide +kernel
theorem d_Writer_writeRun_93 : decode b_Writer_writeRun 93 = .ok (.aload 4, 2) := by decide +kernel
theorem d_Writer_writeRun_95 : decode b_Writer_writeRun 95 = .ok (.bipush 45, 2) := by decide +kernel
theorem d_Writer_writeRun_97 : decode b_Writer_writeRun 97 = .ok (.invokevirtual 22, 3) := by decide +kernel
theorem d_Writer_writeRun_100 : decode b_Writer_writeRun 100 = .ok (.return_, 1) := by decide +kernel
theorem d_SingleBytes_byteOf_0 : decode b_SingleBytes_byteOf 0 = .ok (.iload_n 1, 1) := by decide +kernel
theorem d_SingleBytes_byteOf_1 : decode b_SingleBytes_byteOf 1 = .ok (.sipush 128, 3) := by decide +kernel
theorem d_SingleBytes_byteOf_4 : decode b_SingleBytes_byteOf 4 = .ok (.if_icmp .ge 5, 3) := by decide +kernel
theorem d_SingleBytes_byteOf_7 : decode b_SingleBytes_byteOf 7 = .ok (.iload_n 1, 1) := by decide +kernel
theorem d_SingleBytes_byteOf_8 : decode b_SingleBytes_byteOf 8 = .ok (.ireturn, 1) := by decide +kernel
theorem d_SingleBytes_byteOf_9 : decode b_SingleBytes_byteOf 9 = .ok (.iload_n 0, 1) := by decide +kernel
theorem d_SingleBytes_byteOf_10 : decode b_SingleBytes_byteOf 10 = .ok (.tableswitch 75 1 8 #[46, 60, 65, 75, 75, 75, 75, 70], 46) := by decide +kernel
theorem d_SingleBytes_byteOf_56 : decode b_SingleBytes_byteOf 56 = .ok (.iload_n 1, 1) := by decide +kernel
theorem d_SingleBytes_byteOf_57 : decode b_SingleBytes_byteOf 57 = .ok (.sipush 256, 3) := by decide +kernel
theorem d_SingleBytes_byteOf_60 : decode b_SingleBytes_byteOf 60 = .ok (.if_icmp .ge 7, 3) := by decide +kernel
theorem d_SingleBytes_byteOf_63 : decode b_SingleBytes_byteOf 63 = .ok (.iload_n 1, 1) := by decide +kernel
theorem d_SingleBytes_byteOf_64 : decode b_SingleBytes_byteOf 64 = .ok (.goto 5, 3) := by decide +kernel
theorem d_SingleBytes_byteOf_67 : decode b_SingleBytes_byteOf 67 = .ok (.bipush 63, 2) := by decide +kernel
theorem d_SingleBytes_byteOf_69 : decode b_SingleBytes_byteOf 69 = .ok (.ireturn, 1) := by decide +kernel
theorem d_SingleBytes_byteOf_70 : decode b_SingleBytes_byteOf 70 = .ok (.iload_n 1, 1) := by decide +kernel
theorem d_SingleBytes_byteOf_71 : decode b_SingleBytes_byteOf 71 = .ok (.invokestatic 27, 3) := by decide +kernel
theorem d_SingleBytes_byteOf_74 : decode b_SingleBytes_byteOf 74 = .ok (.ireturn, 1) := by decide +kernel
theorem d_SingleBytes_byteOf_75 : decode b_SingleBytes_byteOf 75 = .ok (.iload_n 1, 1) := by decide +kernel
theorem d_SingleBytes_byteOf_76 : decode b_SingleBytes_byteOf 76 = .ok (.invokestatic 30, 3) := by decide +kernel
theorem d_SingleBytes_byteOf_79 : decode b_SingleBytes_byteOf 79 = .ok (.ireturn, 1) := by decide +kernel
theorem d_SingleBytes_byteOf_80 : decode b_SingleBytes_byteOf 80 = .ok (.iload_n 1, 1) := by decide +kernel
theorem d_SingleBytes_byteOf_81 : decode b_SingleBytes_byteOf 81 = .ok (.invokestatic 33, 3) := by decide +kernel
theorem d_SingleBytes_byteOf_84 : decode b_SingleBytes_byteOf 84 = .ok (.ireturn, 1) := by decide +kernel
theorem d_SingleBytes_byteOf_85 : decode b_SingleBytes_byteOf 85 = .ok (.bipush 63, 2) := by decide +kernel
theorem d_SingleBytes_byteOf_87 : decode b_SingleBytes_byteOf 87 = .ok (.ireturn, 1) := by decide +kernel
theorem d_Coder_base_0 : decode b_Coder_base 0 = .ok (.aload_n 0, 1) := by decide +kernel
theorem d_Coder_base_1 : decode b_Coder_base 1 = .ok (.getfield 12, 3) := by decide +kernel
theorem d_Coder_base_4 : decode b_Coder_base 4 = .ok (.invokevirtual 29, 3) := by decide +kernel
theorem d_Coder_base_7 : decode b_Coder_base 7 = .ok (.iconst 0, 1) := by decide +kernel
theorem d_Coder_base_8 : decode b_Coder_base 8 = .ok (.istore_n 3, 1) := by decide +kernel
theorem d_Coder_base_9 : decode b_Coder_base 9 = .ok (.iload_n 3, 1) := by decide +kernel
theorem d_Coder_base_10 : decode b_Coder_base 10 = .ok (.aload_n 1, 1) := by decide +kernel
theorem d_Coder_base_11 : decode b_Coder_base 11 = .ok (.invokevirtual 32, 3) := by decide +kernel
theorem d_Coder_base_14 : decode b_Coder_base 14 = .ok (.if_icmp .ge 45, 3) := by decide +kernel
theorem d_Coder_base_17 : decode b_Coder_base 17 = .ok (.aload_n 0, 1) := by decide +kernel
theorem d_Coder_base_18 : decode b_Coder_base 18 = .ok (.getfield 12, 3) := by decide +kernel
theorem d_Coder_base_21 : decode b_Coder_base 21 = .ok (.aload_n 1, 1) := by decide +kernel
theorem d_Coder_base_22 : decode b_Coder_base 22 = .ok (.iload_n 3, 1) := by decide +kernel
theorem d_Coder_base_23 : decode b_Coder_base 23 = .ok (.invokevirtual 38, 3) := by decide +kernel
theorem d_Coder_base_26 : decode b_Coder_base 26 = .ok (.bipush 8, 2) := by decide +kernel
theorem d_Coder_base_28 : decode b_Coder_base 28 = .ok (.invokevirtual 42, 3) := by decide +kernel
theorem d_Coder_base_31 : decode b_Coder_base 31 = .ok (.aload_n 0, 1) := by decide +kernel
theorem d_Coder_base_32 : decode b_Coder_base 32 = .ok (.aload_n 2, 1) := by decide +kernel
theorem d_Coder_base_33 : decode b_Coder_base 33 = .ok (.invokevirtual 46, 3) := by decide +kernel
theorem d_Coder_base_36 : decode b_Coder_base 36 = .ok (.aload_n 0, 1) := by decide +kernel
theorem d_Coder_base_37 : decode b_Coder_base 37 = .ok (.getfield 12, 3) := by decide +kernel
theorem d_Coder_base_40 : decode b_Coder_base 40 = .ok (.bipush 6, 2) := by decide +kernel
theorem d_Coder_base_42 : decode b_Coder_base 42 = .ok (.invokevirtual 50, 3) := by decide +kernel
theorem d_Coder_base_45 : decode b_Coder_base 45 = .ok (.ifCond .eq 8, 3) := by decide +kernel
theorem d_Coder_base_48 : decode b_Coder_base 48 = .ok (.aload_n 0, 1) := by decide +kernel
theorem d_Coder_base_49 : decode b_Coder_base 49 = .ok (.aload_n 2, 1) := by decide +kernel
theorem d_Coder_base_50 : decode b_Coder_base 50 = .ok (.invokevirtual 46, 3) := by decide +kernel
theorem d_Coder_base_53 : decode b_Coder_base 53 = .ok (.iinc 3 1, 3) := by decide +kernel
theorem d_Coder_base_56 : decode b_Coder_base 56 = .ok (.goto (-47), 3) := by decide +kernel
theorem d_Coder_base_59 : decode b_Coder_base 59 = .ok (.aload_n 0, 1) := by decide +kernel
theorem d_Coder_base_60 : decode b_Coder_base 60 = .ok (.getfield 12, 3) := by decide +kernel
theorem d_Coder_base_63 : decode b_Coder_base 63 = .ok (.bipush 6, 2) := by decide +kernel
theorem d_Coder_base_65 : decode b_Coder_base 65 = .ok (.invokevirtual 54, 3) := by decide +kernel
theorem d_Coder_base_68 : decode b_Coder_base 68 = .ok (.aload_n 0, 1) := by decide +kernel
theorem d_Coder_base_69 : decode b_Coder_base 69 = .ok (.getfield 12, 3) := by decide +kernel
theorem d_Coder_base_72 : decode b_Coder_base 72 = .ok (.bipush 6, 2) := by decide +kernel
theorem d_Coder_base_74 : decode b_Coder_base 74 = .ok (.invokevirtual 50, 3) := by decide +kernel
theorem d_Coder_base_77 : decode b_Coder_base 77 = .ok (.ifCond .eq 8, 3) := by decide +kernel
theorem d_Coder_base_80 : decode b_Coder_base 80 = .ok (.aload_n 0, 1) := by decide +kernel
theorem d_Coder_base_81 : decode b_Coder_base 81 = .ok (.aload_n 2, 1) := by decide +kernel
theorem d_Coder_base_82 : decode b_Coder_base 82 = .ok (.invokevirtual 46, 3) := by decide +kernel
theorem d_Coder_base_85 : decode b_Coder_base 85 = .ok (.iconst 4, 1) := by decide +kernel
theorem d_Coder_base_86 : decode b_Coder_base 86 = .ok (.aload_n 0, 1) := by decide +kernel
theorem d_Coder_base_87 : decode b_Coder_base 87 = .ok (.getfield 18, 3) := by decide +kernel
theorem d_Coder_base_90 : decode b_Coder_base 90 = .ok (.iconst 4, 1) := by decide +kernel
theorem d_Coder_base_91 : decode b_Coder_base 91 = .ok (.irem, 1) := by decide +kernel
theorem d_Coder_base_92 : decode b_Coder_base 92 = .ok (.isub, 1) := by decide +kernel
theorem d_Coder_base_93 : decode b_Coder_base 93 = .ok (.iconst 4, 1) := by decide +kernel
theorem d_Coder_base_94 : decode b_Coder_base 94 = .ok (.irem, 1) := by decide +kernel
theorem d_Coder_base_95 : decode b_Coder_base 95 = .ok (.istore_n 3, 1) := by decide +kernel
theorem d_Coder_base_96 : decode b_Coder_base 96 = .ok (.iconst 0, 1) := by decide +kernel
theorem d_Coder_base_97 : decode b_Coder_base 97 = .ok (.istore 4, 2) := by decide +kernel
theorem d_Coder_base_99 : decode b_Coder_base 99 = .ok (.iload 4, 2) := by decide +kernel
theorem d_Coder_base_101 : decode b_Coder_base 101 = .ok (.iload_n 3, 1) := by decide +kernel
theorem d_Coder_base_102 : decode b_Coder_base 102 = .ok (.if_icmp .ge 15, 3) := by decide +kernel
theorem d_Coder_base_105 : decode b_Coder_base 105 = .ok (.aload_n 2, 1) := by decide +kernel
theorem d_Coder_base_106 : decode b_Coder_base 106 = .ok (.bipush 61, 2) := by decide +kernel
theorem d_Coder_base_108 : decode b_Coder_base 108 = .ok (.invokevirtual 58, 3) := by decide +kernel
theorem d_Coder_base_111 : decode b_Coder_base 111 = .ok (.iinc 4 1, 3) := by decide +kernel
theorem d_Coder_base_114 : decode b_Coder_base 114 = .ok (.goto (-15), 3) := by decide +kernel
theorem d_Coder_base_117 : decode b_Coder_base 117 = .ok (.return_, 1) := by decide +kernel
theorem d_Coder_quote_0 : decode b_Coder_quote 0 = .ok (.iconst 0, 1) := by decide +kernel
theorem d_Coder_quote_1 : decode b_Coder_quote 1 = .ok (.istore_n 3, 1) := by decide +kernel
theorem d_Coder_quote_2 : decode b_Coder_quote 2 = .ok (.iload_n 3, 1) := by decide +kernel
theorem d_Coder_quote_3 : decode b_Coder_quote 3 = .ok (.aload_n 1, 1) := by decide +kernel
theorem d_Coder_quote_4 : decode b_Coder_quote 4 = .ok (.invokevirtual 32, 3) := by decide +kernel
theorem d_Coder_quote_7 : decode b_Coder_quote 7 = .ok (.if_icmp .ge 43, 3) := by decide +kernel
theorem d_Coder_quote_10 : decode b_Coder_quote 10 = .ok (.aload_n 1, 1) := by decide +kernel
theorem d_Coder_quote_11 : decode b_Coder_quote 11 = .ok (.iload_n 3, 1) := by decide +kernel
theorem d_Coder_quote_12 : decode b_Coder_quote 12 = .ok (.invokestatic 72, 3) := by decide +kernel
theorem d_Coder_quote_15 : decode b_Coder_quote 15 = .ok (.ifCond .eq 14, 3) := by decide +kernel
theorem d_Coder_quote_18 : decode b_Coder_quote 18 = .ok (.aload_n 0, 1) := by decide +kernel
theorem d_Coder_quote_19 : decode b_Coder_quote 19 = .ok (.aload_n 2, 1) := by decide +kernel
theorem d_Coder_quote_20 : decode b_Coder_quote 20 = .ok (.invokevirtual 61, 3) := by decide +kernel
theorem d_Coder_quote_23 : decode b_Coder_quote 23 = .ok (.iinc 3 1, 3) := by decide +kernel
theorem d_Coder_quote_26 : decode b_Coder_quote 26 = .ok (.goto 18, 3) := by decide +kernel
theorem d_Coder_quote_29 : decode b_Coder_quote 29 = .ok (.aload_n 0, 1) := by decide +kernel
theorem d_Coder_quote_30 : decode b_Coder_quote 30 = .ok (.aload_n 1, 1) := by decide +kernel
theorem d_Coder_quote_31 : decode b_Coder_quote 31 = .ok (.iload_n 3, 1) := by decide +kernel
theorem d_Coder_quote_32 : decode b_Coder_quote 32 = .ok (.invokevirtual 38, 3) := by decide +kernel
theorem d_Coder_quote_35 : decode b_Coder_quote 35 = .ok (.aload_n 1, 1) := by decide +kernel
theorem d_Coder_quote_36 : decode b_Coder_quote 36 = .ok (.iload_n 3, 1) := by decide +kernel
theorem d_Coder_quote_37 : decode b_Coder_quote 37 = .ok (.invokestatic 76, 3) := by decide +kernel
theorem d_Coder_quote_40 : decode b_Coder_quote 40 = .ok (.aload_n 2, 1) := by decide +kernel
theorem d_Coder_quote_41 : decode b_Coder_quote 41 = .ok (.invokevirtual 79, 3) := by decide +kernel
theorem d_Coder_quote_44 : decode b_Coder_quote 44 = .ok (.iinc 3 1, 3) := by decide +kernel
theorem d_Coder_quote_47 : decode b_Coder_quote 47 = .ok (.goto (-45), 3) := by decide +kernel
theorem d_Coder_quote_50 : decode b_Coder_quote 50 = .ok (.return_, 1) := by decide +kernel
theorem d_Names_charsetOf_0 : decode b_Names_charsetOf 0 = .ok (.iconst 0, 1) := by decide +kernel
theorem d_Names_charsetOf_1 : decode b_Names_charsetOf 1 = .ok (.istore_n 3, 1) := by decide +kernel
theorem d_Names_charsetOf_2 : decode b_Names_charsetOf 2 = .ok (.iload_n 3, 1) := by decide +kernel
theorem d_Names_charsetOf_3 : decode b_Names_charsetOf 3 = .ok (.bipush 9, 2) := by decide +kernel
theorem d_Names_charsetOf_5 : decode b_Names_charsetOf 5 = .ok (.if_icmp .gt 24, 3) := by decide +kernel
theorem d_Names_charsetOf_8 : decode b_Names_charsetOf 8 = .ok (.aload_n 0, 1) := by decide +kernel
theorem d_Names_charsetOf_9 : decode b_Names_charsetOf 9 = .ok (.iload_n 1, 1) := by decide +kernel
theorem d_Names_charsetOf_10 : decode b_Names_charsetOf 10 = .ok (.iload_n 2, 1) := by decide +kernel
theorem d_Names_charsetOf_11 : decode b_Names_charsetOf 11 = .ok (.iload_n 3, 1) := by decide +kernel
theorem d_Names_charsetOf_12 : decode b_Names_charsetOf 12 = .ok (.invokestatic 9, 3) := by decide +kernel
theorem d_Names_charsetOf_15 : decode b_Names_charsetOf 15 = .ok (.invokestatic 15, 3) := by decide +kernel
theorem d_Names_charsetOf_18 : decode b_Names_charsetOf 18 = .ok (.ifCond .eq 5, 3) := by decide +kernel
theorem d_Names_charsetOf_21 : decode b_Names_charsetOf 21 = .ok (.iload_n 3, 1) := by decide +kernel
theorem d_Names_charsetOf_22 : decode b_Names_charsetOf 22 = .ok (.ireturn, 1) := by decide +kernel
theorem d_Names_charsetOf_23 : decode b_Names_charsetOf 23 = .ok (.iinc 3 1, 3) := by decide +kernel
theorem d_Names_charsetOf_26 : decode b_Names_charsetOf 26 = .ok (.goto (-24), 3) := by decide +kernel
theorem d_Names_charsetOf_29 : decode b_Names_charsetOf 29 = .ok (.iconst (-1), 1) := by decide +kernel
theorem d_Names_charsetOf_30 : decode b_Names_charsetOf 30 = .ok (.ireturn, 1) := by decide +kernel
theorem d_Word_standsAt_0 : decode b_Word_standsAt 0 = .ok (.aload_n 1, 1) := by decide +kernel
theorem d_Word_standsAt_1 : decode b_Word_standsAt 1 = .ok (.iload_n 2, 1) := by decide +kernel
theorem d_Word_standsAt_2 : decode b_Word_standsAt 2 = .ok (.invokevirtual 9, 3) := by decide +kernel
theorem d_Word_standsAt_5 : decode b_Word_standsAt 5 = .ok (.bipush 61, 2) := by decide +kernel
theorem d_Word_standsAt_7 : decode b_Word_standsAt 7 = .ok (.if_icmp .ne 15, 3) := by decide +kernel
theorem d_Word_standsAt_10 : decode b_Word_standsAt 10 = .ok (.aload_n 1, 1) := by decide +kernel
theorem d_Word_standsAt_11 : decode b_Word_standsAt 11 = .ok (.iload_n 2, 1) := by decide +kernel
theorem d_Word_standsAt_12 : decode b_Word_standsAt 12 = .ok (.iconst 1, 1) := by decide +kernel
theorem d_Word_standsAt_13 : decode b_Word_standsAt 13 = .ok (.iadd, 1) := by decide +kernel
theorem d_Word_standsAt_14 : decode b_Word_standsAt 14 = .ok (.invokevirtual 9, 3) := by decide +kernel
theorem d_Word_standsAt_17 : decode b_Word_standsAt 17 = .ok (.bipush 63, 2) := by decide +kernel
theorem d_Word_standsAt_19 : decode b_Word_standsAt 19 = .ok (.if_icmp .eq 5, 3) := by decide +kernel
theorem d_Word_standsAt_22 : decode b_Word_standsAt 22 = .ok (.iconst 0, 1) := by decide +kernel
theorem d_Word_standsAt_23 : decode b_Word_standsAt 23 = .ok (.ireturn, 1) := by decide +kernel
theorem d_Word_standsAt_24 : decode b_Word_standsAt 24 = .ok (.aload_n 1, 1) := by decide +kernel
theorem d_Word_standsAt_25 : decode b_Word_standsAt 25 = .ok (.iload_n 2, 1) := by decide +kernel
theorem d_Word_standsAt_26 : decode b_Word_standsAt 26 = .ok (.iconst 2, 1) := by decide +kernel
theorem d_Word_standsAt_27 : decode b_Word_standsAt 27 = .ok (.iadd, 1) := by decide +kernel
theorem d_Word_standsAt_28 : decode b_Word_standsAt 28 = .ok (.invokestatic 15, 3) := by decide +kernel
theorem d_Word_standsAt_31 : decode b_Word_standsAt 31 = .ok (.istore_n 3, 1) := by decide +kernel
theorem d_Word_standsAt_32 : decode b_Word_standsAt 32 = .ok (.aload_n 0, 1) := by decide +kernel
theorem d_Word_standsAt_33 : decode b_Word_standsAt 33 = .ok (.aload_n 1, 1) := by decide +kernel
theorem d_Word_standsAt_34 : decode b_Word_standsAt 34 = .ok (.iload_n 3, 1) := by decide +kernel
theorem d_Word_standsAt_35 : decode b_Word_standsAt 35 = .ok (.iconst 1, 1) := by decide +kernel
theorem d_Word_standsAt_36 : decode b_Word_standsAt 36 = .ok (.iadd, 1) := by decide +kernel
theorem d_Word_standsAt_37 : decode b_Word_standsAt 37 = .ok (.invokevirtual 9, 3) := by decide +kernel
theorem d_Word_standsAt_40 : decode b_Word_standsAt 40 = .ok (.invokevirtual 21, 3) := by decide +kernel
theorem d_Word_standsAt_43 : decode b_Word_standsAt 43 = .ok (.ifCond .eq 15, 3) := by decide +kernel
theorem d_Word_standsAt_46 : decode b_Word_standsAt 46 = .ok (.aload_n 1, 1) := by decide +kernel
theorem d_Word_standsAt_47 : decode b_Word_standsAt 47 = .ok (.iload_n 3, 1) := by decide +kernel
theorem d_Word_standsAt_48 : decode b_Word_standsAt 48 = .ok (.iconst 2, 1) := by decide +kernel
theorem d_Word_standsAt_49 : decode b_Word_standsAt 49 = .ok (.iadd, 1) := by decide +kernel
theorem d_Word_standsAt_50 : decode b_Word_standsAt 50 = .ok (.invokevirtual 9, 3) := by decide +kernel
theorem d_Word_standsAt_53 : decode b_Word_standsAt 53 = .ok (.bipush 63, 2) := by decide +kernel
theorem d_Word_standsAt_55 : decode b_Word_standsAt 55 = .ok (.if_icmp .eq 5, 3) := by decide +kernel
theorem d_Word_standsAt_58 : decode b_Word_standsAt 58 = .ok (.iconst 0, 1) := by decide +kernel
theorem d_Word_standsAt_59 : decode b_Word_standsAt 59 = .ok (.ireturn, 1) := by decide +kernel
theorem d_Word_standsAt_60 : decode b_Word_standsAt 60 = .ok (.aload_n 0, 1) := by decide +kernel
theorem d_Word_standsAt_61 : decode b_Word_standsAt 61 = .ok (.iload_n 3, 1) := by decide +kernel
theorem d_Word_standsAt_62 : decode b_Word_standsAt 62 = .ok (.iconst 3, 1) := by decide +kernel
theorem d_Word_standsAt_63 : decode b_Word_standsAt 63 = .ok (.iadd, 1) := by decide +kernel
theorem d_Word_standsAt_64 : decode b_Word_standsAt 64 = .ok (.putfield 25, 3) := by decide +kernel
theorem d_Word_standsAt_67 : decode b_Word_standsAt 67 = .ok (.aload_n 0, 1) := by decide +kernel
theorem d_Word_standsAt_68 : decode b_Word_standsAt 68 = .ok (.aload_n 1, 1) := by decide +kernel
theorem d_Word_standsAt_69 : decode b_Word_standsAt 69 = .ok (.aload_n 0, 1) := by decide +kernel
theorem d_Word_standsAt_70 : decode b_Word_standsAt 70 = .ok (.getfield 25, 3) := by decide +kernel
theorem d_Word_standsAt_73 : decode b_Word_standsAt 73 = .ok (.invokestatic 29, 3) := by decide +kernel
theorem d_Word_standsAt_76 : decode b_Word_standsAt 76 = .ok (.putfield 32, 3) := by decide +kernel
theorem d_Word_standsAt_79 : decode b_Word_standsAt 79 = .ok (.aload_n 0, 1) := by decide +kernel
theorem d_Word_standsAt_80 : decode b_Word_standsAt 80 = .ok (.aload_n 0, 1) := by decide +kernel
theorem d_Word_standsAt_81 : decode b_Word_standsAt 81 = .ok (.getfield 32, 3) := by decide +kernel
theorem d_Word_standsAt_84 : decode b_Word_standsAt 84 = .ok (.iconst 2, 1) := by decide +kernel
theorem d_Word_standsAt_85 : decode b_Word_standsAt 85 = .ok (.iadd, 1) := by decide +kernel
theorem d_Word_standsAt_86 : decode b_Word_standsAt 86 = .ok (.putfield 35, 3) := by decide +kernel
theorem d_Word_standsAt_89 : decode b_Word_standsAt 89 = .ok (.aload_n 1, 1) := by decide +kernel
theorem d_Word_standsAt_90 : decode b_Word_standsAt 90 = .ok (.aload_n 0, 1) := by decide +kernel
theorem d_Word_standsAt_91 : decode b_Word_standsAt 91 = .ok (.getfield 32, 3) := by decide +kernel
theorem d_Word_standsAt_94 : decode b_Word_standsAt 94 = .ok (.invokevirtual 9, 3) := by decide +kernel
theorem d_Word_standsAt_97 : decode b_Word_standsAt 97 = .ok (.bipush 63, 2) := by decide +kernel
theorem d_Word_standsAt_99 : decode b_Word_standsAt 99 = .ok (.if_icmp .ne 18, 3) := by decide +kernel
theorem d_Word_standsAt_102 : decode b_Word_standsAt 102 = .ok (.aload_n 1, 1) := by decide +kernel
theorem d_Word_standsAt_103 : decode b_Word_standsAt 103 = .ok (.aload_n 0, 1) := by decide +kernel
theorem d_Word_standsAt_104 : decode b_Word_standsAt 104 = .ok (.getfield 32, 3) := by decide +kernel
theorem d_Word_standsAt_107 : decode b_Word_standsAt 107 = .ok (.iconst 1, 1) := by decide +kernel
theorem d_Word_standsAt_108 : decode b_Word_standsAt 108 = .ok (.iadd, 1) := by decide +kernel
theorem d_Word_standsAt_109 : decode b_Word_standsAt 109 = .ok (.invokevirtual 9, 3) := by decide +kernel
theorem d_Word_standsAt_112 : decode b_Word_standsAt 112 = .ok (.bipush 61, 2) := by decide +kernel
theorem d_Word_standsAt_114 : decode b_Word_standsAt 114 = .ok (.if_icmp .eq 5, 3) := by decide +kernel
theorem d_Word_standsAt_117 : decode b_Word_standsAt 117 = .ok (.iconst 0, 1) := by decide +kernel
theorem d_Word_standsAt_118 : decode b_Word_standsAt 118 = .ok (.ireturn, 1) := by decide +kernel
theorem d_Word_standsAt_119 : decode b_Word_standsAt 119 = .ok (.aload_n 0, 1) := by decide +kernel
theorem d_Word_standsAt_120 : decode b_Word_standsAt 120 = .ok (.aload_n 1, 1) := by decide +kernel
theorem d_Word_standsAt_121 : decode b_Word_standsAt 121 = .ok (.iload_n 2, 1) := by decide +kernel
theorem d_Word_standsAt_122 : decode b_Word_standsAt 122 = .ok (.iconst 2, 1) := by decide +kernel
theorem d_Word_standsAt_123 : decode b_Word_standsAt 123 = .ok (.iadd, 1) := by decide +kernel
theorem d_Word_standsAt_124 : decode b_Word_standsAt 124 = .ok (.aload_n 1, 1) := by decide +kernel
theorem d_Word_standsAt_125 : decode b_Word_standsAt 125 = .ok (.iload_n 2, 1) := by decide +kernel
theorem d_Word_standsAt_126 : decode b_Word_standsAt 126 = .ok (.iconst 2, 1) := by decide +kernel
theorem d_Word_standsAt_127 : decode b_Word_standsAt 127 = .ok (.iadd, 1) := by decide +kernel
theorem d_Word_standsAt_128 : decode b_Word_standsAt 128 = .ok (.iload_n 3, 1) := by decide +kernel
theorem d_Word_standsAt_129 : decode b_Word_standsAt 129 = .ok (.invokestatic 38, 3) := by decide +kernel
theorem d_Word_standsAt_132 : decode b_Word_standsAt 132 = .ok (.invokestatic 42, 3) := by decide +kernel
theorem d_Word_standsAt_135 : decode b_Word_standsAt 135 = .ok (.putfield 47, 3) := by decide +kernel
theorem d_Word_standsAt_138 : decode b_Word_standsAt 138 = .ok (.aload_n 0, 1) := by decide +kernel
theorem d_Word_standsAt_139 : decode b_Word_standsAt 139 = .ok (.getfield 47, 3) := by decide +kernel
theorem d_Word_standsAt_142 : decode b_Word_standsAt 142 = .ok (.iconst (-1), 1) := by decide +kernel
theorem d_Word_standsAt_143 : decode b_Word_standsAt 143 = .ok (.if_icmp .eq 7, 3) := by decide +kernel
theorem d_Word_standsAt_146 : decode b_Word_standsAt 146 = .ok (.iconst 1, 1) := by decide +kernel
theorem d_Word_standsAt_147 : decode b_Word_standsAt 147 = .ok (.goto 4, 3) := by decide +kernel
theorem d_Word_standsAt_150 : decode b_Word_standsAt 150 = .ok (.iconst 0, 1) := by decide +kernel
theorem d_Word_standsAt_151 : decode b_Word_standsAt 151 = .ok (.ireturn, 1) := by decide +kernel
theorem d_Reader_readUtf16Marked_0 : decode b_Reader_readUtf16Marked 0 = .ok (.iload_n 3, 1) := by decide +kernel
theorem d_Reader_readUtf16Marked_1 : decode b_Reader_readUtf16Marked 1 = .ok (.iload_n 2, 1) := by decide +kernel
theorem d_Reader_readUtf16Marked_2 : decode b_Reader_readUtf16Marked 2 = .ok (.isub, 1) := by decide +kernel
theorem d_Reader_readUtf16Marked_3 : decode b_Reader_readUtf16Marked 3 = .ok (.iconst 2, 1) := by decide +kernel
theorem d_Reader_readUtf16Marked_4 : decode b_Reader_readUtf16Marked 4 = .ok (.if_icmp .lt 11, 3) := by decide +kernel
theorem d_Reader_readUtf16Marked_7 : decode b_Reader_readUtf16Marked 7 = .ok (.aload_n 1, 1) := by decide +kernel
theorem d_Reader_readUtf16Marked_8 : decode b_Reader_readUtf16Marked 8 = .ok (.iload_n 2, 1) := by decide +kernel
theorem d_Reader_readUtf16Marked_9 : decode b_Reader_readUtf16Marked 9 = .ok (.invokevirtual 36, 3) := by decide +kernel
theorem d_Reader_readUtf16Marked_12 : decode b_Reader_readUtf16Marked 12 = .ok (.goto 4, 3) := by decide +kernel
theorem d_Reader_readUtf16Marked_15 : decode b_Reader_readUtf16Marked 15 = .ok (.iconst (-1), 1) := by decide +kernel
theorem d_Reader_readUtf16Marked_16 : decode b_Reader_readUtf16Marked 16 = .ok (.istore 5, 2) := by decide +kernel
theorem d_Reader_readUtf16Marked_18 : decode b_Reader_readUtf16Marked 18 = .ok (.iload_n 3, 1) := by decide +kernel
theorem d_Reader_readUtf16Marked_19 : decode b_Reader_readUtf16Marked 19 = .ok (.iload_n 2, 1) := by decide +kernel
theorem d_Reader_readUtf16Marked_20 : decode b_Reader_readUtf16Marked 20 = .ok (.isub, 1) := by decide +kernel
theorem d_Reader_readUtf16Marked_21 : decode b_Reader_readUtf16Marked 21 = .ok (.iconst 2, 1) := by decide +kernel
theorem d_Reader_readUtf16Marked_22 : decode b_Reader_readUtf16Marked 22 = .ok (.if_icmp .lt 13, 3) := by decide +kernel
theorem d_Reader_readUtf16Marked_25 : decode b_Reader_readUtf16Marked 25 = .ok (.aload_n 1, 1) := by decide +kernel
theorem d_Reader_readUtf16Marked_26 : decode b_Reader_readUtf16Marked 26 = .ok (.iload_n 2, 1) := by decide +kernel
theorem d_Reader_readUtf16Marked_27 : decode b_Reader_readUtf16Marked 27 = .ok (.iconst 1, 1) := by decide +kernel
theorem d_Reader_readUtf16Marked_28 : decode b_Reader_readUtf16Marked 28 = .ok (.iadd, 1) := by decide +kernel
theorem d_Reader_readUtf16Marked_29 : decode b_Reader_readUtf16Marked 29 = .ok (.invokevirtual 36, 3) := by decide +kernel
theorem d_Reader_readUtf16Marked_32 : decode b_Reader_readUtf16Marked 32 = .ok (.goto 4, 3) := by decide +kernel
theorem d_Reader_readUtf16Marked_35 : decode b_Reader_readUtf16Marked 35 = .ok (.iconst (-1), 1) := by decide +kernel
theorem d_Reader_readUtf16Marked_36 : decode b_Reader_readUtf16Marked 36 = .ok (.istore 6, 2) := by decide +kernel
theorem d_Reader_readUtf16Marked_38 : decode b_Reader_readUtf16Marked 38 = .ok (.iload 5, 2) := by decide +kernel
theorem d_Reader_readUtf16Marked_40 : decode b_Reader_readUtf16Marked 40 = .ok (.sipush 254, 3) := by decide +kernel
theorem d_Reader_readUtf16Marked_43 : decode b_Reader_readUtf16Marked 43 = .ok (.if_icmp .ne 26, 3) := by decide +kernel
theorem d_Reader_readUtf16Marked_46 : decode b_Reader_readUtf16Marked 46 = .ok (.iload 6, 2) := by decide +kernel
theorem d_Reader_readUtf16Marked_48 : decode b_Reader_readUtf16Marked 48 = .ok (.sipush 255, 3) := by decide +kernel
theorem d_Reader_readUtf16Marked_51 : decode b_Reader_readUtf16Marked 51 = .ok (.if_icmp .ne 18, 3) := by decide +kernel
theorem d_Reader_readUtf16Marked_54 : decode b_Reader_readUtf16Marked 54 = .ok (.aload_n 0, 1) := by decide +kernel
theorem d_Reader_readUtf16Marked_55 : decode b_Reader_readUtf16Marked 55 = .ok (.aload_n 1, 1) := by decide +kernel
theorem d_Reader_readUtf16Marked_56 : decode b_Reader_readUtf16Marked 56 = .ok (.iload_n 2, 1) := by decide +kernel
theorem d_Reader_readUtf16Marked_57 : decode b_Reader_readUtf16Marked 57 = .ok (.iconst 2, 1) := by decide +kernel
theorem d_Reader_readUtf16Marked_58 : decode b_Reader_readUtf16Marked 58 = .ok (.iadd, 1) := by decide +kernel
theorem d_Reader_readUtf16Marked_59 : decode b_Reader_readUtf16Marked 59 = .ok (.iload_n 3, 1) := by decide +kernel
theorem d_Reader_readUtf16Marked_60 : decode b_Reader_readUtf16Marked 60 = .ok (.iconst 1, 1) := by decide +kernel
theorem d_Reader_readUtf16Marked_61 : decode b_Reader_readUtf16Marked 61 = .ok (.aload 4, 2) := by decide +kernel
theorem d_Reader_readUtf16Marked_63 : decode b_Reader_readUtf16Marked 63 = .ok (.invokevirtual 25, 3) := by decide +kernel
theorem d_Reader_readUtf16Marked_66 : decode b_Reader_readUtf16Marked 66 = .ok (.goto 44, 3) := by decide +kernel
theorem d_Reader_readUtf16Marked_69 : decode b_Reader_readUtf16Marked 69 = .ok (.iload 5, 2) := by decide +kernel
theorem d_Reader_readUtf16Marked_71 : decode b_Reader_readUtf16Marked 71 = .ok (.sipush 255, 3) := by decide +kernel
theorem d_Reader_readUtf16Marked_74 : decode b_Reader_readUtf16Marked 74 = .ok (.if_icmp .ne 26, 3) := by decide +kernel
theorem d_Reader_readUtf16Marked_77 : decode b_Reader_readUtf16Marked 77 = .ok (.iload 6, 2) := by decide +kernel
theorem d_Reader_readUtf16Marked_79 : decode b_Reader_readUtf16Marked 79 = .ok (.sipush 254, 3) := by decide +kernel
theorem d_Reader_readUtf16Marked_82 : decode b_Reader_readUtf16Marked 82 = .ok (.if_icmp .ne 18, 3) := by decide +kernel
theorem d_Reader_readUtf16Marked_85 : decode b_Reader_readUtf16Marked 85 = .ok (.aload_n 0, 1) := by decide +kernel
theorem d_Reader_readUtf16Marked_86 : decode b_Reader_readUtf16Marked 86 = .ok (.aload_n 1, 1) := by decide +kernel
theorem d_Reader_readUtf16Marked_87 : decode b_Reader_readUtf16Marked 87 = .ok (.iload_n 2, 1) := by decide +kernel
theorem d_Reader_readUtf16Marked_88 : decode b_Reader_readUtf16Marked 88 = .ok (.iconst 2, 1) := by decide +kernel
theorem d_Reader_readUtf16Marked_89 : decode b_Reader_readUtf16Marked 89 = .ok (.iadd, 1) := by decide +kernel
theorem d_Reader_readUtf16Marked_90 : decode b_Reader_readUtf16Marked 90 = .ok (.iload_n 3, 1) := by decide +kernel
theorem d_Reader_readUtf16Marked_91 : decode b_Reader_readUtf16Marked 91 = .ok (.iconst 0, 1) := by decide +kernel
theorem d_Reader_readUtf16Marked_92 : decode b_Reader_readUtf16Marked 92 = .ok (.aload 4, 2) := by decide +kernel
theorem d_Reader_readUtf16Marked_94 : decode b_Reader_readUtf16Marked 94 = .ok (.invokevirtual 25, 3) := by decide +kernel
theorem d_Reader_readUtf16Marked_97 : decode b_Reader_readUtf16Marked 97 = .ok (.goto 13, 3) := by decide +kernel
theorem d_Reader_readUtf16Marked_100 : decode b_Reader_readUtf16Marked 100 = .ok (.aload_n 0, 1) := by decide +kernel
theorem d_Reader_readUtf16Marked_101 : decode b_Reader_readUtf16Marked 101 = .ok (.aload_n 1, 1) := by decide +kernel
theorem d_Reader_readUtf16Marked_102 : decode b_Reader_readUtf16Marked 102 = .ok (.iload_n 2, 1) := by decide +kernel
theorem d_Reader_readUtf16Marked_103 : decode b_Reader_readUtf16Marked 103 = .ok (.iload_n 3, 1) := by decide +kernel
theorem d_Reader_readUtf16Marked_104 : decode b_Reader_readUtf16Marked 104 = .ok (.iconst 1, 1) := by decide +kernel
theorem d_Reader_readUtf16Marked_105 : decode b_Reader_readUtf16Marked 105 = .ok (.aload 4, 2) := by decide +kernel
theorem d_Reader_readUtf16Marked_107 : decode b_Reader_readUtf16Marked 107 = .ok (.invokevirtual 25, 3) := by decide +kernel
theorem d_Reader_readUtf16Marked_110 : decode b_Reader_readUtf16Marked 110 = .ok (.return_, 1) := by decide +kernel
theorem d_Uncoder_uncodeInto_0 : decode b_Uncoder_uncodeInto 0 = .ok (.iload_n 2, 1) := by decide +kernel
theorem d_Uncoder_uncodeInto_1 : decode b_Uncoder_uncodeInto 1 = .ok (.iconst 1, 1) := by decide +kernel
theorem d_Uncoder_uncodeInto_2 : decode b_Uncoder_uncodeInto 2 = .ok (.if_icmp .ne 17, 3) := by decide +kernel
theorem d_Uncoder_uncodeInto_5 : decode b_Uncoder_uncodeInto 5 = .ok (.aload_n 0, 1) := by decide +kernel
theorem d_Uncoder_uncodeInto_6 : decode b_Uncoder_uncodeInto 6 = .ok (.aload_n 1, 1) := by decide +kernel
theorem d_Uncoder_uncodeInto_7 : decode b_Uncoder_uncodeInto 7 = .ok (.iconst 0, 1) := by decide +kernel
theorem d_Uncoder_uncodeInto_8 : decode b_Uncoder_uncodeInto 8 = .ok (.aload_n 1, 1) := by decide +kernel
theorem d_Uncoder_uncodeInto_9 : decode b_Uncoder_uncodeInto 9 = .ok (.invokevirtual 25, 3) := by decide +kernel
theorem d_Uncoder_uncodeInto_12 : decode b_Uncoder_uncodeInto 12 = .ok (.aload_n 3, 1) := by decide +kernel
theorem d_Uncoder_uncodeInto_13 : decode b_Uncoder_uncodeInto 13 = .ok (.invokevirtual 31, 3) := by decide +kernel
theorem d_Uncoder_uncodeInto_16 : decode b_Uncoder_uncodeInto 16 = .ok (.goto 23, 3) := by decide +kernel
theorem d_Uncoder_uncodeInto_19 : decode b_Uncoder_uncodeInto 19 = .ok (.iload_n 2, 1) := by decide +kernel
theorem d_Uncoder_uncodeInto_20 : decode b_Uncoder_uncodeInto 20 = .ok (.iconst 2, 1) := by decide +kernel
theorem d_Uncoder_uncodeInto_21 : decode b_Uncoder_uncodeInto 21 = .ok (.if_icmp .ne 12, 3) := by decide +kernel
theorem d_Uncoder_uncodeInto_24 : decode b_Uncoder_uncodeInto 24 = .ok (.aload_n 0, 1) := by decide +kernel
theorem d_Uncoder_uncodeInto_25 : decode b_Uncoder_uncodeInto 25 = .ok (.aload_n 1, 1) := by decide +kernel
theorem d_Uncoder_uncodeInto_26 : decode b_Uncoder_uncodeInto 26 = .ok (.aload_n 3, 1) := by decide +kernel
theorem d_Uncoder_uncodeInto_27 : decode b_Uncoder_uncodeInto 27 = .ok (.invokevirtual 35, 3) := by decide +kernel
theorem d_Uncoder_uncodeInto_30 : decode b_Uncoder_uncodeInto 30 = .ok (.goto 9, 3) := by decide +kernel
theorem d_Uncoder_uncodeInto_33 : decode b_Uncoder_uncodeInto 33 = .ok (.aload_n 0, 1) := by decide +kernel
theorem d_Uncoder_uncodeInto_34 : decode b_Uncoder_uncodeInto 34 = .ok (.aload_n 1, 1) := by decide +kernel
theorem d_Uncoder_uncodeInto_35 : decode b_Uncoder_uncodeInto 35 = .ok (.aload_n 3, 1) := by decide +kernel
theorem d_Uncoder_uncodeInto_36 : decode b_Uncoder_uncodeInto 36 = .ok (.invokevirtual 39, 3) := by decide +kernel
theorem d_Uncoder_uncodeInto_39 : decode b_Uncoder_uncodeInto 39 = .ok (.return_, 1) := by decide +kernel
theorem d_Writer_writeUtf7_0 : decode b_Writer_writeUtf7 0 = .ok (.iconst 0, 1) := by decide +kernel
theorem d_Writer_writeUtf7_1 : decode b_Writer_writeUtf7 1 = .ok (.istore_n 3, 1) := by decide +kernel
theorem d_Writer_writeUtf7_2 : decode b_Writer_writeUtf7 2 = .ok (.iconst 0, 1) := by decide +kernel
theorem d_Writer_writeUtf7_3 : decode b_Writer_writeUtf7 3 = .ok (.istore 4, 2) := by decide +kernel
theorem d_Writer_writeUtf7_5 : decode b_Writer_writeUtf7 5 = .ok (.iload 4, 2) := by decide +kernel
theorem d_Writer_writeUtf7_7 : decode b_Writer_writeUtf7 7 = .ok (.aload_n 1, 1) := by decide +kernel
theorem d_Writer_writeUtf7_8 : decode b_Writer_writeUtf7 8 = .ok (.invokevirtual 28, 3) := by decide +kernel
theorem d_Writer_writeUtf7_11 : decode b_Writer_writeUtf7 11 = .ok (.if_icmp .ge 97, 3) := by decide +kernel
theorem d_Writer_writeUtf7_14 : decode b_Writer_writeUtf7 14 = .ok (.iload 4, 2) := by decide +kernel
theorem d_Writer_writeUtf7_16 : decode b_Writer_writeUtf7 16 = .ok (.iload_n 3, 1) := by decide +kernel
theorem d_Writer_writeUtf7_17 : decode b_Writer_writeUtf7 17 = .ok (.if_icmp .ge 6, 3) := by decide +kernel
theorem d_Writer_writeUtf7_20 : decode b_Writer_writeUtf7 20 = .ok (.goto 82, 3) := by decide +kernel
theorem d_Writer_writeUtf7_23 : decode b_Writer_writeUtf7 23 = .ok (.aload_n 1, 1) := by decide +kernel
theorem d_Writer_writeUtf7_24 : decode b_Writer_writeUtf7 24 = .ok (.iload 4, 2) := by decide +kernel
theorem d_Writer_writeUtf7_26 : decode b_Writer_writeUtf7 26 = .ok (.invokevirtual 32, 3) := by decide +kernel
theorem d_Writer_writeUtf7_29 : decode b_Writer_writeUtf7 29 = .ok (.istore 5, 2) := by decide +kernel
theorem d_Writer_writeUtf7_31 : decode b_Writer_writeUtf7 31 = .ok (.aload_n 1, 1) := by decide +kernel
theorem d_Writer_writeUtf7_32 : decode b_Writer_writeUtf7 32 = .ok (.iload 4, 2) := by decide +kernel
theorem d_Writer_writeUtf7_34 : decode b_Writer_writeUtf7 34 = .ok (.invokestatic 72, 3) := by decide +kernel
theorem d_Writer_writeUtf7_37 : decode b_Writer_writeUtf7 37 = .ok (.istore_n 3, 1) := by decide +kernel
theorem d_Writer_writeUtf7_38 : decode b_Writer_writeUtf7 38 = .ok (.iload_n 3, 1) := by decide +kernel
theorem d_Writer_writeUtf7_39 : decode b_Writer_writeUtf7 39 = .ok (.iload 4, 2) := by decide +kernel
theorem d_Writer_writeUtf7_41 : decode b_Writer_writeUtf7 41 = .ok (.if_icmp .le 7, 3) := by decide +kernel
theorem d_Writer_writeUtf7_44 : decode b_Writer_writeUtf7 44 = .ok (.iconst 1, 1) := by decide +kernel
theorem d_Writer_writeUtf7_45 : decode b_Writer_writeUtf7 45 = .ok (.goto 4, 3) := by decide +kernel
theorem d_Writer_writeUtf7_48 : decode b_Writer_writeUtf7 48 = .ok (.iconst 0, 1) := by decide +kernel
theorem d_Writer_writeUtf7_49 : decode b_Writer_writeUtf7 49 = .ok (.istore 6, 2) := by decide +kernel
theorem d_Writer_writeUtf7_51 : decode b_Writer_writeUtf7 51 = .ok (.aload_n 2, 1) := by decide +kernel
theorem d_Writer_writeUtf7_52 : decode b_Writer_writeUtf7 52 = .ok (.invokevirtual 36, 3) := by decide +kernel
theorem d_Writer_writeUtf7_55 : decode b_Writer_writeUtf7 55 = .ok (.iload 6, 2) := by decide +kernel
theorem d_Writer_writeUtf7_57 : decode b_Writer_writeUtf7 57 = .ok (.ifCond .eq 13, 3) := by decide +kernel
theorem d_Writer_writeUtf7_60 : decode b_Writer_writeUtf7 60 = .ok (.aload_n 1, 1) := by decide +kernel
theorem d_Writer_writeUtf7_61 : decode b_Writer_writeUtf7 61 = .ok (.iload 4, 2) := by decide +kernel
theorem d_Writer_writeUtf7_63 : decode b_Writer_writeUtf7 63 = .ok (.iload_n 3, 1) := by decide +kernel
theorem d_Writer_writeUtf7_64 : decode b_Writer_writeUtf7 64 = .ok (.invokestatic 76, 3) := by decide +kernel
theorem d_Writer_writeUtf7_67 : decode b_Writer_writeUtf7 67 = .ok (.goto 8, 3) := by decide +kernel
theorem d_Writer_writeUtf7_70 : decode b_Writer_writeUtf7 70 = .ok (.iload 5, 2) := by decide +kernel
theorem d_Writer_writeUtf7_72 : decode b_Writer_writeUtf7 72 = .ok (.invokestatic 80, 3) := by decide +kernel
theorem d_Writer_writeUtf7_75 : decode b_Writer_writeUtf7 75 = .ok (.if_icmp .ge 4, 3) := by decide +kernel
theorem d_Writer_writeUtf7_78 : decode b_Writer_writeUtf7 78 = .ok (.return_, 1) := by decide +kernel
theorem d_Writer_writeUtf7_79 : decode b_Writer_writeUtf7 79 = .ok (.iload 6, 2) := by decide +kernel
theorem d_Writer_writeUtf7_81 : decode b_Writer_writeUtf7 81 = .ok (.ifCond .eq 15, 3) := by decide +kernel
theorem d_Writer_writeUtf7_84 : decode b_Writer_writeUtf7 84 = .ok (.aload_n 0, 1) := by decide +kernel
theorem d_Writer_writeUtf7_85 : decode b_Writer_writeUtf7 85 = .ok (.aload_n 1, 1) := by decide +kernel
theorem d_Writer_writeUtf7_86 : decode b_Writer_writeUtf7 86 = .ok (.iload 4, 2) := by decide +kernel
theorem d_Writer_writeUtf7_88 : decode b_Writer_writeUtf7 88 = .ok (.iload_n 3, 1) := by decide +kernel
theorem d_Writer_writeUtf7_89 : decode b_Writer_writeUtf7 89 = .ok (.aload_n 2, 1) := by decide +kernel
theorem d_Writer_writeUtf7_90 : decode b_Writer_writeUtf7 90 = .ok (.invokevirtual 83, 3) := by decide +kernel
theorem d_Writer_writeUtf7_93 : decode b_Writer_writeUtf7 93 = .ok (.goto 9, 3) := by decide +kernel
theorem d_Writer_writeUtf7_96 : decode b_Writer_writeUtf7 96 = .ok (.iload 5, 2) := by decide +kernel
theorem d_Writer_writeUtf7_98 : decode b_Writer_writeUtf7 98 = .ok (.aload_n 2, 1) := by decide +kernel
theorem d_Writer_writeUtf7_99 : decode b_Writer_writeUtf7 99 = .ok (.invokestatic 87, 3) := by decide +kernel
theorem d_Writer_writeUtf7_102 : decode b_Writer_writeUtf7 102 = .ok (.iinc 4 1, 3) := by decide +kernel
theorem d_Writer_writeUtf7_105 : decode b_Writer_writeUtf7 105 = .ok (.goto (-100), 3) := by decide +kernel
theorem d_Writer_writeUtf7_108 : decode b_Writer_writeUtf7 108 = .ok (.return_, 1) := by decide +kernel
theorem d_Writer_writeCharacter_0 : decode b_Writer_writeCharacter 0 = .ok (.iload_n 1, 1) := by decide +kernel
theorem d_Writer_writeCharacter_1 : decode b_Writer_writeCharacter 1 = .ok (.tableswitch 57 4 7 #[31, 39, 39, 48], 31) := by decide +kernel
theorem d_Writer_writeCharacter_32 : decode b_Writer_writeCharacter 32 = .ok (.iload_n 0, 1) := by decide +kernel
theorem d_Writer_writeCharacter_33 : decode b_Writer_writeCharacter 33 = .ok (.aload_n 2, 1) := by decide +kernel
theorem d_Writer_writeCharacter_34 : decode b_Writer_writeCharacter 34 = .ok (.invokestatic 56, 3) := by decide +kernel
theorem d_Writer_writeCharacter_37 : decode b_Writer_writeCharacter 37 = .ok (.goto 30, 3) := by decide +kernel
theorem d_Writer_writeCharacter_40 : decode b_Writer_writeCharacter 40 = .ok (.iload_n 0, 1) := by decide +kernel
theorem d_Writer_writeCharacter_41 : decode b_Writer_writeCharacter 41 = .ok (.iconst 1, 1) := by decide +kernel
theorem d_Writer_writeCharacter_42 : decode b_Writer_writeCharacter 42 = .ok (.aload_n 2, 1) := by decide +kernel
theorem d_Writer_writeCharacter_43 : decode b_Writer_writeCharacter 43 = .ok (.invokestatic 60, 3) := by decide +kernel
theorem d_Writer_writeCharacter_46 : decode b_Writer_writeCharacter 46 = .ok (.goto 21, 3) := by decide +kernel
theorem d_Writer_writeCharacter_49 : decode b_Writer_writeCharacter 49 = .ok (.iload_n 0, 1) := by decide +kernel
theorem d_Writer_writeCharacter_50 : decode b_Writer_writeCharacter 50 = .ok (.iconst 0, 1) := by decide +kernel
theorem d_Writer_writeCharacter_51 : decode b_Writer_writeCharacter 51 = .ok (.aload_n 2, 1) := by decide +kernel
theorem d_Writer_writeCharacter_52 : decode b_Writer_writeCharacter 52 = .ok (.invokestatic 60, 3) := by decide +kernel
theorem d_Writer_writeCharacter_55 : decode b_Writer_writeCharacter 55 = .ok (.goto 12, 3) := by decide +kernel
theorem d_Writer_writeCharacter_58 : decode b_Writer_writeCharacter 58 = .ok (.aload_n 2, 1) := by decide +kernel
theorem d_Writer_writeCharacter_59 : decode b_Writer_writeCharacter 59 = .ok (.iload_n 1, 1) := by decide +kernel
theorem d_Writer_writeCharacter_60 : decode b_Writer_writeCharacter 60 = .ok (.iload_n 0, 1) := by decide +kernel
theorem d_Writer_writeCharacter_61 : decode b_Writer_writeCharacter 61 = .ok (.invokestatic 64, 3) := by decide +kernel
theorem d_Writer_writeCharacter_64 : decode b_Writer_writeCharacter 64 = .ok (.invokevirtual 22, 3) := by decide +kernel
theorem d_Writer_writeCharacter_67 : decode b_Writer_writeCharacter 67 = .ok (.return_, 1) := by decide +kernel
theorem d_Coder_codeInto_0 : decode b_Coder_codeInto 0 = .ok (.aload_n 0, 1) := by decide +kernel
theorem d_Coder_codeInto_1 : decode b_Coder_codeInto 1 = .ok (.iconst 0, 1) := by decide +kernel
theorem d_Coder_codeInto_2 : decode b_Coder_codeInto 2 = .ok (.putfield 18, 3) := by decide +kernel
theorem d_Coder_codeInto_5 : decode b_Coder_codeInto 5 = .ok (.iload_n 2, 1) := by decide +kernel
theorem d_Coder_codeInto_6 : decode b_Coder_codeInto 6 = .ok (.iconst 1, 1) := by decide +kernel
theorem d_Coder_codeInto_7 : decode b_Coder_codeInto 7 = .ok (.if_icmp .ne 12, 3) := by decide +kernel
theorem d_Coder_codeInto_10 : decode b_Coder_codeInto 10 = .ok (.aload_n 0, 1) := by decide +kernel
theorem d_Coder_codeInto_11 : decode b_Coder_codeInto 11 = .ok (.aload_n 1, 1) := by decide +kernel
theorem d_Coder_codeInto_12 : decode b_Coder_codeInto 12 = .ok (.aload_n 3, 1) := by decide +kernel
theorem d_Coder_codeInto_13 : decode b_Coder_codeInto 13 = .ok (.invokevirtual 22, 3) := by decide +kernel
theorem d_Coder_codeInto_16 : decode b_Coder_codeInto 16 = .ok (.goto 9, 3) := by decide +kernel
theorem d_Coder_codeInto_19 : decode b_Coder_codeInto 19 = .ok (.aload_n 0, 1) := by decide +kernel
theorem d_Coder_codeInto_20 : decode b_Coder_codeInto 20 = .ok (.aload_n 1, 1) := by decide +kernel
theorem d_Coder_codeInto_21 : decode b_Coder_codeInto 21 = .ok (.aload_n 3, 1) := by decide +kernel
theorem d_Coder_codeInto_22 : decode b_Coder_codeInto 22 = .ok (.invokevirtual 26, 3) := by decide +kernel
theorem d_Coder_codeInto_25 : decode b_Coder_codeInto 25 = .ok (.return_, 1) := by decide +kernel
theorem d_MC_charset_0 : decode b_MC_charset 0 = .ok (.aload_n 0, 1) := by decide +kernel
theorem d_MC_charset_1 : decode b_MC_charset 1 = .ok (.getfield 57, 3) := by decide +kernel
theorem d_MC_charset_4 : decode b_MC_charset 4 = .ok (.iconst 0, 1) := by decide +kernel
theorem d_MC_charset_5 : decode b_MC_charset 5 = .ok (.aload_n 0, 1) := by decide +kernel
theorem d_MC_charset_6 : decode b_MC_charset 6 = .ok (.getfield 57, 3) := by decide +kernel
theorem d_MC_charset_9 : decode b_MC_charset 9 = .ok (.invokevirtual 74, 3) := by decide +kernel
theorem d_MC_charset_12 : decode b_MC_charset 12 = .ok (.invokestatic 77, 3) := by decide +kernel
theorem d_MC_charset_15 : decode b_MC_charset 15 = .ok (.istore_n 1, 1) := by decide +kernel
theorem d_MC_charset_16 : decode b_MC_charset 16 = .ok (.aload_n 0, 1) := by decide +kernel
theorem d_MC_charset_17 : decode b_MC_charset 17 = .ok (.getfield 57, 3) := by decide +kernel
theorem d_MC_charset_20 : decode b_MC_charset 20 = .ok (.invokevirtual 83, 3) := by decide +kernel
theorem d_MC_charset_23 : decode b_MC_charset 23 = .ok (.iload_n 1, 1) := by decide +kernel
theorem d_MC_charset_24 : decode b_MC_charset 24 = .ok (.ireturn, 1) := by decide +kernel
theorem d_Reader_readInto_0 : decode b_Reader_readInto 0 = .ok (.iload 4, 2) := by decide +kernel
theorem d_Reader_readInto_2 : decode b_Reader_readInto 2 = .ok (.tableswitch 99 4 9 #[38, 49, 61, 74, 99, 87], 38) := by decide +kernel
theorem d_Reader_readInto_40 : decode b_Reader_readInto 40 = .ok (.aload_n 1, 1) := by decide +kernel
theorem d_Reader_readInto_41 : decode b_Reader_readInto 41 = .ok (.iload_n 2, 1) := by decide +kernel
theorem d_Reader_readInto_42 : decode b_Reader_readInto 42 = .ok (.iload_n 3, 1) := by decide +kernel
theorem d_Reader_readInto_43 : decode b_Reader_readInto 43 = .ok (.aload 5, 2) := by decide +kernel
theorem d_Reader_readInto_45 : decode b_Reader_readInto 45 = .ok (.invokestatic 18, 3) := by decide +kernel
theorem d_Reader_readInto_48 : decode b_Reader_readInto 48 = .ok (.goto 63, 3) := by decide +kernel
theorem d_Reader_readInto_51 : decode b_Reader_readInto 51 = .ok (.aload_n 0, 1) := by decide +kernel
theorem d_Reader_readInto_52 : decode b_Reader_readInto 52 = .ok (.aload_n 1, 1) := by decide +kernel
theorem d_Reader_readInto_53 : decode b_Reader_readInto 53 = .ok (.iload_n 2, 1) := by decide +kernel
theorem d_Reader_readInto_54 : decode b_Reader_readInto 54 = .ok (.iload_n 3, 1) := by decide +kernel
theorem d_Reader_readInto_55 : decode b_Reader_readInto 55 = .ok (.aload 5, 2) := by decide +kernel
theorem d_Reader_readInto_57 : decode b_Reader_readInto 57 = .ok (.invokevirtual 22, 3) := by decide +kernel
theorem d_Reader_readInto_60 : decode b_Reader_readInto 60 = .ok (.goto 51, 3) := by decide +kernel
theorem d_Reader_readInto_63 : decode b_Reader_readInto 63 = .ok (.aload_n 0, 1) := by decide +kernel
theorem d_Reader_readInto_64 : decode b_Reader_readInto 64 = .ok (.aload_n 1, 1) := by decide +kernel
theorem d_Reader_readInto_65 : decode b_Reader_readInto 65 = .ok (.iload_n 2, 1) := by decide +kernel
theorem d_Reader_readInto_66 : decode b_Reader_readInto 66 = .ok (.iload_n 3, 1) := by decide +kernel
theorem d_Reader_readInto_67 : decode b_Reader_readInto 67 = .ok (.iconst 1, 1) := by decide +kernel
theorem d_Reader_readInto_68 : decode b_Reader_readInto 68 = .ok (.aload 5, 2) := by decide +kernel
theorem d_Reader_readInto_70 : decode b_Reader_readInto 70 = .ok (.invokevirtual 25, 3) := by decide +kernel
theorem d_Reader_readInto_73 : decode b_Reader_readInto 73 = .ok (.goto 38, 3) := by decide +kernel
theorem d_Reader_readInto_76 : decode b_Reader_readInto 76 = .ok (.aload_n 0, 1) := by decide +kernel
theorem d_Reader_readInto_77 : decode b_Reader_readInto 77 = .ok (.aload_n 1, 1) := by decide +kernel
theorem d_Reader_readInto_78 : decode b_Reader_readInto 78 = .ok (.iload_n 2, 1) := by decide +kernel
theorem d_Reader_readInto_79 : decode b_Reader_readInto 79 = .ok (.iload_n 3, 1) := by decide +kernel
theorem d_Reader_readInto_80 : decode b_Reader_readInto 80 = .ok (.iconst 0, 1) := by decide +kernel
theorem d_Reader_readInto_81 : decode b_Reader_readInto 81 = .ok (.aload 5, 2) := by decide +kernel
theorem d_Reader_readInto_83 : decode b_Reader_readInto 83 = .ok (.invokevirtual 25, 3) := by decide +kernel
theorem d_Reader_readInto_86 : decode b_Reader_readInto 86 = .ok (.goto 25, 3) := by decide +kernel
theorem d_Reader_readInto_89 : decode b_Reader_readInto 89 = .ok (.aload_n 0, 1) := by decide +kernel
theorem d_Reader_readInto_90 : decode b_Reader_readInto 90 = .ok (.aload_n 1, 1) := by decide +kernel
theorem d_Reader_readInto_91 : decode b_Reader_readInto 91 = .ok (.iload_n 2, 1) := by decide +kernel
theorem d_Reader_readInto_92 : decode b_Reader_readInto 92 = .ok (.iload_n 3, 1) := by decide +kernel
theorem d_Reader_readInto_93 : decode b_Reader_readInto 93 = .ok (.aload 5, 2) := by decide +kernel
theorem d_Reader_readInto_95 : decode b_Reader_readInto 95 = .ok (.invokevirtual 29, 3) := by decide +kernel
theorem d_Reader_readInto_98 : decode b_Reader_readInto 98 = .ok (.goto 13, 3) := by decide +kernel
theorem d_Reader_readInto_101 : decode b_Reader_readInto 101 = .ok (.aload_n 1, 1) := by decide +kernel
theorem d_Reader_readInto_102 : decode b_Reader_readInto 102 = .ok (.iload_n 2, 1) := by decide +kernel
theorem d_Reader_readInto_103 : decode b_Reader_readInto 103 = .ok (.iload_n 3, 1) := by decide +kernel
theorem d_Reader_readInto_104 : decode b_Reader_readInto 104 = .ok (.iload 4, 2) := by decide +kernel
theorem d_Reader_readInto_106 : decode b_Reader_readInto 106 = .ok (.aload 5, 2) := by decide +kernel
theorem d_Reader_readInto_108 : decode b_Reader_readInto 108 = .ok (.invokestatic 32, 3) := by decide +kernel
theorem d_Reader_readInto_111 : decode b_Reader_readInto 111 = .ok (.return_, 1) := by decide +kernel
theorem d_MC_readWord_0 : decode b_MC_readWord 0 = .ok (.aload_n 0, 1) := by decide +kernel
theorem d_MC_readWord_1 : decode b_MC_readWord 1 = .ok (.getfield 60, 3) := by decide +kernel
theorem d_MC_readWord_4 : decode b_MC_readWord 4 = .ok (.invokevirtual 83, 3) := by decide +kernel
theorem d_MC_readWord_7 : decode b_MC_readWord 7 = .ok (.aload_n 0, 1) := by decide +kernel
theorem d_MC_readWord_8 : decode b_MC_readWord 8 = .ok (.getfield 25, 3) := by decide +kernel
theorem d_MC_readWord_11 : decode b_MC_readWord 11 = .ok (.aload_n 0, 1) := by decide +kernel
theorem d_MC_readWord_12 : decode b_MC_readWord 12 = .ok (.getfield 57, 3) := by decide +kernel
theorem d_MC_readWord_15 : decode b_MC_readWord 15 = .ok (.aload_n 0, 1) := by decide +kernel
theorem d_MC_readWord_16 : decode b_MC_readWord 16 = .ok (.getfield 53, 3) := by decide +kernel
theorem d_MC_readWord_19 : decode b_MC_readWord 19 = .ok (.aload_n 0, 1) := by decide +kernel
theorem d_MC_readWord_20 : decode b_MC_readWord 20 = .ok (.getfield 60, 3) := by decide +kernel
theorem d_MC_readWord_23 : decode b_MC_readWord 23 = .ok (.invokevirtual 150, 3) := by decide +kernel
theorem d_MC_readWord_26 : decode b_MC_readWord 26 = .ok (.aload_n 0, 1) := by decide +kernel
theorem d_MC_readWord_27 : decode b_MC_readWord 27 = .ok (.getfield 39, 3) := by decide +kernel
theorem d_MC_readWord_30 : decode b_MC_readWord 30 = .ok (.aload_n 0, 1) := by decide +kernel
theorem d_MC_readWord_31 : decode b_MC_readWord 31 = .ok (.getfield 60, 3) := by decide +kernel
theorem d_MC_readWord_34 : decode b_MC_readWord 34 = .ok (.iconst 0, 1) := by decide +kernel
theorem d_MC_readWord_35 : decode b_MC_readWord 35 = .ok (.aload_n 0, 1) := by decide +kernel
theorem d_MC_readWord_36 : decode b_MC_readWord 36 = .ok (.getfield 60, 3) := by decide +kernel
theorem d_MC_readWord_39 : decode b_MC_readWord 39 = .ok (.invokevirtual 74, 3) := by decide +kernel
theorem d_MC_readWord_42 : decode b_MC_readWord 42 = .ok (.aload_n 0, 1) := by decide +kernel
theorem d_MC_readWord_43 : decode b_MC_readWord 43 = .ok (.getfield 53, 3) := by decide +kernel
theorem d_MC_readWord_46 : decode b_MC_readWord 46 = .ok (.getfield 154, 3) := by decide +kernel
theorem d_MC_readWord_49 : decode b_MC_readWord 49 = .ok (.aload_n 0, 1) := by decide +kernel
theorem d_MC_readWord_50 : decode b_MC_readWord 50 = .ok (.getfield 18, 3) := by decide +kernel
theorem d_MC_readWord_53 : decode b_MC_readWord 53 = .ok (.invokevirtual 106, 3) := by decide +kernel
theorem d_MC_readWord_56 : decode b_MC_readWord 56 = .ok (.return_, 1) := by decide +kernel
theorem d_Writer_writeInto_0 : decode b_Writer_writeInto 0 = .ok (.iload_n 2, 1) := by decide +kernel
theorem d_Writer_writeInto_1 : decode b_Writer_writeInto 1 = .ok (.bipush 9, 2) := by decide +kernel
theorem d_Writer_writeInto_3 : decode b_Writer_writeInto 3 = .ok (.if_icmp .ne 10, 3) := by decide +kernel
theorem d_Writer_writeInto_6 : decode b_Writer_writeInto 6 = .ok (.aload_n 0, 1) := by decide +kernel
theorem d_Writer_writeInto_7 : decode b_Writer_writeInto 7 = .ok (.aload_n 1, 1) := by decide +kernel
theorem d_Writer_writeInto_8 : decode b_Writer_writeInto 8 = .ok (.aload_n 3, 1) := by decide +kernel
theorem d_Writer_writeInto_9 : decode b_Writer_writeInto 9 = .ok (.invokevirtual 18, 3) := by decide +kernel
theorem d_Writer_writeInto_12 : decode b_Writer_writeInto 12 = .ok (.return_, 1) := by decide +kernel
theorem d_Writer_writeInto_13 : decode b_Writer_writeInto 13 = .ok (.iload_n 2, 1) := by decide +kernel
theorem d_Writer_writeInto_14 : decode b_Writer_writeInto 14 = .ok (.iconst 5, 1) := by decide +kernel
theorem d_Writer_writeInto_15 : decode b_Writer_writeInto 15 = .ok (.if_icmp .ne 17, 3) := by decide +kernel
theorem d_Writer_writeInto_18 : decode b_Writer_writeInto 18 = .ok (.aload_n 3, 1) := by decide +kernel
theorem d_Writer_writeInto_19 : decode b_Writer_writeInto 19 = .ok (.sipush 254, 3) := by decide +kernel
theorem d_Writer_writeInto_22 : decode b_Writer_writeInto 22 = .ok (.invokevirtual 22, 3) := by decide +kernel
theorem d_Writer_writeInto_25 : decode b_Writer_writeInto 25 = .ok (.aload_n 3, 1) := by decide +kernel
theorem d_Writer_writeInto_26 : decode b_Writer_writeInto 26 = .ok (.sipush 255, 3) := by decide +kernel
theorem d_Writer_writeInto_29 : decode b_Writer_writeInto 29 = .ok (.invokevirtual 22, 3) := by decide +kernel
theorem d_Writer_writeInto_32 : decode b_Writer_writeInto 32 = .ok (.iconst 0, 1) := by decide +kernel
theorem d_Writer_writeInto_33 : decode b_Writer_writeInto 33 = .ok (.istore 4, 2) := by decide +kernel
theorem d_Writer_writeInto_35 : decode b_Writer_writeInto 35 = .ok (.iload 4, 2) := by decide +kernel
theorem d_Writer_writeInto_37 : decode b_Writer_writeInto 37 = .ok (.aload_n 1, 1) := by decide +kernel
theorem d_Writer_writeInto_38 : decode b_Writer_writeInto 38 = .ok (.invokevirtual 28, 3) := by decide +kernel
theorem d_Writer_writeInto_41 : decode b_Writer_writeInto 41 = .ok (.if_icmp .ge 38, 3) := by decide +kernel
theorem d_Writer_writeInto_44 : decode b_Writer_writeInto 44 = .ok (.aload_n 1, 1) := by decide +kernel
theorem d_Writer_writeInto_45 : decode b_Writer_writeInto 45 = .ok (.iload 4, 2) := by decide +kernel
theorem d_Writer_writeInto_47 : decode b_Writer_writeInto 47 = .ok (.invokevirtual 32, 3) := by decide +kernel
theorem d_Writer_writeInto_50 : decode b_Writer_writeInto 50 = .ok (.istore 5, 2) := by decide +kernel
theorem d_Writer_writeInto_52 : decode b_Writer_writeInto 52 = .ok (.aload_n 3, 1) := by decide +kernel
theorem d_Writer_writeInto_53 : decode b_Writer_writeInto 53 = .ok (.invokevirtual 36, 3) := by decide +kernel
theorem d_Writer_writeInto_56 : decode b_Writer_writeInto 56 = .ok (.iload 5, 2) := by decide +kernel
theorem d_Writer_writeInto_58 : decode b_Writer_writeInto 58 = .ok (.iload_n 2, 1) := by decide +kernel
theorem d_Writer_writeInto_59 : decode b_Writer_writeInto 59 = .ok (.invokestatic 39, 3) := by decide +kernel
theorem d_Writer_writeInto_62 : decode b_Writer_writeInto 62 = .ok (.if_icmp .ge 4, 3) := by decide +kernel
theorem d_Writer_writeInto_65 : decode b_Writer_writeInto 65 = .ok (.return_, 1) := by decide +kernel
theorem d_Writer_writeInto_66 : decode b_Writer_writeInto 66 = .ok (.iload 5, 2) := by decide +kernel
theorem d_Writer_writeInto_68 : decode b_Writer_writeInto 68 = .ok (.iload_n 2, 1) := by decide +kernel
theorem d_Writer_writeInto_69 : decode b_Writer_writeInto 69 = .ok (.aload_n 3, 1) := by decide +kernel
theorem d_Writer_writeInto_70 : decode b_Writer_writeInto 70 = .ok (.invokestatic 43, 3) := by decide +kernel
theorem d_Writer_writeInto_73 : decode b_Writer_writeInto 73 = .ok (.iinc 4 1, 3) := by decide +kernel
theorem d_Writer_writeInto_76 : decode b_Writer_writeInto 76 = .ok (.goto (-41), 3) := by decide +kernel
theorem d_Writer_writeInto_79 : decode b_Writer_writeInto 79 = .ok (.return_, 1) := by decide +kernel
theorem d_MC_words_0 : decode b_MC_words 0 = .ok (.aload_n 0, 1) := by decide +kernel
theorem d_MC_words_1 : decode b_MC_words 1 = .ok (.getfield 18, 3) := by decide +kernel
theorem d_MC_words_4 : decode b_MC_words 4 = .ok (.invokevirtual 83, 3) := by decide +kernel
theorem d_MC_words_7 : decode b_MC_words 7 = .ok (.aload_n 0, 1) := by decide +kernel
theorem d_MC_words_8 : decode b_MC_words 8 = .ok (.getfield 57, 3) := by decide +kernel
theorem d_MC_words_11 : decode b_MC_words 11 = .ok (.invokevirtual 74, 3) := by decide +kernel
theorem d_MC_words_14 : decode b_MC_words 14 = .ok (.istore_n 1, 1) := by decide +kernel
theorem d_MC_words_15 : decode b_MC_words 15 = .ok (.iconst 0, 1) := by decide +kernel
theorem d_MC_words_16 : decode b_MC_words 16 = .ok (.istore_n 2, 1) := by decide +kernel
theorem d_MC_words_17 : decode b_MC_words 17 = .ok (.iconst 0, 1) := by decide +kernel
theorem d_MC_words_18 : decode b_MC_words 18 = .ok (.istore_n 3, 1) := by decide +kernel
theorem d_MC_words_19 : decode b_MC_words 19 = .ok (.iconst 0, 1) := by decide +kernel
theorem d_MC_words_20 : decode b_MC_words 20 = .ok (.istore 4, 2) := by decide +kernel
theorem d_MC_words_22 : decode b_MC_words 22 = .ok (.iload 4, 2) := by decide +kernel
theorem d_MC_words_24 : decode b_MC_words 24 = .ok (.iload_n 1, 1) := by decide +kernel
theorem d_MC_words_25 : decode b_MC_words 25 = .ok (.if_icmp .ge 81, 3) := by decide +kernel
theorem d_MC_words_28 : decode b_MC_words 28 = .ok (.iload 4, 2) := by decide +kernel
theorem d_MC_words_30 : decode b_MC_words 30 = .ok (.iload_n 2, 1) := by decide +kernel
theorem d_MC_words_31 : decode b_MC_words 31 = .ok (.if_icmp .lt 69, 3) := by decide +kernel
theorem d_MC_words_34 : decode b_MC_words 34 = .ok (.aload_n 0, 1) := by decide +kernel
theorem d_MC_words_35 : decode b_MC_words 35 = .ok (.getfield 53, 3) := by decide +kernel
theorem d_MC_words_38 : decode b_MC_words 38 = .ok (.aload_n 0, 1) := by decide +kernel
theorem d_MC_words_39 : decode b_MC_words 39 = .ok (.getfield 57, 3) := by decide +kernel
theorem d_MC_words_42 : decode b_MC_words 42 = .ok (.iload 4, 2) := by decide +kernel
theorem d_MC_words_44 : decode b_MC_words 44 = .ok (.invokevirtual 110, 3) := by decide +kernel
theorem d_MC_words_47 : decode b_MC_words 47 = .ok (.ifCond .ne 6, 3) := by decide +kernel
theorem d_MC_words_50 : decode b_MC_words 50 = .ok (.goto 50, 3) := by decide +kernel
theorem d_MC_words_53 : decode b_MC_words 53 = .ok (.iload_n 3, 1) := by decide +kernel
theorem d_MC_words_54 : decode b_MC_words 54 = .ok (.ifCond .eq 13, 3) := by decide +kernel
theorem d_MC_words_57 : decode b_MC_words 57 = .ok (.aload_n 0, 1) := by decide +kernel
theorem d_MC_words_58 : decode b_MC_words 58 = .ok (.iload_n 2, 1) := by decide +kernel
theorem d_MC_words_59 : decode b_MC_words 59 = .ok (.iload 4, 2) := by decide +kernel
theorem d_MC_words_61 : decode b_MC_words 61 = .ok (.invokevirtual 114, 3) := by decide +kernel
theorem d_MC_words_64 : decode b_MC_words 64 = .ok (.ifCond .ne 22, 3) := by decide +kernel
theorem d_MC_words_67 : decode b_MC_words 67 = .ok (.aload_n 0, 1) := by decide +kernel
theorem d_MC_words_68 : decode b_MC_words 68 = .ok (.getfield 39, 3) := by decide +kernel
theorem d_MC_words_71 : decode b_MC_words 71 = .ok (.aload_n 0, 1) := by decide +kernel
theorem d_MC_words_72 : decode b_MC_words 72 = .ok (.getfield 57, 3) := by decide +kernel
theorem d_MC_words_75 : decode b_MC_words 75 = .ok (.iload_n 2, 1) := by decide +kernel
theorem d_MC_words_76 : decode b_MC_words 76 = .ok (.iload 4, 2) := by decide +kernel
theorem d_MC_words_78 : decode b_MC_words 78 = .ok (.iconst 4, 1) := by decide +kernel
theorem d_MC_words_79 : decode b_MC_words 79 = .ok (.aload_n 0, 1) := by decide +kernel
theorem d_MC_words_80 : decode b_MC_words 80 = .ok (.getfield 18, 3) := by decide +kernel
theorem d_MC_words_83 : decode b_MC_words 83 = .ok (.invokevirtual 106, 3) := by decide +kernel
theorem d_MC_words_86 : decode b_MC_words 86 = .ok (.aload_n 0, 1) := by decide +kernel
theorem d_MC_words_87 : decode b_MC_words 87 = .ok (.invokevirtual 118, 3) := by decide +kernel
theorem d_MC_words_90 : decode b_MC_words 90 = .ok (.aload_n 0, 1) := by decide +kernel
theorem d_MC_words_91 : decode b_MC_words 91 = .ok (.getfield 53, 3) := by decide +kernel
theorem d_MC_words_94 : decode b_MC_words 94 = .ok (.getfield 121, 3) := by decide +kernel
theorem d_MC_words_97 : decode b_MC_words 97 = .ok (.istore_n 2, 1) := by decide +kernel
theorem d_MC_words_98 : decode b_MC_words 98 = .ok (.iconst 1, 1) := by decide +kernel
theorem d_MC_words_99 : decode b_MC_words 99 = .ok (.istore_n 3, 1) := by decide +kernel
theorem d_MC_words_100 : decode b_MC_words 100 = .ok (.iinc 4 1, 3) := by decide +kernel
theorem d_MC_words_103 : decode b_MC_words 103 = .ok (.goto (-81), 3) := by decide +kernel
theorem d_MC_words_106 : decode b_MC_words 106 = .ok (.aload_n 0, 1) := by decide +kernel
theorem d_MC_words_107 : decode b_MC_words 107 = .ok (.getfield 39, 3) := by decide +kernel
theorem d_MC_words_110 : decode b_MC_words 110 = .ok (.aload_n 0, 1) := by decide +kernel
theorem d_MC_words_111 : decode b_MC_words 111 = .ok (.getfield 57, 3) := by decide +kernel
theorem d_MC_words_114 : decode b_MC_words 114 = .ok (.iload_n 2, 1) := by decide +kernel
theorem d_MC_words_115 : decode b_MC_words 115 = .ok (.iload_n 1, 1) := by decide +kernel
theorem d_MC_words_116 : decode b_MC_words 116 = .ok (.iconst 4, 1) := by decide +kernel
theorem d_MC_words_117 : decode b_MC_words 117 = .ok (.aload_n 0, 1) := by decide +kernel
theorem d_MC_words_118 : decode b_MC_words 118 = .ok (.getfield 18, 3) := by decide +kernel
theorem d_MC_words_121 : decode b_MC_words 121 = .ok (.invokevirtual 106, 3) := by decide +kernel
theorem d_MC_words_124 : decode b_MC_words 124 = .ok (.aload_n 0, 1) := by decide +kernel
theorem d_MC_words_125 : decode b_MC_words 125 = .ok (.getfield 57, 3) := by decide +kernel
theorem d_MC_words_128 : decode b_MC_words 128 = .ok (.invokevirtual 83, 3) := by decide +kernel
theorem d_MC_words_131 : decode b_MC_words 131 = .ok (.aload_n 0, 1) := by decide +kernel
theorem d_MC_words_132 : decode b_MC_words 132 = .ok (.getfield 18, 3) := by decide +kernel
theorem d_MC_words_135 : decode b_MC_words 135 = .ok (.invokevirtual 74, 3) := by decide +kernel
theorem d_MC_words_138 : decode b_MC_words 138 = .ok (.ireturn, 1) := by decide +kernel
theorem d_MC_init_0 : decode b_MC_init 0 = .ok (.aload_n 0, 1) := by decide +kernel
theorem d_MC_init_1 : decode b_MC_init 1 = .ok (.invokespecial 1, 3) := by decide +kernel
theorem d_MC_init_4 : decode b_MC_init 4 = .ok (.aload_n 0, 1) := by decide +kernel
theorem d_MC_init_5 : decode b_MC_init 5 = .ok (.iconst 5, 1) := by decide +kernel
theorem d_MC_init_6 : decode b_MC_init 6 = .ok (.newarray .int, 2) := by decide +kernel
theorem d_MC_init_8 : decode b_MC_init 8 = .ok (.putfield 9, 3) := by decide +kernel
theorem d_MC_init_11 : decode b_MC_init 11 = .ok (.aload_n 0, 1) := by decide +kernel
theorem d_MC_init_12 : decode b_MC_init 12 = .ok (.new 13, 3) := by decide +kernel
theorem d_MC_init_15 : decode b_MC_init 15 = .ok (.dup, 1) := by decide +kernel
theorem d_MC_init_16 : decode b_MC_init 16 = .ok (.sipush 3000, 3) := by decide +kernel
theorem d_MC_init_19 : decode b_MC_init 19 = .ok (.invokespecial 15, 3) := by decide +kernel
theorem d_MC_init_22 : decode b_MC_init 22 = .ok (.putfield 18, 3) := by decide +kernel
theorem d_MC_init_25 : decode b_MC_init 25 = .ok (.aload_n 0, 1) := by decide +kernel
theorem d_MC_init_26 : decode b_MC_init 26 = .ok (.new 22, 3) := by decide +kernel
theorem d_MC_init_29 : decode b_MC_init 29 = .ok (.dup, 1) := by decide +kernel
theorem d_MC_init_30 : decode b_MC_init 30 = .ok (.invokespecial 24, 3) := by decide +kernel
theorem d_MC_init_33 : decode b_MC_init 33 = .ok (.putfield 25, 3) := by decide +kernel
theorem d_MC_init_36 : decode b_MC_init 36 = .ok (.aload_n 0, 1) := by decide +kernel
theorem d_MC_init_37 : decode b_MC_init 37 = .ok (.new 29, 3) := by decide +kernel
theorem d_MC_init_40 : decode b_MC_init 40 = .ok (.dup, 1) := by decide +kernel
theorem d_MC_init_41 : decode b_MC_init 41 = .ok (.invokespecial 31, 3) := by decide +kernel
theorem d_MC_init_44 : decode b_MC_init 44 = .ok (.putfield 32, 3) := by decide +kernel
theorem d_MC_init_47 : decode b_MC_init 47 = .ok (.aload_n 0, 1) := by decide +kernel
theorem d_MC_init_48 : decode b_MC_init 48 = .ok (.new 36, 3) := by decide +kernel
theorem d_MC_init_51 : decode b_MC_init 51 = .ok (.dup, 1) := by decide +kernel
theorem d_MC_init_52 : decode b_MC_init 52 = .ok (.invokespecial 38, 3) := by decide +kernel
theorem d_MC_init_55 : decode b_MC_init 55 = .ok (.putfield 39, 3) := by decide +kernel
theorem d_MC_init_58 : decode b_MC_init 58 = .ok (.aload_n 0, 1) := by decide +kernel
theorem d_MC_init_59 : decode b_MC_init 59 = .ok (.new 43, 3) := by decide +kernel
theorem d_MC_init_62 : decode b_MC_init 62 = .ok (.dup, 1) := by decide +kernel
theorem d_MC_init_63 : decode b_MC_init 63 = .ok (.invokespecial 45, 3) := by decide +kernel
theorem d_MC_init_66 : decode b_MC_init 66 = .ok (.putfield 46, 3) := by decide +kernel
theorem d_MC_init_69 : decode b_MC_init 69 = .ok (.aload_n 0, 1) := by decide +kernel
theorem d_MC_init_70 : decode b_MC_init 70 = .ok (.new 50, 3) := by decide +kernel
theorem d_MC_init_73 : decode b_MC_init 73 = .ok (.dup, 1) := by decide +kernel
theorem d_MC_init_74 : decode b_MC_init 74 = .ok (.invokespecial 52, 3) := by decide +kernel
theorem d_MC_init_77 : decode b_MC_init 77 = .ok (.putfield 53, 3) := by decide +kernel
theorem d_MC_init_80 : decode b_MC_init 80 = .ok (.aload_n 0, 1) := by decide +kernel
theorem d_MC_init_81 : decode b_MC_init 81 = .ok (.new 13, 3) := by decide +kernel
theorem d_MC_init_84 : decode b_MC_init 84 = .ok (.dup, 1) := by decide +kernel
theorem d_MC_init_85 : decode b_MC_init 85 = .ok (.sipush 1500, 3) := by decide +kernel
theorem d_MC_init_88 : decode b_MC_init 88 = .ok (.invokespecial 15, 3) := by decide +kernel
theorem d_MC_init_91 : decode b_MC_init 91 = .ok (.putfield 57, 3) := by decide +kernel
theorem d_MC_init_94 : decode b_MC_init 94 = .ok (.aload_n 0, 1) := by decide +kernel
theorem d_MC_init_95 : decode b_MC_init 95 = .ok (.new 13, 3) := by decide +kernel
theorem d_MC_init_98 : decode b_MC_init 98 = .ok (.dup, 1) := by decide +kernel
theorem d_MC_init_99 : decode b_MC_init 99 = .ok (.sipush 1500, 3) := by decide +kernel
theorem d_MC_init_102 : decode b_MC_init 102 = .ok (.invokespecial 15, 3) := by decide +kernel
theorem d_MC_init_105 : decode b_MC_init 105 = .ok (.putfield 60, 3) := by decide +kernel
theorem d_MC_init_108 : decode b_MC_init 108 = .ok (.return_, 1) := by decide +kernel
theorem d_Row_init_0 : decode b_Row_init 0 = .ok (.aload_n 0, 1) := by decide +kernel
theorem d_Row_init_1 : decode b_Row_init 1 = .ok (.invokespecial 3, 3) := by decide +kernel
theorem d_Row_init_4 : decode b_Row_init 4 = .ok (.aload_n 0, 1) := by decide +kernel
theorem d_Row_init_5 : decode b_Row_init 5 = .ok (.iconst 0, 1) := by decide +kernel
theorem d_Row_init_6 : decode b_Row_init 6 = .ok (.iload_n 1, 1) := by decide +kernel
theorem d_Row_init_7 : decode b_Row_init 7 = .ok (.invokestatic 9, 3) := by decide +kernel
theorem d_Row_init_10 : decode b_Row_init 10 = .ok (.newarray .int, 2) := by decide +kernel
theorem d_Row_init_12 : decode b_Row_init 12 = .ok (.putfield 15, 3) := by decide +kernel
theorem d_Row_init_15 : decode b_Row_init 15 = .ok (.return_, 1) := by decide +kernel
theorem d_Uncoder_init_0 : decode b_Uncoder_init 0 = .ok (.aload_n 0, 1) := by decide +kernel
theorem d_Uncoder_init_1 : decode b_Uncoder_init 1 = .ok (.invokespecial 3, 3) := by decide +kernel
theorem d_Uncoder_init_4 : decode b_Uncoder_init 4 = .ok (.aload_n 0, 1) := by decide +kernel
theorem d_Uncoder_init_5 : decode b_Uncoder_init 5 = .ok (.new 9, 3) := by decide +kernel
theorem d_Uncoder_init_8 : decode b_Uncoder_init 8 = .ok (.dup, 1) := by decide +kernel
theorem d_Uncoder_init_9 : decode b_Uncoder_init 9 = .ok (.invokespecial 11, 3) := by decide +kernel
theorem d_Uncoder_init_12 : decode b_Uncoder_init 12 = .ok (.putfield 12, 3) := by decide +kernel
theorem d_Uncoder_init_15 : decode b_Uncoder_init 15 = .ok (.aload_n 0, 1) := by decide +kernel
theorem d_Uncoder_init_16 : decode b_Uncoder_init 16 = .ok (.new 18, 3) := by decide +kernel
theorem d_Uncoder_init_19 : decode b_Uncoder_init 19 = .ok (.dup, 1) := by decide +kernel
theorem d_Uncoder_init_20 : decode b_Uncoder_init 20 = .ok (.invokespecial 20, 3) := by decide +kernel
theorem d_Uncoder_init_23 : decode b_Uncoder_init 23 = .ok (.putfield 21, 3) := by decide +kernel
theorem d_Uncoder_init_26 : decode b_Uncoder_init 26 = .ok (.return_, 1) := by decide +kernel
theorem d_Bits_init_0 : decode b_Bits_init 0 = .ok (.aload_n 0, 1) := by decide +kernel
theorem d_Bits_init_1 : decode b_Bits_init 1 = .ok (.invokespecial 1, 3) := by decide +kernel
theorem d_Bits_init_4 : decode b_Bits_init 4 = .ok (.return_, 1) := by decide +kernel
theorem d_Line_init_0 : decode b_Line_init 0 = .ok (.aload_n 0, 1) := by decide +kernel
theorem d_Line_init_1 : decode b_Line_init 1 = .ok (.invokespecial 3, 3) := by decide +kernel
theorem d_Line_init_4 : decode b_Line_init 4 = .ok (.return_, 1) := by decide +kernel
theorem d_Coder_init_0 : decode b_Coder_init 0 = .ok (.aload_n 0, 1) := by decide +kernel
theorem d_Coder_init_1 : decode b_Coder_init 1 = .ok (.invokespecial 3, 3) := by decide +kernel
theorem d_Coder_init_4 : decode b_Coder_init 4 = .ok (.aload_n 0, 1) := by decide +kernel
theorem d_Coder_init_5 : decode b_Coder_init 5 = .ok (.new 9, 3) := by decide +kernel
theorem d_Coder_init_8 : decode b_Coder_init 8 = .ok (.dup, 1) := by decide +kernel
theorem d_Coder_init_9 : decode b_Coder_init 9 = .ok (.invokespecial 11, 3) := by decide +kernel
theorem d_Coder_init_12 : decode b_Coder_init 12 = .ok (.putfield 12, 3) := by decide +kernel
theorem d_Coder_init_15 : decode b_Coder_init 15 = .ok (.return_, 1) := by decide +kernel
theorem d_Reader_init_0 : decode b_Reader_init 0 = .ok (.aload_n 0, 1) := by decide +kernel
theorem d_Reader_init_1 : decode b_Reader_init 1 = .ok (.invokespecial 3, 3) := by decide +kernel
theorem d_Reader_init_4 : decode b_Reader_init 4 = .ok (.aload_n 0, 1) := by decide +kernel
theorem d_Reader_init_5 : decode b_Reader_init 5 = .ok (.new 9, 3) := by decide +kernel
theorem d_Reader_init_8 : decode b_Reader_init 8 = .ok (.dup, 1) := by decide +kernel
theorem d_Reader_init_9 : decode b_Reader_init 9 = .ok (.invokespecial 11, 3) := by decide +kernel
theorem d_Reader_init_12 : decode b_Reader_init 12 = .ok (.putfield 12, 3) := by decide +kernel
theorem d_Reader_init_15 : decode b_Reader_init 15 = .ok (.return_, 1) := by decide +kernel
theorem d_Writer_init_0 : decode b_Writer_init 0 = .ok (.aload_n 0, 1) := by decide +kernel
theorem d_Writer_init_1 : decode b_Writer_init 1 = .ok (.invokespecial 3, 3) := by decide +kernel
theorem d_Writer_init_4 : decode b_Writer_init 4 = .ok (.aload_n 0, 1) := by decide +kernel
theorem d_Writer_init_5 : decode b_Writer_init 5 = .ok (.new 9, 3) := by decide +kernel
theorem d_Writer_init_8 : decode b_Writer_init 8 = .ok (.dup, 1) := by decide +kernel
theorem d_Writer_init_9 : decode b_Writer_init 9 = .ok (.invokespecial 11, 3) := by decide +kernel
theorem d_Writer_init_12 : decode b_Writer_init 12 = .ok (.putfield 12, 3) := by decide +kernel
theorem d_Writer_init_15 : decode b_Writer_init 15 = .ok (.return_, 1) := by decide +kernel
theorem d_Word_init_0 : decode b_Word_init 0 = .ok (.aload_n 0, 1) := by decide +kernel
theorem d_Word_init_1 : decode b_Word_init 1 = .ok (.invokespecial 3, 3) := by decide +kernel
theorem d_Word_init_4 : decode b_Word_init 4 = .ok (.return_, 1) := by decide +kernel
theorem d_MC_uncode_0 : decode b_MC_uncode 0 = .ok (.iload_n 1, 1) := by decide +kernel
theorem d_MC_uncode_1 : decode b_MC_uncode 1 = .ok (.ifCond .lt 8, 3) := by decide +kernel
theorem d_MC_uncode_4 : decode b_MC_uncode 4 = .ok (.iload_n 1, 1) := by decide +kernel
theorem d_MC_uncode_5 : decode b_MC_uncode 5 = .ok (.iconst 3, 1) := by decide +kernel
theorem d_MC_uncode_6 : decode b_MC_uncode 6 = .ok (.if_icmp .le 13, 3) := by decide +kernel
theorem d_MC_uncode_9 : decode b_MC_uncode 9 = .ok (.new 86, 3) := by decide +kernel
theorem d_MC_uncode_12 : decode b_MC_uncode 12 = .ok (.dup, 1) := by decide +kernel
theorem d_MC_uncode_13 : decode b_MC_uncode 13 = .ok (.ldc 88, 2) := by decide +kernel
theorem d_MC_uncode_15 : decode b_MC_uncode 15 = .ok (.invokespecial 90, 3) := by decide +kernel
theorem d_MC_uncode_18 : decode b_MC_uncode 18 = .ok (.athrow, 1) := by decide +kernel
theorem d_MC_uncode_19 : decode b_MC_uncode 19 = .ok (.iload_n 1, 1) := by decide +kernel
theorem d_MC_uncode_20 : decode b_MC_uncode 20 = .ok (.ifCond .eq 30, 3) := by decide +kernel
theorem d_MC_uncode_23 : decode b_MC_uncode 23 = .ok (.aload_n 0, 1) := by decide +kernel
theorem d_MC_uncode_24 : decode b_MC_uncode 24 = .ok (.getfield 60, 3) := by decide +kernel
theorem d_MC_uncode_27 : decode b_MC_uncode 27 = .ok (.invokevirtual 83, 3) := by decide +kernel
theorem d_MC_uncode_30 : decode b_MC_uncode 30 = .ok (.aload_n 0, 1) := by decide +kernel
theorem d_MC_uncode_31 : decode b_MC_uncode 31 = .ok (.getfield 25, 3) := by decide +kernel
theorem d_MC_uncode_34 : decode b_MC_uncode 34 = .ok (.aload_n 0, 1) := by decide +kernel
theorem d_MC_uncode_35 : decode b_MC_uncode 35 = .ok (.getfield 57, 3) := by decide +kernel
theorem d_MC_uncode_38 : decode b_MC_uncode 38 = .ok (.iload_n 1, 1) := by decide +kernel
theorem d_MC_uncode_39 : decode b_MC_uncode 39 = .ok (.aload_n 0, 1) := by decide +kernel
theorem d_MC_uncode_40 : decode b_MC_uncode 40 = .ok (.getfield 60, 3) := by decide +kernel
theorem d_MC_uncode_43 : decode b_MC_uncode 43 = .ok (.invokevirtual 93, 3) := by decide +kernel
theorem d_MC_uncode_46 : decode b_MC_uncode 46 = .ok (.aload_n 0, 1) := by decide +kernel
theorem d_MC_uncode_47 : decode b_MC_uncode 47 = .ok (.invokevirtual 97, 3) := by decide +kernel
theorem d_MC_uncode_50 : decode b_MC_uncode 50 = .ok (.aload_n 0, 1) := by decide +kernel
theorem d_MC_uncode_51 : decode b_MC_uncode 51 = .ok (.getfield 57, 3) := by decide +kernel
theorem d_MC_uncode_54 : decode b_MC_uncode 54 = .ok (.invokevirtual 74, 3) := by decide +kernel
theorem d_MC_uncode_57 : decode b_MC_uncode 57 = .ok (.ireturn, 1) := by decide +kernel
theorem d_MC_read_0 : decode b_MC_read 0 = .ok (.iload_n 1, 1) := by decide +kernel
theorem d_MC_read_1 : decode b_MC_read 1 = .ok (.invokestatic 100, 3) := by decide +kernel
theorem d_MC_read_4 : decode b_MC_read 4 = .ok (.ifCond .ne 13, 3) := by decide +kernel
theorem d_MC_read_7 : decode b_MC_read 7 = .ok (.new 86, 3) := by decide +kernel
theorem d_MC_read_10 : decode b_MC_read 10 = .ok (.dup, 1) := by decide +kernel
theorem d_MC_read_11 : decode b_MC_read 11 = .ok (.ldc 104, 2) := by decide +kernel
theorem d_MC_read_13 : decode b_MC_read 13 = .ok (.invokespecial 90, 3) := by decide +kernel
theorem d_MC_read_16 : decode b_MC_read 16 = .ok (.athrow, 1) := by decide +kernel
theorem d_MC_read_17 : decode b_MC_read 17 = .ok (.aload_n 0, 1) := by decide +kernel
theorem d_MC_read_18 : decode b_MC_read 18 = .ok (.getfield 18, 3) := by decide +kernel
theorem d_MC_read_21 : decode b_MC_read 21 = .ok (.invokevirtual 83, 3) := by decide +kernel
theorem d_MC_read_24 : decode b_MC_read 24 = .ok (.aload_n 0, 1) := by decide +kernel
theorem d_MC_read_25 : decode b_MC_read 25 = .ok (.getfield 39, 3) := by decide +kernel
theorem d_MC_read_28 : decode b_MC_read 28 = .ok (.aload_n 0, 1) := by decide +kernel
theorem d_MC_read_29 : decode b_MC_read 29 = .ok (.getfield 57, 3) := by decide +kernel
theorem d_MC_read_32 : decode b_MC_read 32 = .ok (.iconst 0, 1) := by decide +kernel
theorem d_MC_read_33 : decode b_MC_read 33 = .ok (.aload_n 0, 1) := by decide +kernel
theorem d_MC_read_34 : decode b_MC_read 34 = .ok (.getfield 57, 3) := by decide +kernel
theorem d_MC_read_37 : decode b_MC_read 37 = .ok (.invokevirtual 74, 3) := by decide +kernel
theorem d_MC_read_40 : decode b_MC_read 40 = .ok (.iload_n 1, 1) := by decide +kernel
theorem d_MC_read_41 : decode b_MC_read 41 = .ok (.aload_n 0, 1) := by decide +kernel
theorem d_MC_read_42 : decode b_MC_read 42 = .ok (.getfield 18, 3) := by decide +kernel
theorem d_MC_read_45 : decode b_MC_read 45 = .ok (.invokevirtual 106, 3) := by decide +kernel
theorem d_MC_read_48 : decode b_MC_read 48 = .ok (.aload_n 0, 1) := by decide +kernel
theorem d_MC_read_49 : decode b_MC_read 49 = .ok (.getfield 57, 3) := by decide +kernel
theorem d_MC_read_52 : decode b_MC_read 52 = .ok (.invokevirtual 83, 3) := by decide +kernel
theorem d_MC_read_55 : decode b_MC_read 55 = .ok (.aload_n 0, 1) := by decide +kernel
theorem d_MC_read_56 : decode b_MC_read 56 = .ok (.getfield 18, 3) := by decide +kernel
theorem d_MC_read_59 : decode b_MC_read 59 = .ok (.invokevirtual 74, 3) := by decide +kernel
theorem d_MC_read_62 : decode b_MC_read 62 = .ok (.ireturn, 1) := by decide +kernel
theorem d_MC_write_0 : decode b_MC_write 0 = .ok (.iload_n 1, 1) := by decide +kernel
theorem d_MC_write_1 : decode b_MC_write 1 = .ok (.invokestatic 100, 3) := by decide +kernel
theorem d_MC_write_4 : decode b_MC_write 4 = .ok (.ifCond .ne 13, 3) := by decide +kernel
theorem d_MC_write_7 : decode b_MC_write 7 = .ok (.new 86, 3) := by decide +kernel
theorem d_MC_write_10 : decode b_MC_write 10 = .ok (.dup, 1) := by decide +kernel
theorem d_MC_write_11 : decode b_MC_write 11 = .ok (.ldc 104, 2) := by decide +kernel
theorem d_MC_write_13 : decode b_MC_write 13 = .ok (.invokespecial 90, 3) := by decide +kernel
theorem d_MC_write_16 : decode b_MC_write 16 = .ok (.athrow, 1) := by decide +kernel
theorem d_MC_write_17 : decode b_MC_write 17 = .ok (.aload_n 0, 1) := by decide +kernel
theorem d_MC_write_18 : decode b_MC_write 18 = .ok (.getfield 57, 3) := by decide +kernel
theorem d_MC_write_21 : decode b_MC_write 21 = .ok (.invokevirtual 83, 3) := by decide +kernel
theorem d_MC_write_24 : decode b_MC_write 24 = .ok (.aload_n 0, 1) := by decide +kernel
theorem d_MC_write_25 : decode b_MC_write 25 = .ok (.getfield 46, 3) := by decide +kernel
theorem d_MC_write_28 : decode b_MC_write 28 = .ok (.aload_n 0, 1) := by decide +kernel
theorem d_MC_write_29 : decode b_MC_write 29 = .ok (.getfield 18, 3) := by decide +kernel
theorem d_MC_write_32 : decode b_MC_write 32 = .ok (.iload_n 1, 1) := by decide +kernel
theorem d_MC_write_33 : decode b_MC_write 33 = .ok (.aload_n 0, 1) := by decide +kernel
theorem d_MC_write_34 : decode b_MC_write 34 = .ok (.getfield 57, 3) := by decide +kernel
theorem d_MC_write_37 : decode b_MC_write 37 = .ok (.invokevirtual 125, 3) := by decide +kernel
theorem d_MC_write_40 : decode b_MC_write 40 = .ok (.aload_n 0, 1) := by decide +kernel
theorem d_MC_write_41 : decode b_MC_write 41 = .ok (.getfield 57, 3) := by decide +kernel
theorem d_MC_write_44 : decode b_MC_write 44 = .ok (.invokevirtual 74, 3) := by decide +kernel
theorem d_MC_write_47 : decode b_MC_write 47 = .ok (.ireturn, 1) := by decide +kernel
end
section
def rm_Row_empty : Room := { frames := 0, cells := 0, slots := 0, locals := 0 }
set_option maxHeartbeats 4000000 in
set_option maxRecDepth 100000 in
theorem c_Row_empty (l : Launch) (D : va_G) (Z : gZT) (kI : ClassId) (a0 b0 n0 sz : Nat) (f0 : Nat → Int32) (l0 : List Int32) (o0 : Int32) (hr0 : g_rw n0 f0 l0) : gMv l y_Row_empty w_Row_empty rm_Row_empty D Z kI [.ref a0] sz [(a0, .inr (4, [.ref b0, .int (nI l0.length), .int o0])), (b0, .inl (kI, n0, .inl f0))] (fun (u : (Nat → Int32) × List Int32 × Int32) => m_Row_empty  = (u.2.1, u.2.2) ∧ g_rw n0 u.1 u.2.1) (fun (u : (Nat → Int32) × List Int32 × Int32) => ([(a0, .inr (4, [.ref b0, .int (nI u.2.1.length), .int u.2.2])), (b0, .inl (kI, n0, .inl u.1))] : va_W)) := by
  refine g_ofv (cc := b_Row_empty) (maxL := 1) (by decide) rfl (Nat.le_of_ble_eq_true rfl) ?_
  intro p e s m below meth c A Q H ls hx hb hml hown hts hA hK hZ hP hD hS hl hret
  have hown : s.vm.findClass "MailCharacters$Row" = some m.cls := hown
  have hl : lv_has ls 1 [(0, .ref a0)] := hl
  refine lv_aload_n hx hb d_Row_empty_0 rfl (lv_at hl 0 rfl) ?_
  refine lv_iconst (v := 0) hx hb d_Row_empty_1 (by decide) ?_
  refine va_put (D := D) (ci := 4) (v := .int 0) (ty := .int) (C := "MailCharacters$Row") (T := F_Row) (N := 3) hx hb hts i_Row t_Row t_Row_ok n_Row hown hK hP hD hS 0 rfl rfl 1 (by decide) (hts _ k_108) (fun _ h9 => h9) rfl (by decide +kernel) rfl rfl (Nat.le_of_ble_eq_true rfl) d_Row_empty_2 (fun H locs hP hD hS => ?_)
  have hP : va_P D vwCl [(a0, .inr (4, [.ref b0, .int 0, .int o0])), (b0, .inl (kI, n0, .inl f0))] H := hP
  have hD : va_D A [(a0, .inr (4, [.ref b0, .int 0, .int o0])), (b0, .inl (kI, n0, .inl f0))] := hD
  refine lv_aload_n hx hb d_Row_empty_5 rfl (lv_at hl 0 rfl) ?_
  refine lv_iconst (v := 0) hx hb d_Row_empty_6 (by decide) ?_
  refine va_put (D := D) (ci := 4) (v := .int 0) (ty := .boolean) (C := "MailCharacters$Row") (T := F_Row) (N := 3) hx hb hts i_Row t_Row t_Row_ok n_Row hown hK hP hD hS 0 rfl rfl 2 (by decide) (hts _ k_109) (fun _ h9 => h9) rfl (by decide +kernel) rfl rfl (Nat.le_of_ble_eq_true rfl) d_Row_empty_7 (fun H locs hP hD hS => ?_)
  have hP : va_P D vwCl [(a0, .inr (4, [.ref b0, .int 0, .int 0])), (b0, .inl (kI, n0, .inl f0))] H := hP
  have hD : va_D A [(a0, .inr (4, [.ref b0, .int 0, .int 0])), (b0, .inl (kI, n0, .inl f0))] := hD
  exact hret (f0, [], 0) _ _ _ _ d_Row_empty_10 ⟨rfl, Nat.zero_le _, hr0.2.1, fun i h => absurd h (Nat.not_lt_zero i)⟩ hP hD hS
theorem cw_Row_empty {R : Room} {s : State} {args : Array Value} {own : String} {idx : Nat} (hts : ∀ w ∈ gW, w.before args s = true) (hl : Cond.methodLink own idx y_Row_empty ∈ gW) (hR : rm_Row_empty.frames + 1 ≤ R.frames ∧ 8 + (1 + 11) + rm_Row_empty.locals ≤ R.locals) : CallW R s args own "MailCharacters$Row" idx y_Row_empty b_Row_empty 1 none w_Row_empty rm_Row_empty 0 0 0 := cwV 0 hts (gW_V hl k_368 k_369 k_68 k_370) rfl rfl rfl (by decide +kernel) hR
def rm_Row_put : Room := { frames := 0, cells := 0, slots := 0, locals := 0 }
set_option maxHeartbeats 4000000 in
set_option maxRecDepth 100000 in
theorem c_Row_put (l : Launch) (D : va_G) (Z : gZT) (kI : ClassId) (a0 b0 n0 sz : Nat) (f0 : Nat → Int32) (l0 : List Int32) (o0 : Int32) (p1 : Int32) (hr0 : g_rw n0 f0 l0) : gMv l y_Row_put w_Row_put rm_Row_put D Z kI [.ref a0, .int p1] sz [(a0, .inr (4, [.ref b0, .int (nI l0.length), .int o0])), (b0, .inl (kI, n0, .inl f0))] (fun (u : (Nat → Int32) × List Int32 × Int32) => m_Row_put n0 l0 o0 p1 = (u.2.1, u.2.2) ∧ g_rw n0 u.1 u.2.1) (fun (u : (Nat → Int32) × List Int32 × Int32) => ([(a0, .inr (4, [.ref b0, .int (nI u.2.1.length), .int u.2.2])), (b0, .inl (kI, n0, .inl u.1))] : va_W)) := by
  refine g_ofv (cc := b_Row_put) (maxL := 2) (by decide) rfl (Nat.le_of_ble_eq_true rfl) ?_
  intro p e s m below meth c A Q H ls hx hb hml hown hts hA hK hZ hP hD hS hl hret
  have hown : s.vm.findClass "MailCharacters$Row" = some m.cls := hown
  have hl : lv_has ls 2 [(0, .ref a0), (1, .int p1)] := hl
  refine lv_aload_n hx hb d_Row_put_0 rfl (lv_at hl 0 rfl) ?_
  refine va_get (D := D) (ci := 4) (v := .int (nI l0.length)) (C := "MailCharacters$Row") (T := F_Row) (N := 3) hx hb hts i_Row hown hK hP 0 rfl rfl 1 (by decide) (hts _ k_108) (fun _ h9 => h9) rfl d_Row_put_1 ?_
  refine lv_if_lt (tgt := 42) hx hb d_Row_put_4 (by decide) (fun c_1 => ?_) (fun c_1 => ?_)
  · have c_1 := c_1
    refine lv_aload_n hx hb d_Row_put_42 rfl (lv_at hl 0 rfl) ?_
    refine lv_iconst (v := 1) hx hb d_Row_put_43 (by decide) ?_
    refine va_put (D := D) (ci := 4) (v := .int 1) (ty := .boolean) (C := "MailCharacters$Row") (T := F_Row) (N := 3) hx hb hts i_Row t_Row t_Row_ok n_Row hown hK hP hD hS 0 rfl rfl 2 (by decide) (hts _ k_109) (fun _ h9 => h9) rfl (by decide +kernel) rfl rfl (Nat.le_of_ble_eq_true rfl) d_Row_put_44 (fun H locs hP hD hS => ?_)
    have hP : va_P D vwCl [(a0, .inr (4, [.ref b0, .int (nI l0.length), .int 1])), (b0, .inl (kI, n0, .inl f0))] H := hP
    have hD : va_D A [(a0, .inr (4, [.ref b0, .int (nI l0.length), .int 1])), (b0, .inl (kI, n0, .inl f0))] := hD
    exact absurd c_1 (g_len_nn hr0)
  · have c_1 := c_1
    refine lv_aload_n hx hb d_Row_put_7 rfl (lv_at hl 0 rfl) ?_
    refine va_get (D := D) (ci := 4) (v := .int (nI l0.length)) (C := "MailCharacters$Row") (T := F_Row) (N := 3) hx hb hts i_Row hown hK hP 0 rfl rfl 1 (by decide) (hts _ k_108) (fun _ h9 => h9) rfl d_Row_put_8 ?_
    refine lv_aload_n hx hb d_Row_put_11 rfl (lv_at hl 0 rfl) ?_
    refine va_get (D := D) (ci := 4) (v := .ref b0) (C := "MailCharacters$Row") (T := F_Row) (N := 3) hx hb hts i_Row hown hK hP 0 rfl rfl 0 (by decide) (hts _ k_107) (fun _ h9 => h9) rfl d_Row_put_12 ?_
    refine va_alen (v := nI n0) hx hb hK hP 1 0 rfl rfl rfl d_Row_put_15 ?_
    refine lv_icmp_ge (tgt := 42) hx hb d_Row_put_16 (by decide) (fun c_2 => ?_) (fun c_2 => ?_)
    · have c_2 := c_2
      refine lv_aload_n hx hb d_Row_put_42 rfl (lv_at hl 0 rfl) ?_
      refine lv_iconst (v := 1) hx hb d_Row_put_43 (by decide) ?_
      refine va_put (D := D) (ci := 4) (v := .int 1) (ty := .boolean) (C := "MailCharacters$Row") (T := F_Row) (N := 3) hx hb hts i_Row t_Row t_Row_ok n_Row hown hK hP hD hS 0 rfl rfl 2 (by decide) (hts _ k_109) (fun _ h9 => h9) rfl (by decide +kernel) rfl rfl (Nat.le_of_ble_eq_true rfl) d_Row_put_44 (fun H locs hP hD hS => ?_)
      have hP : va_P D vwCl [(a0, .inr (4, [.ref b0, .int (nI l0.length), .int 1])), (b0, .inl (kI, n0, .inl f0))] H := hP
      have hD : va_D A [(a0, .inr (4, [.ref b0, .int (nI l0.length), .int 1])), (b0, .inl (kI, n0, .inl f0))] := hD
      exact hret (f0, l0, 1) _ _ _ _ d_Row_put_47 ⟨g_put_full c_2 hr0, hr0⟩ hP hD hS
    · have c_2 := c_2
      refine lv_aload_n hx hb d_Row_put_19 rfl (lv_at hl 0 rfl) ?_
      refine va_get (D := D) (ci := 4) (v := .ref b0) (C := "MailCharacters$Row") (T := F_Row) (N := 3) hx hb hts i_Row hown hK hP 0 rfl rfl 0 (by decide) (hts _ k_107) (fun _ h9 => h9) rfl d_Row_put_20 ?_
      refine lv_aload_n hx hb d_Row_put_23 rfl (lv_at hl 0 rfl) ?_
      refine va_get (D := D) (ci := 4) (v := .int (nI l0.length)) (C := "MailCharacters$Row") (T := F_Row) (N := 3) hx hb hts i_Row hown hK hP 0 rfl rfl 1 (by decide) (hts _ k_108) (fun _ h9 => h9) rfl d_Row_put_24 ?_
      refine lv_iload_n hx hb d_Row_put_27 rfl (lv_at hl 1 rfl) ?_
      refine va_iast hx hb hK hP hD hS 1 0 rfl rfl (g_put_ix c_2 hr0) d_Row_put_28 (fun H locs hP hD hS => ?_)
      have hP : va_P D vwCl [(a0, .inr (4, [.ref b0, .int (nI l0.length), .int o0])), (b0, .inl (kI, n0, .inl (upd f0 (nI l0.length).toNatClampNeg p1)))] H := hP
      have hD : va_D A [(a0, .inr (4, [.ref b0, .int (nI l0.length), .int o0])), (b0, .inl (kI, n0, .inl (upd f0 (nI l0.length).toNatClampNeg p1)))] := hD
      refine lv_aload_n hx hb d_Row_put_29 rfl (lv_at hl 0 rfl) ?_
      refine lv_dup hx hb d_Row_put_30 rfl ?_
      refine va_get (D := D) (ci := 4) (v := .int (nI l0.length)) (C := "MailCharacters$Row") (T := F_Row) (N := 3) hx hb hts i_Row hown hK hP 0 rfl rfl 1 (by decide) (hts _ k_108) (fun _ h9 => h9) rfl d_Row_put_31 ?_
      refine lv_iconst (v := 1) hx hb d_Row_put_34 (by decide) ?_
      refine lv_iadd hx hb d_Row_put_35 ?_
      refine va_put (D := D) (ci := 4) (v := .int ((nI l0.length) + 1)) (ty := .int) (C := "MailCharacters$Row") (T := F_Row) (N := 3) hx hb hts i_Row t_Row t_Row_ok n_Row hown hK hP hD hS 0 rfl rfl 1 (by decide) (hts _ k_108) (fun _ h9 => h9) rfl (by decide +kernel) rfl rfl (Nat.le_of_ble_eq_true rfl) d_Row_put_36 (fun H locs hP hD hS => ?_)
      have hP : va_P D vwCl [(a0, .inr (4, [.ref b0, .int ((nI l0.length) + 1), .int o0])), (b0, .inl (kI, n0, .inl (upd f0 (nI l0.length).toNatClampNeg p1)))] H := hP
      have hD : va_D A [(a0, .inr (4, [.ref b0, .int ((nI l0.length) + 1), .int o0])), (b0, .inl (kI, n0, .inl (upd f0 (nI l0.length).toNatClampNeg p1)))] := hD
      refine lv_goto (tgt := 47) hx hb d_Row_put_39 (by decide) ?_
      exact hret (upd f0 (nI l0.length).toNatClampNeg p1, l0 ++ [p1], o0) _ _ _ _ d_Row_put_47 ⟨g_put_in c_2 hr0, g_put_rw c_2 hr0⟩ (by rw [g_put_len] at hP; exact hP) (by rw [g_put_len] at hD; exact hD) hS
theorem cw_Row_put {R : Room} {s : State} {args : Array Value} {own : String} {idx : Nat} (hts : ∀ w ∈ gW, w.before args s = true) (hl : Cond.methodLink own idx y_Row_put ∈ gW) (hR : rm_Row_put.frames + 1 ≤ R.frames ∧ 8 + (2 + 11) + rm_Row_put.locals ≤ R.locals) : CallW R s args own "MailCharacters$Row" idx y_Row_put b_Row_put 2 none w_Row_put rm_Row_put 0 0 1 := cwV 1 hts (gW_V hl k_277 k_278 k_68 k_279) rfl rfl rfl (by decide +kernel) hR
def rm_Row_get : Room := { frames := 0, cells := 0, slots := 0, locals := 0 }
set_option maxHeartbeats 4000000 in
set_option maxRecDepth 100000 in
theorem c_Row_get (l : Launch) (D : va_G) (Z : gZT) (kI : ClassId) (a0 b0 n0 sz : Nat) (f0 : Nat → Int32) (l0 : List Int32) (o0 : Int32) (p1 : Int32) (hr0 : g_rw n0 f0 l0) : gMi l y_Row_get w_Row_get rm_Row_get D Z kI [.ref a0, .int p1] sz [(a0, .inr (4, [.ref b0, .int (nI l0.length), .int o0])), (b0, .inl (kI, n0, .inl f0))] (fun (r : Int32) (_u : Unit) => m_Row_get l0 p1 = r) (fun (_u : Unit) => ([(a0, .inr (4, [.ref b0, .int (nI l0.length), .int o0])), (b0, .inl (kI, n0, .inl f0))] : va_W)) := by
  refine g_ofi (cc := b_Row_get) (maxL := 2) (ty := .int) (by decide) rfl (Nat.le_of_ble_eq_true rfl) ?_
  intro p e s m below meth c A Q H ls hx hb hml hown hts hA hK hZ hP hD hS hl hret
  have hown : s.vm.findClass "MailCharacters$Row" = some m.cls := hown
  have hl : lv_has ls 2 [(0, .ref a0), (1, .int p1)] := hl
  refine lv_iload_n hx hb d_Row_get_0 rfl (lv_at hl 1 rfl) ?_
  refine lv_if_lt (tgt := 30) hx hb d_Row_get_1 (by decide) (fun c_1 => ?_) (fun c_1 => ?_)
  · have c_1 := c_1
    refine lv_iconst (v := (-1)) hx hb d_Row_get_30 (by decide) ?_
    exact hret (-1) () _ _ _ _ d_Row_get_31 rfl (g_get_neg c_1) hP hD hS
  · have c_1 := c_1
    refine lv_iload_n hx hb d_Row_get_4 rfl (lv_at hl 1 rfl) ?_
    refine lv_aload_n hx hb d_Row_get_5 rfl (lv_at hl 0 rfl) ?_
    refine va_get (D := D) (ci := 4) (v := .int (nI l0.length)) (C := "MailCharacters$Row") (T := F_Row) (N := 3) hx hb hts i_Row hown hK hP 0 rfl rfl 1 (by decide) (hts _ k_108) (fun _ h9 => h9) rfl d_Row_get_6 ?_
    refine lv_icmp_ge (tgt := 30) hx hb d_Row_get_9 (by decide) (fun c_2 => ?_) (fun c_2 => ?_)
    · have c_2 := c_2
      refine lv_iconst (v := (-1)) hx hb d_Row_get_30 (by decide) ?_
      exact hret (-1) () _ _ _ _ d_Row_get_31 rfl (g_get_big c_2) hP hD hS
    · have c_2 := c_2
      refine lv_iload_n hx hb d_Row_get_12 rfl (lv_at hl 1 rfl) ?_
      refine lv_aload_n hx hb d_Row_get_13 rfl (lv_at hl 0 rfl) ?_
      refine va_get (D := D) (ci := 4) (v := .ref b0) (C := "MailCharacters$Row") (T := F_Row) (N := 3) hx hb hts i_Row hown hK hP 0 rfl rfl 0 (by decide) (hts _ k_107) (fun _ h9 => h9) rfl d_Row_get_14 ?_
      refine va_alen (v := nI n0) hx hb hK hP 1 0 rfl rfl rfl d_Row_get_17 ?_
      refine lv_icmp_ge (tgt := 30) hx hb d_Row_get_18 (by decide) (fun c_3 => ?_) (fun c_3 => ?_)
      · have c_3 := c_3
        refine lv_iconst (v := (-1)) hx hb d_Row_get_30 (by decide) ?_
        exact hret (-1) () _ _ _ _ d_Row_get_31 rfl (g_get_no hr0 c_2 c_3) hP hD hS
      · have c_3 := c_3
        refine lv_aload_n hx hb d_Row_get_21 rfl (lv_at hl 0 rfl) ?_
        refine va_get (D := D) (ci := 4) (v := .ref b0) (C := "MailCharacters$Row") (T := F_Row) (N := 3) hx hb hts i_Row hown hK hP 0 rfl rfl 0 (by decide) (hts _ k_107) (fun _ h9 => h9) rfl d_Row_get_22 ?_
        refine lv_iload_n hx hb d_Row_get_25 rfl (lv_at hl 1 rfl) ?_
        refine va_iald hx hb hK hP 1 0 rfl rfl (g_in c_1 c_3 (g_rw_n hr0)) d_Row_get_26 ?_
        refine lv_goto (tgt := 31) hx hb d_Row_get_27 (by decide) ?_
        exact hret (f0 p1.toNatClampNeg) () _ _ _ _ d_Row_get_31 rfl (g_get_in hr0 c_1 c_2) hP hD hS
theorem cw_Row_get {R : Room} {s : State} {args : Array Value} {own : String} {idx : Nat} (hts : ∀ w ∈ gW, w.before args s = true) (hl : Cond.methodLink own idx y_Row_get ∈ gW) (hR : rm_Row_get.frames + 1 ≤ R.frames ∧ 8 + (2 + 11) + rm_Row_get.locals ≤ R.locals) : CallW R s args own "MailCharacters$Row" idx y_Row_get b_Row_get 2 (some .int) w_Row_get rm_Row_get 0 0 1 := cwV 1 hts (gW_V hl k_361 k_362 k_68 k_363) rfl rfl rfl (by decide +kernel) hR
def rm_Row_size : Room := { frames := 0, cells := 0, slots := 0, locals := 0 }
set_option maxHeartbeats 4000000 in
set_option maxRecDepth 100000 in
theorem c_Row_size (l : Launch) (D : va_G) (Z : gZT) (kI : ClassId) (a0 b0 n0 sz : Nat) (f0 : Nat → Int32) (l0 : List Int32) (o0 : Int32) (hr0 : g_rw n0 f0 l0) : gMi l y_Row_size w_Row_size rm_Row_size D Z kI [.ref a0] sz [(a0, .inr (4, [.ref b0, .int (nI l0.length), .int o0])), (b0, .inl (kI, n0, .inl f0))] (fun (r : Int32) (_u : Unit) => m_Row_size l0 = r) (fun (_u : Unit) => ([(a0, .inr (4, [.ref b0, .int (nI l0.length), .int o0])), (b0, .inl (kI, n0, .inl f0))] : va_W)) := by
  refine g_ofi (cc := b_Row_size) (maxL := 1) (ty := .int) (by decide) rfl (Nat.le_of_ble_eq_true rfl) ?_
  intro p e s m below meth c A Q H ls hx hb hml hown hts hA hK hZ hP hD hS hl hret
  have hown : s.vm.findClass "MailCharacters$Row" = some m.cls := hown
  have hl : lv_has ls 1 [(0, .ref a0)] := hl
  refine lv_aload_n hx hb d_Row_size_0 rfl (lv_at hl 0 rfl) ?_
  refine va_get (D := D) (ci := 4) (v := .int (nI l0.length)) (C := "MailCharacters$Row") (T := F_Row) (N := 3) hx hb hts i_Row hown hK hP 0 rfl rfl 1 (by decide) (hts _ k_108) (fun _ h9 => h9) rfl d_Row_size_1 ?_
  exact hret (nI l0.length) () _ _ _ _ d_Row_size_4 rfl rfl hP hD hS
theorem cw_Row_size {R : Room} {s : State} {args : Array Value} {own : String} {idx : Nat} (hts : ∀ w ∈ gW, w.before args s = true) (hl : Cond.methodLink own idx y_Row_size ∈ gW) (hR : rm_Row_size.frames + 1 ≤ R.frames ∧ 8 + (1 + 11) + rm_Row_size.locals ≤ R.locals) : CallW R s args own "MailCharacters$Row" idx y_Row_size b_Row_size 1 (some .int) w_Row_size rm_Row_size 0 0 0 := cwV 0 hts (gW_V hl k_282 k_283 k_68 k_284) rfl rfl rfl (by decide +kernel) hR
def rm_Row_room : Room := { frames := 0, cells := 0, slots := 0, locals := 0 }
set_option maxHeartbeats 4000000 in
set_option maxRecDepth 100000 in
theorem c_Row_room (l : Launch) (D : va_G) (Z : gZT) (kI : ClassId) (a0 b0 n0 sz : Nat) (f0 : Nat → Int32) (l0 : List Int32) (o0 : Int32) (hr0 : g_rw n0 f0 l0) : gMi l y_Row_room w_Row_room rm_Row_room D Z kI [.ref a0] sz [(a0, .inr (4, [.ref b0, .int (nI l0.length), .int o0])), (b0, .inl (kI, n0, .inl f0))] (fun (r : Int32) (_u : Unit) => m_Row_room n0 l0 = r) (fun (_u : Unit) => ([(a0, .inr (4, [.ref b0, .int (nI l0.length), .int o0])), (b0, .inl (kI, n0, .inl f0))] : va_W)) := by
  refine g_ofi (cc := b_Row_room) (maxL := 1) (ty := .int) (by decide) rfl (Nat.le_of_ble_eq_true rfl) ?_
  intro p e s m below meth c A Q H ls hx hb hml hown hts hA hK hZ hP hD hS hl hret
  have hown : s.vm.findClass "MailCharacters$Row" = some m.cls := hown
  have hl : lv_has ls 1 [(0, .ref a0)] := hl
  refine lv_aload_n hx hb d_Row_room_0 rfl (lv_at hl 0 rfl) ?_
  refine va_get (D := D) (ci := 4) (v := .ref b0) (C := "MailCharacters$Row") (T := F_Row) (N := 3) hx hb hts i_Row hown hK hP 0 rfl rfl 0 (by decide) (hts _ k_107) (fun _ h9 => h9) rfl d_Row_room_1 ?_
  refine va_alen (v := nI n0) hx hb hK hP 1 0 rfl rfl rfl d_Row_room_4 ?_
  refine lv_aload_n hx hb d_Row_room_5 rfl (lv_at hl 0 rfl) ?_
  refine va_get (D := D) (ci := 4) (v := .int (nI l0.length)) (C := "MailCharacters$Row") (T := F_Row) (N := 3) hx hb hts i_Row hown hK hP 0 rfl rfl 1 (by decide) (hts _ k_108) (fun _ h9 => h9) rfl d_Row_room_6 ?_
  refine lv_isub hx hb d_Row_room_9 ?_
  exact hret (nI n0 - nI l0.length) () _ _ _ _ d_Row_room_10 rfl rfl hP hD hS
theorem cw_Row_room {R : Room} {s : State} {args : Array Value} {own : String} {idx : Nat} (hts : ∀ w ∈ gW, w.before args s = true) (hl : Cond.methodLink own idx y_Row_room ∈ gW) (hR : rm_Row_room.frames + 1 ≤ R.frames ∧ 8 + (1 + 11) + rm_Row_room.locals ≤ R.locals) : CallW R s args own "MailCharacters$Row" idx y_Row_room b_Row_room 1 (some .int) w_Row_room rm_Row_room 0 0 0 := cwV 0 hts (gW_V hl k_273 k_274 k_68 k_275) rfl rfl rfl (by decide +kernel) hR
end
section
def rm_String_coder : Room := { frames := 0, cells := 0, slots := 0, locals := 0 }
set_option maxHeartbeats 4000000 in
set_option maxRecDepth 100000 in
theorem c_String_coder (l : Launch) (D : va_G) (Z : gZT) (kI : ClassId) (sz i : Nat) (hi : i < gnS) : gMi l y_JString_coder w_JString_coder rm_String_coder D Z kI [.ref (Z.1 i)] sz [] (fun (r : Int32) (_u : Unit) => 0 = r) (fun (_u : Unit) => ([] : va_W)) := by
  refine g_ofi (cc := b_JString_coder) (maxL := 1) (ty := .byte) (by decide) rfl (Nat.le_of_ble_eq_true rfl) ?_
  intro p e s m below meth c A Q H ls hx hb hml hown hts hA hK hZ hP hD hS hl hret
  have hown : s.vm.findClass "java/lang/String" = some m.cls := hown
  have hl : lv_has ls 1 [(0, .ref (Z.1 i))] := hl
  obtain ⟨hO, hC, hV, hT⟩ := (gZ_str hZ).1 i hi
  refine va_gets hx hb (gZ_cs hZ) hS hown (hts _ k_317) (fun _ h9 => h9) d_JString_coder_0 ?_
  refine lv_if_eq (tgt := 13) hx hb d_JString_coder_3 (by decide) (fun c_1 => ?_) (fun c_1 => ?_)
  · exact absurd c_1 (by decide)
  · refine lv_aload_n hx hb d_JString_coder_6 rfl (lv_at hl 0 rfl) ?_
    refine vk_getf hx hb hC hS hown (hts _ k_1192) (fun _ h9 => h9) d_JString_coder_7 ?_
    refine lv_goto (tgt := 14) hx hb d_JString_coder_10 (by decide) ?_
    exact hret 0 () _ _ _ _ d_JString_coder_14 rfl rfl hP hD hS
theorem cw_String_coder {R : Room} {s : State} {args : Array Value} {own : String} {idx : Nat} (hts : ∀ w ∈ gW, w.before args s = true) (hl : Cond.methodLink own idx y_JString_coder ∈ gW) (hR : rm_String_coder.frames + 1 ≤ R.frames ∧ 8 + (1 + 11) + rm_String_coder.locals ≤ R.locals) : CallW R s args own "java/lang/String" idx y_JString_coder b_JString_coder 1 (some .byte) w_JString_coder rm_String_coder 0 0 0 := cwV 0 hts (gW_V hl k_314 k_315 k_79 k_316) rfl rfl rfl (by decide +kernel) hR
def rm_String_isLatin1 : Room := { frames := 0, cells := 0, slots := 0, locals := 0 }
set_option maxHeartbeats 4000000 in
set_option maxRecDepth 100000 in
theorem c_String_isLatin1 (l : Launch) (D : va_G) (Z : gZT) (kI : ClassId) (sz i : Nat) (hi : i < gnS) : gMi l y_JString_isLatin1 w_JString_isLatin1 rm_String_isLatin1 D Z kI [.ref (Z.1 i)] sz [] (fun (r : Int32) (_u : Unit) => 1 = r) (fun (_u : Unit) => ([] : va_W)) := by
  refine g_ofi (cc := b_JString_isLatin1) (maxL := 1) (ty := .boolean) (by decide) rfl (Nat.le_of_ble_eq_true rfl) ?_
  intro p e s m below meth c A Q H ls hx hb hml hown hts hA hK hZ hP hD hS hl hret
  have hown : s.vm.findClass "java/lang/String" = some m.cls := hown
  have hl : lv_has ls 1 [(0, .ref (Z.1 i))] := hl
  obtain ⟨hO, hC, hV, hT⟩ := (gZ_str hZ).1 i hi
  refine va_gets hx hb (gZ_cs hZ) hS hown (hts _ k_317) (fun _ h9 => h9) d_JString_isLatin1_0 ?_
  refine lv_if_eq (tgt := 17) hx hb d_JString_isLatin1_3 (by decide) (fun c_1 => ?_) (fun c_1 => ?_)
  · exact absurd c_1 (by decide)
  · refine lv_aload_n hx hb d_JString_isLatin1_6 rfl (lv_at hl 0 rfl) ?_
    refine vk_getf hx hb hC hS hown (hts _ k_1192) (fun _ h9 => h9) d_JString_isLatin1_7 ?_
    refine lv_if_ne (tgt := 17) hx hb d_JString_isLatin1_10 (by decide) (fun c_2 => ?_) (fun c_2 => ?_)
    · exact absurd rfl c_2
    · refine lv_iconst (v := 1) hx hb d_JString_isLatin1_13 (by decide) ?_
      refine lv_goto (tgt := 18) hx hb d_JString_isLatin1_14 (by decide) ?_
      exact hret 1 () _ _ _ _ d_JString_isLatin1_18 rfl rfl hP hD hS
theorem cw_String_isLatin1 {R : Room} {s : State} {args : Array Value} {own : String} {idx : Nat} (hts : ∀ w ∈ gW, w.before args s = true) (hl : Cond.methodLink own idx y_JString_isLatin1 ∈ gW) (hR : rm_String_isLatin1.frames + 1 ≤ R.frames ∧ 8 + (1 + 11) + rm_String_isLatin1.locals ≤ R.locals) : CallW R s args own "java/lang/String" idx y_JString_isLatin1 b_JString_isLatin1 1 (some .boolean) w_JString_isLatin1 rm_String_isLatin1 0 0 0 := cwV 0 hts (gW_V hl k_324 k_325 k_79 k_326) rfl rfl rfl (by decide +kernel) hR
def rm_String_length : Room := { frames := 1, cells := 0, slots := 0, locals := 20 }
set_option maxHeartbeats 4000000 in
set_option maxRecDepth 100000 in
theorem c_String_length (l : Launch) (D : va_G) (Z : gZT) (kI : ClassId) (sz i : Nat) (hi : i < gnS) : gMi l y_JString_length w_JString_length rm_String_length D Z kI [.ref (Z.1 i)] sz [] (fun (r : Int32) (_u : Unit) => m_String_length i = r) (fun (_u : Unit) => ([] : va_W)) := by
  refine g_ofi (cc := b_JString_length) (maxL := 1) (ty := .int) (by decide) rfl (Nat.le_of_ble_eq_true rfl) ?_
  intro p e s m below meth c A Q H ls hx hb hml hown hts hA hK hZ hP hD hS hl hret
  have hown : s.vm.findClass "java/lang/String" = some m.cls := hown
  have hl : lv_has ls 1 [(0, .ref (Z.1 i))] := hl
  obtain ⟨hO, hC, hV, hT⟩ := (gZ_str hZ).1 i hi
  refine lv_aload_n hx hb d_JString_length_0 rfl (lv_at hl 0 rfl) ?_
  refine vk_getf hx hb hV hS hown (hts _ k_1191) (fun _ h9 => h9) d_JString_length_1 ?_
  refine va_tlen (v := nI (gLen.getD i 0)) hx hb hT hS rfl d_JString_length_4 ?_
  refine lv_aload_n hx hb d_JString_length_5 rfl (lv_at hl 0 rfl) ?_
  refine g_Vi (As := []) (rest := [.int (nI (gLen.getD i 0))]) (wr := []) ⟨hx, hb, hml, hown, hts⟩ (c_String_coder l D Z kI H.size i hi) (cw_String_coder hts k_313 ⟨Nat.le_of_ble_eq_true rfl, Nat.le_of_ble_eq_true rfl⟩) hK hZ hP hD hS hA [] [] (gZ_recv hZ hS hi) rfl rfl (by decide) (by decide) (by decide) rfl hl.1 rfl (Nat.le_of_ble_eq_true rfl) d_JString_length_6 ⟨Nat.zero_le _, Nat.zero_le _⟩ (fun r u H locs hw hP hD hS => ?_)
  subst hw
  refine lv_ishr hx hb d_JString_length_9 ?_
  exact hret (nI (gLen.getD i 0) >>> ((0 : Int32) &&& 31)) () _ _ _ _ d_JString_length_10 rfl (sb_shr0 _).symm hP hD hS
theorem cw_String_length {R : Room} {s : State} {args : Array Value} {own : String} {idx : Nat} (hts : ∀ w ∈ gW, w.before args s = true) (hl : Cond.methodLink own idx y_JString_length ∈ gW) (hR : rm_String_length.frames + 1 ≤ R.frames ∧ 8 + (1 + 11) + rm_String_length.locals ≤ R.locals) : CallW R s args own "java/lang/String" idx y_JString_length b_JString_length 1 (some .int) w_JString_length rm_String_length 0 0 0 := cwV 0 hts (gW_V hl k_310 k_311 k_79 k_312) rfl rfl rfl (by decide +kernel) hR
def rm_Pre_checkIndexN : Room := { frames := 0, cells := 0, slots := 0, locals := 0 }
set_option maxHeartbeats 4000000 in
set_option maxRecDepth 100000 in
theorem c_Pre_checkIndexN (l : Launch) (D : va_G) (Z : gZT) (kI : ClassId) (sz : Nat) (x y : Int32) (h0 : ¬ x < 0) (h1 : ¬ y ≤ x) : gMi l y_JPreconditions_checkIndex w_JPreconditions_checkIndex rm_Pre_checkIndexN D Z kI [.int x, .int y, .null] sz [] (fun (r : Int32) (_u : Unit) => x = r) (fun (_u : Unit) => ([] : va_W)) := by
  refine g_ofi (cc := b_JPreconditions_checkIndex) (maxL := 3) (ty := .int) (by decide) rfl (Nat.le_of_ble_eq_true rfl) ?_
  intro p e s m below meth c A Q H ls hx hb hml hown hts hA hK hZ hP hD hS hl hret
  have hown : s.vm.findClass "jdk/internal/util/Preconditions" = some m.cls := hown
  have hl : lv_has ls 3 [(0, .int x), (1, .int y), (2, .null)] := hl
  refine lv_iload_n hx hb d_JPreconditions_checkIndex_0 rfl (lv_at hl 0 rfl) ?_
  refine lv_if_lt (tgt := 9) hx hb d_JPreconditions_checkIndex_1 (by decide) (fun c_1 => ?_) (fun c_1 => ?_)
  · exact absurd c_1 h0
  · refine lv_iload_n hx hb d_JPreconditions_checkIndex_4 rfl (lv_at hl 0 rfl) ?_
    refine lv_iload_n hx hb d_JPreconditions_checkIndex_5 rfl (lv_at hl 1 rfl) ?_
    refine lv_icmp_lt (tgt := 16) hx hb d_JPreconditions_checkIndex_6 (by decide) (fun c_2 => ?_) (fun c_2 => ?_)
    · refine lv_iload_n hx hb d_JPreconditions_checkIndex_16 rfl (lv_at hl 0 rfl) ?_
      exact hret x () _ _ _ _ d_JPreconditions_checkIndex_17 rfl rfl hP hD hS
    · exact absurd (g_ltI h1) c_2
theorem cw_Pre_checkIndexN {R : Room} {s : State} {args : Array Value} {own : String} {idx : Nat} (hts : ∀ w ∈ gW, w.before args s = true) (hl : Cond.methodLink own idx y_JPreconditions_checkIndex ∈ gW) (hR : rm_Pre_checkIndexN.frames + 1 ≤ R.frames ∧ 8 + (3 + 11) + rm_Pre_checkIndexN.locals ≤ R.locals) : CallB R s args own idx y_JPreconditions_checkIndex b_JPreconditions_checkIndex 3 (some .int) w_JPreconditions_checkIndex rm_Pre_checkIndexN 0 0 3 ∧ (Cond.static y_JPreconditions_checkIndex).before args s = true := va_cwS 3 hts (gW_S hl k_336 k_81 k_337) rfl rfl rfl (by decide +kernel) hR
def rm_Pre_checkIndexR : Room := { frames := 0, cells := 0, slots := 0, locals := 0 }
set_option maxHeartbeats 4000000 in
set_option maxRecDepth 100000 in
theorem c_Pre_checkIndexR (l : Launch) (D : va_G) (Z : gZT) (kI : ClassId) (sz t : Nat) (x y : Int32) (h0 : ¬ x < 0) (h1 : ¬ y ≤ x) : gMi l y_JPreconditions_checkIndex w_JPreconditions_checkIndex rm_Pre_checkIndexR D Z kI [.int x, .int y, .ref t] sz [] (fun (r : Int32) (_u : Unit) => x = r) (fun (_u : Unit) => ([] : va_W)) := by
  refine g_ofi (cc := b_JPreconditions_checkIndex) (maxL := 3) (ty := .int) (by decide) rfl (Nat.le_of_ble_eq_true rfl) ?_
  intro p e s m below meth c A Q H ls hx hb hml hown hts hA hK hZ hP hD hS hl hret
  have hown : s.vm.findClass "jdk/internal/util/Preconditions" = some m.cls := hown
  have hl : lv_has ls 3 [(0, .int x), (1, .int y), (2, .ref t)] := hl
  refine lv_iload_n hx hb d_JPreconditions_checkIndex_0 rfl (lv_at hl 0 rfl) ?_
  refine lv_if_lt (tgt := 9) hx hb d_JPreconditions_checkIndex_1 (by decide) (fun c_1 => ?_) (fun c_1 => ?_)
  · exact absurd c_1 h0
  · refine lv_iload_n hx hb d_JPreconditions_checkIndex_4 rfl (lv_at hl 0 rfl) ?_
    refine lv_iload_n hx hb d_JPreconditions_checkIndex_5 rfl (lv_at hl 1 rfl) ?_
    refine lv_icmp_lt (tgt := 16) hx hb d_JPreconditions_checkIndex_6 (by decide) (fun c_2 => ?_) (fun c_2 => ?_)
    · refine lv_iload_n hx hb d_JPreconditions_checkIndex_16 rfl (lv_at hl 0 rfl) ?_
      exact hret x () _ _ _ _ d_JPreconditions_checkIndex_17 rfl rfl hP hD hS
    · exact absurd (g_ltI h1) c_2
theorem cw_Pre_checkIndexR {R : Room} {s : State} {args : Array Value} {own : String} {idx : Nat} (hts : ∀ w ∈ gW, w.before args s = true) (hl : Cond.methodLink own idx y_JPreconditions_checkIndex ∈ gW) (hR : rm_Pre_checkIndexR.frames + 1 ≤ R.frames ∧ 8 + (3 + 11) + rm_Pre_checkIndexR.locals ≤ R.locals) : CallB R s args own idx y_JPreconditions_checkIndex b_JPreconditions_checkIndex 3 (some .int) w_JPreconditions_checkIndex rm_Pre_checkIndexR 0 0 3 ∧ (Cond.static y_JPreconditions_checkIndex).before args s = true := va_cwS 3 hts (gW_S hl k_336 k_81 k_337) rfl rfl rfl (by decide +kernel) hR
def rm_String_checkIndex : Room := { frames := 1, cells := 0, slots := 0, locals := 22 }
set_option maxHeartbeats 4000000 in
set_option maxRecDepth 100000 in
theorem c_String_checkIndex (l : Launch) (D : va_G) (Z : gZT) (kI : ClassId) (sz : Nat) (x y : Int32) (h0 : ¬ x < 0) (h1 : ¬ y ≤ x) : gMv l y_JString_checkIndex w_JString_checkIndex rm_String_checkIndex D Z kI [.int x, .int y] sz [] (fun (_u : Unit) => True) (fun (_u : Unit) => ([] : va_W)) := by
  refine g_ofv (cc := b_JString_checkIndex) (maxL := 2) (by decide) rfl (Nat.le_of_ble_eq_true rfl) ?_
  intro p e s m below meth c A Q H ls hx hb hml hown hts hA hK hZ hP hD hS hl hret
  have hown : s.vm.findClass "java/lang/String" = some m.cls := hown
  have hl : lv_has ls 2 [(0, .int x), (1, .int y)] := hl
  refine lv_iload_n hx hb d_JString_checkIndex_0 rfl (lv_at hl 0 rfl) ?_
  refine lv_iload_n hx hb d_JString_checkIndex_1 rfl (lv_at hl 1 rfl) ?_
  rcases gZ_fm hZ with hq | ⟨t, hq⟩
  · refine va_gets hx hb hq hS hown (hts _ k_333) (fun _ h9 => h9) d_JString_checkIndex_2 ?_
    refine g_Si (As := [.int x, .int y, .null]) (rest := []) (wr := []) ⟨hx, hb, hml, hown, hts⟩ (c_Pre_checkIndexN l D Z kI H.size x y h0 h1) (cw_Pre_checkIndexN hts k_335 ⟨Nat.le_of_ble_eq_true rfl, Nat.le_of_ble_eq_true rfl⟩) hK hZ hP hD hS hA [] [] rfl rfl (by decide) (by decide) (by decide) rfl hl.1 rfl (Nat.le_of_ble_eq_true rfl) d_JString_checkIndex_5 ⟨Nat.zero_le _, Nat.zero_le _⟩ (fun r u H locs hw hP hD hS => ?_)
    refine lv_pop hx hb d_JString_checkIndex_8 rfl ?_
    exact hret () _ _ _ _ d_JString_checkIndex_9 trivial hP hD hS
  · refine va_gets hx hb hq hS hown (hts _ k_333) (fun _ h9 => h9) d_JString_checkIndex_2 ?_
    refine g_Si (As := [.int x, .int y, .ref t]) (rest := []) (wr := []) ⟨hx, hb, hml, hown, hts⟩ (c_Pre_checkIndexR l D Z kI H.size t x y h0 h1) (cw_Pre_checkIndexR hts k_335 ⟨Nat.le_of_ble_eq_true rfl, Nat.le_of_ble_eq_true rfl⟩) hK hZ hP hD hS hA [] [] rfl rfl (by decide) (by decide) (by decide) rfl hl.1 rfl (Nat.le_of_ble_eq_true rfl) d_JString_checkIndex_5 ⟨Nat.zero_le _, Nat.zero_le _⟩ (fun r u H locs hw hP hD hS => ?_)
    refine lv_pop hx hb d_JString_checkIndex_8 rfl ?_
    exact hret () _ _ _ _ d_JString_checkIndex_9 trivial hP hD hS
theorem cw_String_checkIndex {R : Room} {s : State} {args : Array Value} {own : String} {idx : Nat} (hts : ∀ w ∈ gW, w.before args s = true) (hl : Cond.methodLink own idx y_JString_checkIndex ∈ gW) (hR : rm_String_checkIndex.frames + 1 ≤ R.frames ∧ 8 + (2 + 11) + rm_String_checkIndex.locals ≤ R.locals) : CallB R s args own idx y_JString_checkIndex b_JString_checkIndex 2 none w_JString_checkIndex rm_String_checkIndex 0 0 2 ∧ (Cond.static y_JString_checkIndex).before args s = true := va_cwS 2 hts (gW_S hl k_331 k_79 k_332) rfl rfl rfl (by decide +kernel) hR
def rm_Latin1_charAt : Room := { frames := 2, cells := 0, slots := 0, locals := 43 }
set_option maxHeartbeats 4000000 in
set_option maxRecDepth 100000 in
theorem c_Latin1_charAt (l : Launch) (D : va_G) (Z : gZT) (kI : ClassId) (sz i : Nat) (k : Int32) (h0 : ¬ k < 0) (h1 : ¬ m_String_length i ≤ k) (hi : i < gnS) : gMi l y_JStringLatin1_charAt w_JStringLatin1_charAt rm_Latin1_charAt D Z kI [.ref (Z.2.1 i), .int k] sz [] (fun (r : Int32) (_u : Unit) => m_String_charAt i k = r) (fun (_u : Unit) => ([] : va_W)) := by
  refine g_ofi (cc := b_JStringLatin1_charAt) (maxL := 2) (ty := .char) (by decide) rfl (Nat.le_of_ble_eq_true rfl) ?_
  intro p e s m below meth c A Q H ls hx hb hml hown hts hA hK hZ hP hD hS hl hret
  have hown : s.vm.findClass "java/lang/StringLatin1" = some m.cls := hown
  have hl : lv_has ls 2 [(0, .ref (Z.2.1 i)), (1, .int k)] := hl
  obtain ⟨hO, hC, hV, hT⟩ := (gZ_str hZ).1 i hi
  refine lv_iload_n hx hb d_JStringLatin1_charAt_0 rfl (lv_at hl 1 rfl) ?_
  refine lv_aload_n hx hb d_JStringLatin1_charAt_1 rfl (lv_at hl 0 rfl) ?_
  refine va_tlen (v := nI (gLen.getD i 0)) hx hb hT hS rfl d_JStringLatin1_charAt_2 ?_
  refine g_Sv (As := [.int k, .int (nI (gLen.getD i 0))]) (rest := []) (wr := []) ⟨hx, hb, hml, hown, hts⟩ (c_String_checkIndex l D Z kI H.size k (nI (gLen.getD i 0)) h0 h1) (cw_String_checkIndex hts k_330 ⟨Nat.le_of_ble_eq_true rfl, Nat.le_of_ble_eq_true rfl⟩) hK hZ hP hD hS hA [] [] rfl rfl (by decide) (by decide) (by decide) rfl hl.1 rfl (Nat.le_of_ble_eq_true rfl) d_JStringLatin1_charAt_3 ⟨Nat.zero_le _, Nat.zero_le _⟩ (fun u H locs hw hP hD hS => ?_)
  refine lv_aload_n hx hb d_JStringLatin1_charAt_6 rfl (lv_at hl 0 rfl) ?_
  refine lv_iload_n hx hb d_JStringLatin1_charAt_7 rfl (lv_at hl 1 rfl) ?_
  refine va_tb (v := .int ((gByt.getD i []).getD k.toNatClampNeg 0)) hx hb hT hS (g_in h0 h1 (gS_small hi)) rfl d_JStringLatin1_charAt_8 ?_
  refine lv_sipush (v := 255) hx hb d_JStringLatin1_charAt_9 (by decide) ?_
  refine lv_iand hx hb d_JStringLatin1_charAt_12 ?_
  refine lv_i2c (v := m_String_charAt i k) hx hb d_JStringLatin1_charAt_13 (sc_c2 _) ?_
  exact hret (m_String_charAt i k) () _ _ _ _ d_JStringLatin1_charAt_14 (sc_nar _) rfl hP hD hS
theorem cw_Latin1_charAt {R : Room} {s : State} {args : Array Value} {own : String} {idx : Nat} (hts : ∀ w ∈ gW, w.before args s = true) (hl : Cond.methodLink own idx y_JStringLatin1_charAt ∈ gW) (hR : rm_Latin1_charAt.frames + 1 ≤ R.frames ∧ 8 + (2 + 11) + rm_Latin1_charAt.locals ≤ R.locals) : CallB R s args own idx y_JStringLatin1_charAt b_JStringLatin1_charAt 2 (some .char) w_JStringLatin1_charAt rm_Latin1_charAt 0 0 2 ∧ (Cond.static y_JStringLatin1_charAt).before args s = true := va_cwS 2 hts (gW_S hl k_328 k_80 k_329) rfl rfl rfl (by decide +kernel) hR
def rm_String_charAt : Room := { frames := 3, cells := 0, slots := 0, locals := 64 }
set_option maxHeartbeats 4000000 in
set_option maxRecDepth 100000 in
theorem c_String_charAt (l : Launch) (D : va_G) (Z : gZT) (kI : ClassId) (sz i : Nat) (k : Int32) (h0 : ¬ k < 0) (h1 : ¬ m_String_length i ≤ k) (hi : i < gnS) : gMi l y_JString_charAt w_JString_charAt rm_String_charAt D Z kI [.ref (Z.1 i), .int k] sz [] (fun (r : Int32) (_u : Unit) => m_String_charAt i k = r) (fun (_u : Unit) => ([] : va_W)) := by
  refine g_ofi (cc := b_JString_charAt) (maxL := 2) (ty := .char) (by decide) rfl (Nat.le_of_ble_eq_true rfl) ?_
  intro p e s m below meth c A Q H ls hx hb hml hown hts hA hK hZ hP hD hS hl hret
  have hown : s.vm.findClass "java/lang/String" = some m.cls := hown
  have hl : lv_has ls 2 [(0, .ref (Z.1 i)), (1, .int k)] := hl
  obtain ⟨hO, hC, hV, hT⟩ := (gZ_str hZ).1 i hi
  refine lv_aload_n hx hb d_JString_charAt_0 rfl (lv_at hl 0 rfl) ?_
  refine g_Vi (As := []) (rest := []) (wr := []) ⟨hx, hb, hml, hown, hts⟩ (c_String_isLatin1 l D Z kI H.size i hi) (cw_String_isLatin1 hts k_323 ⟨Nat.le_of_ble_eq_true rfl, Nat.le_of_ble_eq_true rfl⟩) hK hZ hP hD hS hA [] [] (gZ_recv hZ hS hi) rfl rfl (by decide) (by decide) (by decide) rfl hl.1 rfl (Nat.le_of_ble_eq_true rfl) d_JString_charAt_1 ⟨Nat.zero_le _, Nat.zero_le _⟩ (fun r u H locs hw hP hD hS => ?_)
  subst hw
  refine lv_if_eq (tgt := 16) hx hb d_JString_charAt_4 (by decide) (fun c_1 => ?_) (fun c_1 => ?_)
  · exact absurd c_1 (by decide)
  · refine lv_aload_n hx hb d_JString_charAt_7 rfl (lv_at hl 0 rfl) ?_
    refine vk_getf hx hb hV hS hown (hts _ k_1191) (fun _ h9 => h9) d_JString_charAt_8 ?_
    refine lv_iload_n hx hb d_JString_charAt_11 rfl (lv_at hl 1 rfl) ?_
    refine g_Si (As := [.ref (Z.2.1 i), .int k]) (rest := []) (wr := []) ⟨hx, hb, hml, hown, hts⟩ (c_Latin1_charAt l D Z kI H.size i k h0 h1 hi) (cw_Latin1_charAt hts k_327 ⟨Nat.le_of_ble_eq_true rfl, Nat.le_of_ble_eq_true rfl⟩) hK hZ hP hD hS hA [] [] rfl rfl (by decide) (by decide) (by decide) rfl hl.1 rfl (Nat.le_of_ble_eq_true rfl) d_JString_charAt_12 ⟨Nat.zero_le _, Nat.zero_le _⟩ (fun r u H locs hw hP hD hS => ?_)
    subst hw
    exact hret (m_String_charAt i k) () _ _ _ _ d_JString_charAt_15 (sc_nar _) rfl hP hD hS
theorem cw_String_charAt {R : Room} {s : State} {args : Array Value} {own : String} {idx : Nat} (hts : ∀ w ∈ gW, w.before args s = true) (hl : Cond.methodLink own idx y_JString_charAt ∈ gW) (hR : rm_String_charAt.frames + 1 ≤ R.frames ∧ 8 + (2 + 11) + rm_String_charAt.locals ≤ R.locals) : CallW R s args own "java/lang/String" idx y_JString_charAt b_JString_charAt 2 (some .char) w_JString_charAt rm_String_charAt 0 0 1 := cwV 1 hts (gW_V hl k_320 k_321 k_79 k_322) rfl rfl rfl (by decide +kernel) hR
end
section
/-! A method that throws a new exception: the invocation is looked at as if it began with the heap that it has now (g_rebase), so that the library's law of the constructors (Stand.ctorThrowS) says that no cell of now changes. -/
section GThrow
variable {p : Program} {l : Launch} {e : Env} {R : Room} {s : State} {m : MethodId} {args : Array Value} {below : List Frame} {meth : Method} {c : Code} {T : State} {locs : List Loc} {cells slots : Nat} {H : Heap} {Q : State → Prop}
theorem g_Wmono {Q' : State → Prop} {g : JFrame} (h : W p l e R s m args below meth c H locs cells slots Q g) (hQ : ∀ t, Q t → Q' t) : W p l e R s m args below meth c H locs cells slots Q' g := by
  intro T hT X
  obtain ⟨t, st, q⟩ := h T hT X
  exact ⟨t, st, hQ t q⟩
def g_now (s T : State) : State := { s with heap := T.heap, slotsUsed := T.slotsUsed }
theorem g_now_vm (s T : State) : (g_now s T).vm = s.vm := rfl
theorem g_now_heap (s T : State) : (g_now s T).heap = T.heap := rfl
theorem g_now_same (X : Stand p l e R s m args below meth c T locs cells slots) : (g_now s T).sameButNew (T.setVm s.vm) [] 0 0 := by
  refine ⟨X.same.1, Nat.le_refl _, Nat.le_refl _, ?_, ?_, fun a c h => ⟨c, h, rfl, rfl, fun _ _ => rfl⟩⟩
  · show T.slotsUsed = T.slotsUsed + ((T.heap.toList.drop T.heap.size).map (·.slots.size)).sum
    rw [List.drop_eq_nil_of_le (by simp)]
    rfl
  · show ((T.heap.toList.drop T.heap.size).map (·.slots.size)).sum ≤ 0
    rw [List.drop_eq_nil_of_le (by simp)]
    exact Nat.le_refl _
theorem g_now_room (X : Stand p l e R s m args below meth c T locs cells slots) (hc : cells ≤ R.cells) (hs : slots ≤ R.slots) : (g_now s T).hasRoom e.platform { R with cells := R.cells - cells, slots := R.slots - slots } = true := by
  have h := X.room
  have h1 := X.heapSize
  have h2 := X.used
  have h3 := X.book
  simp only [State.hasRoom, Bool.and_eq_true, decide_eq_true_eq] at h ⊢
  obtain ⟨⟨⟨⟨a1, a2⟩, a3⟩, a4⟩, a5⟩ := h
  refine ⟨⟨⟨⟨a1, a2⟩, ?_⟩, ?_⟩, h3⟩
  · show T.heap.size + (R.cells - cells) ≤ e.platform.maxCells
    omega
  · show T.slotsUsed + (R.slots - slots) ≤ e.platform.maxSlots
    omega
theorem g_rebase (X : Stand p l e R s m args below meth c T locs cells slots) (hc : cells ≤ R.cells) (hs : slots ≤ R.slots) : Stand p l e { R with cells := R.cells - cells, slots := R.slots - slots } (g_now s T) m args below meth c T [] 0 0 :=
  ⟨X.admits, X.cas, X.clock, X.frames, g_now_room X hc hs, X.hears, X.method, X.code, X.here, X.tail, X.warmed, X.limits, X.bytes, g_now_same X⟩
/-- what came since now came since the start -/
theorem g_since {U : State} {k n : Nat} (X : Stand p l e R s m args below meth c T locs cells slots) (h : (g_now s T).sameButNew ({ U with vm := (g_now s T).vm } : State) [] k n) : s.sameButNew ({ U with vm := s.vm } : State) locs (cells + k) (slots + n) := by
  have h0 : (T.setVm s.vm).sameButNew ({ U with vm := s.vm } : State) [] k n := by
    refine ⟨?_, h.2⟩
    have e3 : ∀ F : List Frame, (T.setVm s.vm).setFrames F = (g_now s T).setFrames F := fun F =>
      calc (T.setVm s.vm).setFrames F = ({ s.setFrames (T.setVm s.vm).frames with heap := (T.setVm s.vm).heap, slotsUsed := (T.setVm s.vm).slotsUsed } : State).setFrames F := congrArg (fun z : State => z.setFrames F) X.same.1
        _ = ({ (s.setFrames (T.setVm s.vm).frames).setFrames F with heap := T.heap, slotsUsed := T.slotsUsed } : State) := rfl
        _ = ({ s.setFrames F with heap := T.heap, slotsUsed := T.slotsUsed } : State) := by rw [State.setFrames_setFrames]
        _ = (g_now s T).setFrames F := rfl
    rw [e3]
    exact h.1
  have := X.same.trans h0
  rw [List.append_nil] at this
  exact this
theorem g_heap {U : State} {k n : Nat} (h : (g_now s T).sameButNew ({ U with vm := (g_now s T).vm } : State) [] k n) : ∀ q, q < T.heap.size → U.heap[q]? = T.heap[q]? := by
  intro q hq
  have hc : (g_now s T).heap[q]? = some T.heap[q] := Array.getElem?_eq_getElem hq
  obtain ⟨c', h1, h2, h3, h4⟩ := h.2.2.2.2.2 q _ hc
  have h5 : c' = T.heap[q] := by
    rw [h2]
    have : c'.slots = T.heap[q].slots := Array.ext_getElem? (fun i => h4 i (by simp))
    rw [this]
  have h6 : U.heap[q]? = some c' := h1
  rw [h6, h5]
  exact hc.symm
end GThrow
section GThrow2
variable {p : Program} {l : Launch} {e : Env} {R : Room} {s : State} {m : MethodId} {args : Array Value} {below : List Frame} {meth : Method} {c : Code} {locs : List Loc} {cells slots : Nat} {H : Heap} {Q : State → Prop}
/-- new E("text") thrown, no handler here -/
theorem g_throwW {cc : ByteArray} (hexec : p.tables.exec = Jvm.exec) (hb : c.code = cc) (htr : e.platform.stackTraces = false) {own cls text : String} {names : List String} {ik is ic pc msg : Nat} {ls : Array Slot} {rest : List Value}
    (hown : s.vm.findClass own = some m.cls) (hcls : Bundle.fit cls = true) (hnames : ∀ n ∈ names, Bundle.fit n = true)
    (hk : (Cond.classLink own ik cls).before args s = true) (hins : (Cond.instantiable cls 6).before args s = true) (hini : (Cond.initialized cls).before args s = true) (hR : vk_R own is text msg s)
    (hat : ∀ T : State, T.heap = H → ∀ a ∈ Bundle.ownAtoms own ic cls names, a.before args (g_now s T) = true)
    (hlen : ls.size = c.maxLocals) (hout : c.exceptionTable.isEmpty = true) (hlocks : meth.locks = false)
    (d0 : decode cc pc = .ok (.new ik, 3)) (d3 : decode cc (pc + 3) = .ok (.dup, 1)) (d4 : decode cc (pc + 4) = .ok (.ldc is, 2)) (d6 : decode cc (pc + 6) = .ok (.invokespecial ic, 3)) (d9 : decode cc (pc + 9) = .ok (.athrow, 1))
    (hfr : names.length + 3 < R.frames) (hlo : (rest.map fun v => v.category).sum + (13 * (names.length + 1) + 43) ≤ R.locals) (hc : cells + 1 ≤ R.cells) (hs : slots + 6 ≤ R.slots)
    (hq : ∀ (U : State) (ce : Cell), (∀ q, q < H.size → U.heap[q]? = H[q]?) → U.heap[H.size]? = some ce → ce.vm = .none → s.vm.findClass cls = some ce.cls → s.WarmedH U.vm → s.sameButNew ({ U with vm := s.vm } : State) locs (cells + 1) (slots + 6) → U.status = .running → Ended U below (.threw H.size) → Q U) :
    W p l e R s m args below meth c H locs cells slots Q (F0 m pc ls rest) := by
  intro T hT X
  have X0 := g_rebase X (by omega) (by omega)
  have hown2 : (g_now s T).vm.findClass own = some m.cls := hown
  obtain ⟨vm₁, cX, kX, hfX, hkX, -, -, X₁, st1⟩ := X0.newCold hexec (own := own) (C := cls) (index := ik) (n := 6) hown2 (va_tabs (A := args) (u := s) rfl rfl hk) (va_tabs (A := args) (u := s) rfl rfl hins) (va_tabs (A := args) (u := s) rfl rfl hini) (g := F0 m pc ls rest) rfl (by rw [hb]; exact d0)
    (show 0 + 1 ≤ R.cells - cells by omega) (show 0 + 6 ≤ R.slots - slots by omega)
  have K : W p l e { R with cells := R.cells - cells, slots := R.slots - slots } (g_now s T) m args below meth c ((T.setVm vm₁).pushCell { cls := cX, slots := kX.instanceTypes.map defaultValue, vm := .none }).heap [] (0 + 1) (0 + 6) Q (F0 m (pc + 3) ls (.ref T.heap.size :: rest)) := by
    refine lv_dup hexec hb d3 rfl ?_
    refine va_ldcS hexec hb hown2 (hR.same rfl) d4 ?_
    intro T₂ hT₂ X₂
    have hcell : T₂.heap[T.heap.size]? = some (freshCell cX kX) := by
      rw [hT₂]
      exact State.heap_pushCell_size (T.setVm vm₁) _
    obtain ⟨U, st, hrun, hend, hW, hsame, ce, hce, ho⟩ := X₂.ctorThrowS hexec htr (cls := cls) (names := names) (ic := ic) hown2 hcls hnames (hat T hT) (fun x h => by cases h) (a := T.heap.size) hfX hkX hcell (Nat.le_refl _) (msg := .ref msg) rfl
      (g := F0 m (pc + 3 + 1 + 2) ls (.ref msg :: .ref T.heap.size :: .ref T.heap.size :: rest)) rfl hlen rfl rfl (rest := rest) rfl (by rw [hb]; exact d6) (by rw [hb]; exact d9) (fun x hx => by rw [Array.isEmpty_iff.mp hout] at hx; cases hx) hfr
      (by
        have : (Value.ref T.heap.size).category = 1 := rfl
        simp only [List.map_cons, List.sum_cons, this]
        show 2 * 0 + (1 + (List.map (fun v => v.category) rest).sum) + (13 * (names.length + 1) + 42) ≤ R.locals
        omega) hlocks
    have hz : T.heap.size = H.size := by rw [hT]
    refine ⟨U, st, hq U ce ?_ ?_ ho.vm ?_ hW ?_ hrun ?_⟩
    · intro q hq1
      rw [g_heap hsame q (by rw [hz]; exact hq1), hT]
    · rw [← hz]; exact hce
    · exact ho.cls
    · exact g_since X hsame
    · rw [← hz]; exact hend
  obtain ⟨t, st, q⟩ := K _ rfl X₁
  exact ⟨t, st1 _ st, q⟩
end GThrow2
end
section
/-! contracts of methods that answer an int or throw: k = 0: answered; 1: IllegalArgumentException; else IllegalStateException -/
def gE (k : Int32) : String := if k = 1 then "java/lang/IllegalArgumentException" else "java/lang/IllegalStateException"
def gQt {S : Type} (D : va_G) (A : Nat → Prop) (wo : S → va_W) (post : Int32 → Int32 → S → Prop) (mc ms : Nat) : Array Value → State → Outcome → State → Prop := fun _ st oc t =>
  ∃ (k r : Int32) (u : S) (L : List Loc), post k r u ∧ va_P D vwCl (wo u) t.heap ∧ va_D A (wo u) ∧ va_F A st t ∧ st.WarmedH t.vm ∧ st.sameButNew ({ t with vm := st.vm } : State) L mc ms ∧ (∀ q ∈ L, A q.base) ∧
    ((k = 0 ∧ oc = .returned (some (.int r))) ∨ (¬ k = 0 ∧ ∃ (x : Nat) (ce : Cell), oc = .threw x ∧ t.heap[x]? = some ce ∧ ce.vm = .none ∧ st.vm.findClass (gE k) = some ce.cls))
abbrev gMt {S : Type} (l : Launch) (y : MethodName) (w : List Cond) (rm : Room) (D : va_G) (Z : gZT) (kI : ClassId) (av : List Value) (sz : Nat) (ws : va_W) (post : Int32 → Int32 → S → Prop) (wo : S → va_W) (mc ms : Nat) : Prop :=
  MetFree l y (headSpec w rm) (gP D Z kI av sz ws) (fun _ _ _ _ _ => True) (gQt D (va_A ws sz) wo post mc ms)
theorem g_oft {l : Launch} {y : MethodName} {w : List Cond} {rm : Room} {D : va_G} {Z : gZT} {kI : ClassId} {av : List Value} {sz : Nat} {ws : va_W} {S : Type} {post : Int32 → Int32 → S → Prop} {wo : S → va_W} {mc ms : Nat} {cc : ByteArray} {maxL : Nat} (hnt : ∀ e, l.admits e → e.platform.stackTraces = false) (hy : plainName y.cls = true) (hw : w = Cond.code y cc maxL (some .int) :: gW) (hlen : (lg_sl av).length ≤ maxL)
    (body : ∀ (p : Program) (e : Env) (s : State) (m : MethodId) (below : List Frame) (meth : Method) (c : Code) (A : Nat → Prop) (Q : State → Prop) (H : Heap) (ls : Array Slot), p.tables.exec = Jvm.exec → c.code = cc → c.maxLocals = maxL → s.vm.findClass y.cls = some m.cls → (∀ q ∈ gW, q.before av.toArray s = true) → (∀ q, s.heap.size ≤ q → A q) → va_K D vwCl (gTys kI) s → gZ Z A s s.heap → va_P D vwCl ws H → va_D A ws → va_S A s.heap H [] → lv_has ls maxL (lv_args 0 av) → e.platform.stackTraces = false → c.exceptionTable.isEmpty = true → meth.locks = false →
      (∀ (r : Int32) (u : S) (H : Heap) (locs : List Loc) (ls : Array Slot) (pc : Nat), decode cc pc = .ok (.ireturn, 1) → post 0 r u → va_P D vwCl (wo u) H → va_D A (wo u) → va_S A s.heap H locs → W p l e rm s m av.toArray below meth c H locs 0 0 Q (F0 m pc ls [.int r])) →
      (∀ (k : Int32) (u : S) (H : Heap) (locs : List Loc) (U : State) (ce : Cell), ¬ k = 0 → 1 ≤ mc → 6 ≤ ms → post k 0 u → va_P D vwCl (wo u) H → va_D A (wo u) → va_S A s.heap H locs → (∀ q, q < H.size → U.heap[q]? = H[q]?) → U.heap[H.size]? = some ce → ce.vm = .none → s.vm.findClass (gE k) = some ce.cls → s.WarmedH U.vm → s.sameButNew ({ U with vm := s.vm } : State) locs (0 + 1) (0 + 6) → U.status = .running → Ended U below (.threw H.size) → Q U) →
      W p l e rm s m av.toArray below meth c H [] 0 0 Q (F0 m 0 ls [])) : gMt l y w rm D Z kI av sz ws post wo mc ms := by
  refine MetFree.of_bodyS (code := cc) (maxLocals := maxL) (ret := some .int) hy ?_ ?_
  · intro args s m h hn
    obtain ⟨meth, c, h1, h2, h3, h4, h5, h6, -, -⟩ := Cond.code_spec hn (atoms_spec (ws := w) h _ (by rw [hw]; exact List.mem_cons_self))
    exact ⟨meth, c, h1, h2, h3, h4, h5, h6⟩
  · intro p e s m args below meth c s₁ B hml hv _
    obtain ⟨rfl, hsz, hP, hK, hD0, hZ⟩ := hv
    subst hsz
    have hh0 : s₁.heap = s.heap := by rw [B.state]; rfl
    have hl := lv_entry av (n := maxL) hlen
    have X := Stand.of_body B
    have hcw := atoms_spec (ws := w) B.pre _ (by rw [hw]; exact List.mem_cons_self)
    have K : W p l e rm s m av.toArray below meth c s.heap [] 0 0 (fun t => ∃ o, t.status = .running ∧ Ended t below o ∧ gQt D (va_A ws s.heap.size) wo post mc ms av.toArray s o t) (entryFrame m av.toArray maxL) := by
      rw [lg_entry_eq]
      refine body p e s m below meth c (va_A ws s.heap.size) _ s.heap _ B.exec B.bytes hml (findClass_of_methodNamed B.named) (fun q h => atoms_spec (ws := w) B.pre q (by rw [hw]; exact List.mem_cons_of_mem _ h)) (fun q h => Or.inr h) hK hZ hP (hD0.self (sz := s.heap.size)) va_S.rf hl (hnt e X.admits) (B.noHandlers hcw) B.notSynchronized ?_ ?_
      · intro r u H locs ls pc hd hp hP hD hS
        refine g_Wmono (W.iret (free := va_A ws s.heap.size) (Qc := fun _ st oc t => ∃ (r : Int32) (u : S), oc = .returned (some (.int r)) ∧ post 0 r u ∧ va_P D vwCl (wo u) t.heap ∧ va_D (va_A ws s.heap.size) (wo u) ∧ va_F (va_A ws s.heap.size) st t) B.exec B.bytes B.returns (fun t ht hW => ⟨r, u, rfl, hp, by rw [ht]; exact hP, hD, hS.F ht⟩) hS.2.2 hd) ?_
        intro t ht
        obtain ⟨o, h1, h2, ⟨r, u, rfl, h3, h4, h5, h6⟩, L, ⟨-, h7, h8⟩, h9⟩ := ht
        exact ⟨_, h1, h2, 0, r, u, L, h3, h4, h5, h6, h7, h8.mono (Nat.zero_le _) (Nat.zero_le _), h9, Or.inl ⟨rfl, rfl⟩⟩
      · intro k u H locs U ce hk0 hmc hms hp hP hD hS hU hce hcv hcl hW hsm hrun hend
        refine ⟨_, hrun, hend, k, 0, u, locs, hp, ?_, hD, ?_, hW, hsm.mono (by omega) (by omega), hS.2.2, Or.inr ⟨hk0, H.size, ce, rfl, hce, hcv, hcl⟩⟩
        · exact hP.kept (fun j q hj => hU q.1 (va_at.lt (hP j q hj)))
        · refine ⟨?_, fun q h1 h2 => ?_⟩
          · have := hsm.2.1
            exact this
          · rw [hU q (Nat.lt_of_lt_of_le h1 hS.1)]
            exact hS.2.1 q h1 h2
    obtain ⟨t, a1, o, b1, b2, b3⟩ := K s₁ hh0 X
    exact ⟨t, o, a1, b1, b2, b3⟩
end
section
/-- the words of a throw of E at the state of now -/
def gBad (X : String) : List Cond := [.laysStatic "java/lang/Throwable" "UNASSIGNED_STACK" "[Ljava/lang/StackTraceElement;", .laysStatic "java/lang/Throwable" "SUPPRESSED_SENTINEL" "Ljava/util/List;", .declares ⟨"java/lang/RuntimeException", "<init>", "(Ljava/lang/String;)V"⟩, .declares ⟨"java/lang/Exception", "<init>", "(Ljava/lang/String;)V"⟩, .declares ⟨"java/lang/Throwable", "<init>", "(Ljava/lang/String;)V"⟩, .castable X X, .isRef (.static "java/lang/Throwable" "UNASSIGNED_STACK" "[Ljava/lang/StackTraceElement;"), .isRef (.static "java/lang/Throwable" "SUPPRESSED_SENTINEL" "Ljava/util/List;")]
abbrev gSup : List String := ["java/lang/RuntimeException", "java/lang/Exception"]
theorem g_own {Z : gZT} {A : Nat → Prop} {s T : State} {H : Heap} {locs : List Loc} {args : Array Value} {X : String} {ic : Nat} (hX : X ∈ gCx) (hg : ∀ a ∈ Bundle.ownAtoms "MailCharacters" ic X gSup, goodWord a = true → a ∈ gW ∧ a.onTables = true) (hb : ∀ a ∈ Bundle.ownAtoms "MailCharacters" ic X gSup, goodWord a = false → a ∈ gBad X)
    (hts : ∀ w ∈ gW, w.before args s = true) (hZ : gZ Z A s s.heap) (hS : va_S A s.heap H locs) (hT : T.heap = H) : ∀ a ∈ Bundle.ownAtoms "MailCharacters" ic X gSup, a.before args (g_now s T) = true := by
  intro a ha
  have hx : gZx A (g_now s T) (g_now s T).heap := by
    have h1 := ((gZ_x hZ).kept hS.2.1).same (U := g_now s T) rfl
    rw [g_now_heap, hT]
    exact h1
  cases hgd : goodWord a with
  | true =>
    obtain ⟨h1, h2⟩ := hg a ha hgd
    exact va_tabs (u := s) h2 rfl (hts a h1)
  | false =>
    have hm := hb a ha hgd
    simp only [gBad, List.mem_cons, List.not_mem_nil, or_false] at hm
    rcases hm with rfl | rfl | rfl | rfl | rfl | rfl | rfl | rfl
    · exact hx.2.2.1.lays
    · exact hx.2.2.2.lays
    · exact va_Nw.use rfl (hx.1 _ (by simp [gDx]))
    · exact va_Nw.use rfl (hx.1 _ (by simp [gDx]))
    · exact va_Nw.use rfl (hx.1 _ (by simp [gDx]))
    · exact va_Nw.use rfl (hx.2.1 _ hX)
    · exact hx.2.2.1.isRef
    · exact hx.2.2.2.isRef
set_option maxRecDepth 20000 in
theorem own_IA_g : ∀ a ∈ Bundle.ownAtoms "MailCharacters" 90 "java/lang/IllegalArgumentException" gSup, goodWord a = true → a ∈ gW ∧ a.onTables = true := by decide +kernel
set_option maxRecDepth 20000 in
theorem own_IA_b : ∀ a ∈ Bundle.ownAtoms "MailCharacters" 90 "java/lang/IllegalArgumentException" gSup, goodWord a = false → a ∈ gBad "java/lang/IllegalArgumentException" := by decide +kernel
set_option maxRecDepth 20000 in
theorem own_IS_g : ∀ a ∈ Bundle.ownAtoms "MailCharacters" 141 "java/lang/IllegalStateException" gSup, goodWord a = true → a ∈ gW ∧ a.onTables = true := by decide +kernel
set_option maxRecDepth 20000 in
theorem own_IS_b : ∀ a ∈ Bundle.ownAtoms "MailCharacters" 141 "java/lang/IllegalStateException" gSup, goodWord a = false → a ∈ gBad "java/lang/IllegalStateException" := by decide +kernel
end
