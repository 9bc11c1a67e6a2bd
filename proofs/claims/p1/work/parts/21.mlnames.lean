abbrev b_ML_uncode : ByteArray := method_3_code
abbrev y_ML_uncode : MethodName := ⟨"MailCharactersLaw", "uncode", "(LMailCharacters;I[J)I"⟩
abbrev h_ML_uncode : List (Nat × Nat × Nat × Nat) := [(0, 9, 12, 13)]
abbrev w_ML_uncode : List Cond := Cond.codeWith y_ML_uncode b_ML_uncode 4 (some .int) h_ML_uncode :: gW
theorem kw_ML_uncode : Cond.codeWith y_ML_uncode b_ML_uncode 4 (some .int) h_ML_uncode ∈ lw_tbl := List.mem_of_getElem? (i := 535) (by decide +kernel)
theorem d_ML_uncode_0 : decode b_ML_uncode 0 = .ok (.aload_n 2, 1) := by decide +kernel
theorem d_ML_uncode_1 : decode b_ML_uncode 1 = .ok (.iconst 0, 1) := by decide +kernel
theorem d_ML_uncode_2 : decode b_ML_uncode 2 = .ok (.aload_n 0, 1) := by decide +kernel
theorem d_ML_uncode_3 : decode b_ML_uncode 3 = .ok (.iload_n 1, 1) := by decide +kernel
theorem d_ML_uncode_4 : decode b_ML_uncode 4 = .ok (.invokevirtual 7, 3) := by decide +kernel
theorem d_ML_uncode_7 : decode b_ML_uncode 7 = .ok (.i2l, 1) := by decide +kernel
theorem d_ML_uncode_8 : decode b_ML_uncode 8 = .ok (.lastore, 1) := by decide +kernel
theorem d_ML_uncode_9 : decode b_ML_uncode 9 = .ok (.goto 6, 3) := by decide +kernel
theorem d_ML_uncode_12 : decode b_ML_uncode 12 = .ok (.astore_n 3, 1) := by decide +kernel
theorem d_ML_uncode_13 : decode b_ML_uncode 13 = .ok (.iconst 1, 1) := by decide +kernel
theorem d_ML_uncode_14 : decode b_ML_uncode 14 = .ok (.ireturn, 1) := by decide +kernel
theorem d_ML_uncode_15 : decode b_ML_uncode 15 = .ok (.iconst 0, 1) := by decide +kernel
theorem d_ML_uncode_16 : decode b_ML_uncode 16 = .ok (.ireturn, 1) := by decide +kernel
abbrev b_ML_read : ByteArray := method_4_code
abbrev y_ML_read : MethodName := ⟨"MailCharactersLaw", "read", "(LMailCharacters;I[J)I"⟩
abbrev h_ML_read : List (Nat × Nat × Nat × Nat) := [(0, 9, 12, 13)]
abbrev w_ML_read : List Cond := Cond.codeWith y_ML_read b_ML_read 4 (some .int) h_ML_read :: gW
theorem kw_ML_read : Cond.codeWith y_ML_read b_ML_read 4 (some .int) h_ML_read ∈ lw_tbl := List.mem_of_getElem? (i := 663) (by decide +kernel)
theorem d_ML_read_0 : decode b_ML_read 0 = .ok (.aload_n 2, 1) := by decide +kernel
theorem d_ML_read_1 : decode b_ML_read 1 = .ok (.iconst 0, 1) := by decide +kernel
theorem d_ML_read_2 : decode b_ML_read 2 = .ok (.aload_n 0, 1) := by decide +kernel
theorem d_ML_read_3 : decode b_ML_read 3 = .ok (.iload_n 1, 1) := by decide +kernel
theorem d_ML_read_4 : decode b_ML_read 4 = .ok (.invokevirtual 15, 3) := by decide +kernel
theorem d_ML_read_7 : decode b_ML_read 7 = .ok (.i2l, 1) := by decide +kernel
theorem d_ML_read_8 : decode b_ML_read 8 = .ok (.lastore, 1) := by decide +kernel
theorem d_ML_read_9 : decode b_ML_read 9 = .ok (.goto 6, 3) := by decide +kernel
theorem d_ML_read_12 : decode b_ML_read 12 = .ok (.astore_n 3, 1) := by decide +kernel
theorem d_ML_read_13 : decode b_ML_read 13 = .ok (.iconst 1, 1) := by decide +kernel
theorem d_ML_read_14 : decode b_ML_read 14 = .ok (.ireturn, 1) := by decide +kernel
theorem d_ML_read_15 : decode b_ML_read 15 = .ok (.iconst 0, 1) := by decide +kernel
theorem d_ML_read_16 : decode b_ML_read 16 = .ok (.ireturn, 1) := by decide +kernel
abbrev b_ML_write : ByteArray := method_5_code
abbrev y_ML_write : MethodName := ⟨"MailCharactersLaw", "write", "(LMailCharacters;I[J)I"⟩
abbrev h_ML_write : List (Nat × Nat × Nat × Nat) := [(0, 9, 12, 13)]
abbrev w_ML_write : List Cond := Cond.codeWith y_ML_write b_ML_write 4 (some .int) h_ML_write :: gW
theorem kw_ML_write : Cond.codeWith y_ML_write b_ML_write 4 (some .int) h_ML_write ∈ lw_tbl := List.mem_of_getElem? (i := 674) (by decide +kernel)
theorem d_ML_write_0 : decode b_ML_write 0 = .ok (.aload_n 2, 1) := by decide +kernel
theorem d_ML_write_1 : decode b_ML_write 1 = .ok (.iconst 0, 1) := by decide +kernel
theorem d_ML_write_2 : decode b_ML_write 2 = .ok (.aload_n 0, 1) := by decide +kernel
theorem d_ML_write_3 : decode b_ML_write 3 = .ok (.iload_n 1, 1) := by decide +kernel
theorem d_ML_write_4 : decode b_ML_write 4 = .ok (.invokevirtual 18, 3) := by decide +kernel
theorem d_ML_write_7 : decode b_ML_write 7 = .ok (.i2l, 1) := by decide +kernel
theorem d_ML_write_8 : decode b_ML_write 8 = .ok (.lastore, 1) := by decide +kernel
theorem d_ML_write_9 : decode b_ML_write 9 = .ok (.goto 6, 3) := by decide +kernel
theorem d_ML_write_12 : decode b_ML_write 12 = .ok (.astore_n 3, 1) := by decide +kernel
theorem d_ML_write_13 : decode b_ML_write 13 = .ok (.iconst 1, 1) := by decide +kernel
theorem d_ML_write_14 : decode b_ML_write 14 = .ok (.ireturn, 1) := by decide +kernel
theorem d_ML_write_15 : decode b_ML_write 15 = .ok (.iconst 0, 1) := by decide +kernel
theorem d_ML_write_16 : decode b_ML_write 16 = .ok (.ireturn, 1) := by decide +kernel
abbrev b_ML_code : ByteArray := method_6_code
abbrev y_ML_code : MethodName := ⟨"MailCharactersLaw", "code", "(LMailCharacters;I[J)I"⟩
abbrev h_ML_code : List (Nat × Nat × Nat × Nat) := [(0, 9, 12, 13), (0, 9, 15, 24)]
abbrev w_ML_code : List Cond := Cond.codeWith y_ML_code b_ML_code 4 (some .int) h_ML_code :: gW
theorem kw_ML_code : Cond.codeWith y_ML_code b_ML_code 4 (some .int) h_ML_code ∈ lw_tbl := List.mem_of_getElem? (i := 767) (by decide +kernel)
theorem d_ML_code_0 : decode b_ML_code 0 = .ok (.aload_n 2, 1) := by decide +kernel
theorem d_ML_code_1 : decode b_ML_code 1 = .ok (.iconst 0, 1) := by decide +kernel
theorem d_ML_code_2 : decode b_ML_code 2 = .ok (.aload_n 0, 1) := by decide +kernel
theorem d_ML_code_3 : decode b_ML_code 3 = .ok (.iload_n 1, 1) := by decide +kernel
theorem d_ML_code_4 : decode b_ML_code 4 = .ok (.invokevirtual 21, 3) := by decide +kernel
theorem d_ML_code_7 : decode b_ML_code 7 = .ok (.i2l, 1) := by decide +kernel
theorem d_ML_code_8 : decode b_ML_code 8 = .ok (.lastore, 1) := by decide +kernel
theorem d_ML_code_9 : decode b_ML_code 9 = .ok (.goto 9, 3) := by decide +kernel
theorem d_ML_code_12 : decode b_ML_code 12 = .ok (.astore_n 3, 1) := by decide +kernel
theorem d_ML_code_13 : decode b_ML_code 13 = .ok (.iconst 1, 1) := by decide +kernel
theorem d_ML_code_14 : decode b_ML_code 14 = .ok (.ireturn, 1) := by decide +kernel
theorem d_ML_code_15 : decode b_ML_code 15 = .ok (.astore_n 3, 1) := by decide +kernel
theorem d_ML_code_16 : decode b_ML_code 16 = .ok (.iconst 2, 1) := by decide +kernel
theorem d_ML_code_17 : decode b_ML_code 17 = .ok (.ireturn, 1) := by decide +kernel
theorem d_ML_code_18 : decode b_ML_code 18 = .ok (.iconst 0, 1) := by decide +kernel
theorem d_ML_code_19 : decode b_ML_code 19 = .ok (.ireturn, 1) := by decide +kernel
theorem k_536 : Cond.classLink "MailCharactersLaw" 13 "java/lang/IllegalArgumentException" ∈ gW := gW_at 536 (by decide +kernel) (by decide +kernel)
theorem k_537 : Cond.methodLink "MailCharactersLaw" 7 ⟨"MailCharacters", "uncode", "(I)I"⟩ ∈ gW := gW_at 537 (by decide +kernel) (by decide +kernel)
theorem k_664 : Cond.methodLink "MailCharactersLaw" 15 ⟨"MailCharacters", "read", "(I)I"⟩ ∈ gW := gW_at 664 (by decide +kernel) (by decide +kernel)
theorem k_675 : Cond.methodLink "MailCharactersLaw" 18 ⟨"MailCharacters", "write", "(I)I"⟩ ∈ gW := gW_at 675 (by decide +kernel) (by decide +kernel)
theorem k_769 : Cond.methodLink "MailCharactersLaw" 21 ⟨"MailCharacters", "code", "(I)I"⟩ ∈ gW := gW_at 769 (by decide +kernel) (by decide +kernel)
theorem k_770 : Cond.instanceMethod ⟨"MailCharacters", "code", "(I)I"⟩ ∈ gW := gW_at 770 (by decide +kernel) (by decide +kernel)
theorem k_771 : Cond.selects "MailCharacters" ⟨"MailCharacters", "code", "(I)I"⟩ ⟨"MailCharacters", "code", "(I)I"⟩ ∈ gW := gW_at 771 (by decide +kernel) (by decide +kernel)
theorem k_772 : Cond.code ⟨"MailCharacters", "code", "(I)I"⟩ prog_1_method_9_code 2 (some FieldType.int) ∈ gW := gW_at 772 (by decide +kernel) (by decide +kernel)
