set_option maxRecDepth 100000 in
theorem k_838 : Cond.code ⟨"MailCharactersModel", "<init>", "()V"⟩ prog_14_method_1_code 1 none ∈ gW := gW_at 838 rfl (by decide +kernel)
