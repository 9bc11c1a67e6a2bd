theorem e_end_0 : ∀ n : Fin 21, (m_MC_end 1500 (fun _ => 0) [] 0 (nI n.val)).1 = nI n.val := by decide +kernel
theorem e_end {n : Nat} (h : n ≤ 20) : (m_MC_end 1500 (fun _ => 0) [] 0 (nI n)).1 = nI n := e_end_0 ⟨n, by omega⟩
theorem e_end_lo {p1 : Int32} (h : p1 < 0) : (m_MC_end 1500 (fun _ => 0) [] 0 p1).1 = -1 := by rw [m_MC_end, if_pos h]
theorem e_end_hi {p1 : Int32} (h0 : ¬ p1 < 0) (h : 20 < p1) : (m_MC_end 1500 (fun _ => 0) [] 0 p1).1 = -1 := by rw [m_MC_end, if_neg h0, if_pos h]
theorem e_get (k : Int32) : m_Row_get [] k = -1 := by
  rw [m_Row_get]
  by_cases h : k < 0
  · rw [if_pos h]
  · rw [if_neg h, if_pos]
    have h0 : nI ([] : List Int32).length = 0 := rfl
    rw [h0]
    rw [Int32.lt_iff_toInt_lt] at h
    rw [Int32.le_iff_toInt_le]
    omega
theorem e_byteAt (k : Int32) : m_MC_byteAt [] k = -1 := e_get k
theorem e_at (k : Int32) : m_MC_at [] k = -1 := e_get k
theorem e_count_0 : m_MC_count [] [] 0 = 0 := by decide +kernel
theorem e_count_1 : m_MC_count [] [] 1 = 0 := by decide +kernel
theorem e_count_2 : m_MC_count [] [] 2 = 0 := by decide +kernel
theorem e_count_no {p1 : Int32} (h0 : ¬ p1 = 0) (h1 : ¬ p1 = 1) (h2 : ¬ p1 = 2) : m_MC_count [] [] p1 = -1 := by rw [m_MC_count, if_neg h0, if_neg h1, if_neg h2]
theorem e_charset : (m_MC_charset []).1 = -1 := by decide +kernel
theorem e_words : (m_MC_words 3000 1500 [] 0 0 0 0 0 0 0 0 [] 0 0 0).1 = 0 := by decide +kernel
theorem e_uncode_0 (a1 : Nat) (a2 : Nat) : (m_MC_uncode_t a1 a2 1500 [] [] 0 0 0 0 0 0 0 0).1 = 0 ∧ (m_MC_uncode_t a1 a2 1500 [] [] 0 0 0 0 0 0 0 0).2.1 = 0 := ⟨rfl, rfl⟩
theorem e_uncode_1 (a1 : Nat) (a2 : Nat) : (m_MC_uncode_t a1 a2 1500 [] [] 0 0 0 0 0 0 0 1).1 = 0 ∧ (m_MC_uncode_t a1 a2 1500 [] [] 0 0 0 0 0 0 0 1).2.1 = 0 := ⟨rfl, rfl⟩
theorem e_uncode_2 (a1 : Nat) (a2 : Nat) : (m_MC_uncode_t a1 a2 1500 [] [] 0 0 0 0 0 0 0 2).1 = 0 ∧ (m_MC_uncode_t a1 a2 1500 [] [] 0 0 0 0 0 0 0 2).2.1 = 0 := ⟨rfl, rfl⟩
theorem e_uncode_3 (a1 : Nat) (a2 : Nat) : (m_MC_uncode_t a1 a2 1500 [] [] 0 0 0 0 0 0 0 3).1 = 0 ∧ (m_MC_uncode_t a1 a2 1500 [] [] 0 0 0 0 0 0 0 3).2.1 = 0 := ⟨rfl, rfl⟩
theorem e_uncode_lo (a1 : Nat) (a2 : Nat) {p1 : Int32} (h : p1 < 0) : (m_MC_uncode_t a1 a2 1500 [] [] 0 0 0 0 0 0 0 p1).1 = 1 ∧ (m_MC_uncode_t a1 a2 1500 [] [] 0 0 0 0 0 0 0 p1).2.1 = 0 := by rw [m_MC_uncode_t, if_pos h]; exact ⟨rfl, rfl⟩
theorem e_uncode_hi (a1 : Nat) (a2 : Nat) {p1 : Int32} (h0 : ¬ p1 < 0) (h : ¬ p1 ≤ 3) : (m_MC_uncode_t a1 a2 1500 [] [] 0 0 0 0 0 0 0 p1).1 = 1 ∧ (m_MC_uncode_t a1 a2 1500 [] [] 0 0 0 0 0 0 0 p1).2.1 = 0 := by rw [m_MC_uncode_t, if_neg h0, if_neg h]; exact ⟨rfl, rfl⟩
theorem e_read_0 : (m_MC_read_t 3000 [] 0 [] 0 0 0 0 0).1 = 0 ∧ (m_MC_read_t 3000 [] 0 [] 0 0 0 0 0).2.1 = 0 := ⟨rfl, rfl⟩
theorem e_read_1 : (m_MC_read_t 3000 [] 0 [] 0 0 0 0 1).1 = 0 ∧ (m_MC_read_t 3000 [] 0 [] 0 0 0 0 1).2.1 = 0 := ⟨rfl, rfl⟩
theorem e_read_2 : (m_MC_read_t 3000 [] 0 [] 0 0 0 0 2).1 = 0 ∧ (m_MC_read_t 3000 [] 0 [] 0 0 0 0 2).2.1 = 0 := ⟨rfl, rfl⟩
theorem e_read_3 : (m_MC_read_t 3000 [] 0 [] 0 0 0 0 3).1 = 0 ∧ (m_MC_read_t 3000 [] 0 [] 0 0 0 0 3).2.1 = 0 := ⟨rfl, rfl⟩
theorem e_read_4 : (m_MC_read_t 3000 [] 0 [] 0 0 0 0 4).1 = 0 ∧ (m_MC_read_t 3000 [] 0 [] 0 0 0 0 4).2.1 = 0 := ⟨rfl, rfl⟩
theorem e_read_5 : (m_MC_read_t 3000 [] 0 [] 0 0 0 0 5).1 = 0 ∧ (m_MC_read_t 3000 [] 0 [] 0 0 0 0 5).2.1 = 0 := ⟨rfl, rfl⟩
theorem e_read_6 : (m_MC_read_t 3000 [] 0 [] 0 0 0 0 6).1 = 0 ∧ (m_MC_read_t 3000 [] 0 [] 0 0 0 0 6).2.1 = 0 := ⟨rfl, rfl⟩
theorem e_read_7 : (m_MC_read_t 3000 [] 0 [] 0 0 0 0 7).1 = 0 ∧ (m_MC_read_t 3000 [] 0 [] 0 0 0 0 7).2.1 = 0 := ⟨rfl, rfl⟩
theorem e_read_8 : (m_MC_read_t 3000 [] 0 [] 0 0 0 0 8).1 = 0 ∧ (m_MC_read_t 3000 [] 0 [] 0 0 0 0 8).2.1 = 0 := ⟨rfl, rfl⟩
theorem e_read_9 : (m_MC_read_t 3000 [] 0 [] 0 0 0 0 9).1 = 0 ∧ (m_MC_read_t 3000 [] 0 [] 0 0 0 0 9).2.1 = 0 := ⟨rfl, rfl⟩
theorem e_read_lo {p1 : Int32} (h : p1 < 0) : (m_MC_read_t 3000 [] 0 [] 0 0 0 0 p1).1 = 1 ∧ (m_MC_read_t 3000 [] 0 [] 0 0 0 0 p1).2.1 = 0 := by rw [m_MC_read_t, if_pos (by rw [m_MC_isCharset, if_pos h])]; exact ⟨rfl, rfl⟩
theorem e_read_hi {p1 : Int32} (h0 : ¬ p1 < 0) (h : 9 < p1) : (m_MC_read_t 3000 [] 0 [] 0 0 0 0 p1).1 = 1 ∧ (m_MC_read_t 3000 [] 0 [] 0 0 0 0 p1).2.1 = 0 := by rw [m_MC_read_t, if_pos (by rw [m_MC_isCharset, if_neg h0, if_pos h])]; exact ⟨rfl, rfl⟩
theorem e_write_0 : (m_MC_write_t 1500 [] 0 [] 0 0 0).1 = 0 ∧ (m_MC_write_t 1500 [] 0 [] 0 0 0).2.1 = 0 := ⟨rfl, rfl⟩
theorem e_write_1 : (m_MC_write_t 1500 [] 0 [] 0 0 1).1 = 0 ∧ (m_MC_write_t 1500 [] 0 [] 0 0 1).2.1 = 0 := ⟨rfl, rfl⟩
theorem e_write_2 : (m_MC_write_t 1500 [] 0 [] 0 0 2).1 = 0 ∧ (m_MC_write_t 1500 [] 0 [] 0 0 2).2.1 = 0 := ⟨rfl, rfl⟩
theorem e_write_3 : (m_MC_write_t 1500 [] 0 [] 0 0 3).1 = 0 ∧ (m_MC_write_t 1500 [] 0 [] 0 0 3).2.1 = 0 := ⟨rfl, rfl⟩
theorem e_write_4 : (m_MC_write_t 1500 [] 0 [] 0 0 4).1 = 0 ∧ (m_MC_write_t 1500 [] 0 [] 0 0 4).2.1 = 0 := ⟨rfl, rfl⟩
theorem e_write_5 : (m_MC_write_t 1500 [] 0 [] 0 0 5).1 = 0 ∧ (m_MC_write_t 1500 [] 0 [] 0 0 5).2.1 = 2 := ⟨rfl, rfl⟩
theorem e_write_6 : (m_MC_write_t 1500 [] 0 [] 0 0 6).1 = 0 ∧ (m_MC_write_t 1500 [] 0 [] 0 0 6).2.1 = 0 := ⟨rfl, rfl⟩
theorem e_write_7 : (m_MC_write_t 1500 [] 0 [] 0 0 7).1 = 0 ∧ (m_MC_write_t 1500 [] 0 [] 0 0 7).2.1 = 0 := ⟨rfl, rfl⟩
theorem e_write_8 : (m_MC_write_t 1500 [] 0 [] 0 0 8).1 = 0 ∧ (m_MC_write_t 1500 [] 0 [] 0 0 8).2.1 = 0 := ⟨rfl, rfl⟩
theorem e_write_9 : (m_MC_write_t 1500 [] 0 [] 0 0 9).1 = 0 ∧ (m_MC_write_t 1500 [] 0 [] 0 0 9).2.1 = 0 := ⟨rfl, rfl⟩
theorem e_write_lo {p1 : Int32} (h : p1 < 0) : (m_MC_write_t 1500 [] 0 [] 0 0 p1).1 = 1 ∧ (m_MC_write_t 1500 [] 0 [] 0 0 p1).2.1 = 0 := by rw [m_MC_write_t, if_pos (by rw [m_MC_isCharset, if_pos h])]; exact ⟨rfl, rfl⟩
theorem e_write_hi {p1 : Int32} (h0 : ¬ p1 < 0) (h : 9 < p1) : (m_MC_write_t 1500 [] 0 [] 0 0 p1).1 = 1 ∧ (m_MC_write_t 1500 [] 0 [] 0 0 p1).2.1 = 0 := by rw [m_MC_write_t, if_pos (by rw [m_MC_isCharset, if_neg h0, if_pos h])]; exact ⟨rfl, rfl⟩
theorem e_code_1 (a1 : Nat) (a3 : Nat) : (m_MC_code_t a1 1500 a3 [] 0 0 [] 0 0 1).1 = 0 ∧ (m_MC_code_t a1 1500 a3 [] 0 0 [] 0 0 1).2.1 = 0 := ⟨rfl, rfl⟩
theorem e_code_2 (a1 : Nat) (a3 : Nat) : (m_MC_code_t a1 1500 a3 [] 0 0 [] 0 0 2).1 = 0 ∧ (m_MC_code_t a1 1500 a3 [] 0 0 [] 0 0 2).2.1 = 0 := ⟨rfl, rfl⟩
theorem e_code_no (a1 : Nat) (a3 : Nat) {p1 : Int32} (h1 : ¬ p1 = 1) (h2 : ¬ p1 = 2) : (m_MC_code_t a1 1500 a3 [] 0 0 [] 0 0 p1).1 = 1 ∧ (m_MC_code_t a1 1500 a3 [] 0 0 [] 0 0 p1).2.1 = 0 := by rw [m_MC_code_t, if_neg h1, if_neg h2]; exact ⟨rfl, rfl⟩
