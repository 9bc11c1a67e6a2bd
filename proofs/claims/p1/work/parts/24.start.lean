theorem k_91 : Cond.instantiable "MailCharacters" 9 ∈ gW := gW_at 91 (by decide +kernel) (by decide +kernel)
theorem k_835 : Cond.instantiable "MailCharactersModel" 23 ∈ gW := gW_at 835 (by decide +kernel) (by decide +kernel)
/-! what stays through the run, out of what the Statement gives of the start -/
abbrev sN : List Cond := flatC (Jvm.Cond.and given_1 narrow_1)
def sTm (i : Nat) : Term := .string (gOwn.getD i "") (gIx.getD i 0)
def sSt (t : Nat) : Term := .static "MailCharacters$SingleBytes" (gTn.getD t "") "[I"
set_option maxRecDepth 100000 in
theorem s_nf : ∀ q ∈ gNf, Cond.fieldLinkNest q.1 q.2.1 q.2.2.1 q.2.2.2.1 q.2.2.2.2 "MailCharacters" ∈ lw_tbl := by decide +kernel
set_option maxRecDepth 100000 in
theorem s_nm : ∀ q ∈ gNm, Cond.methodLinkNest q.1 q.2.1 q.2.2 "MailCharacters" ∈ lw_tbl := by decide +kernel
set_option maxRecDepth 100000 in
theorem s_sr : ∀ i : Nat, i < 18 → Cond.stringRef (gOwn.getD i "") (gIx.getD i 0) (gTx.getD i "") ∈ lw_tbl := by decide +kernel
def sF (q : Nat × Nat × Nat) : Cond := match q.1 with
  | 0 => .exactly (sTm q.2.1) "java/lang/String"
  | 1 => .eq (.field (sTm q.2.1) "java/lang/String" "coder" "B") (.int 0)
  | 2 => .arrayOf (.field (sTm q.2.1) "java/lang/String" "value" "[B") .byte
  | 3 => .eq (.length (.field (sTm q.2.1) "java/lang/String" "value" "[B")) (.int (Int32.ofNat (gLen.getD q.2.1 0)))
  | 4 => .eq (.elem (.field (sTm q.2.1) "java/lang/String" "value" "[B") (.int (Int32.ofNat q.2.2))) (.int ((gByt.getD q.2.1 []).getD q.2.2 0))
  | 5 => .not (.eq (sTm q.2.1) (sTm q.2.2))
  | 6 => .isRef (sSt q.2.1)
  | 7 => .arrayOf (sSt q.2.1) .int
  | 8 => .eq (.length (sSt q.2.1)) (.int (Int32.ofNat (tN q.2.1)))
  | _ => .eq (.elem (sSt q.2.1) (.int (Int32.ofNat q.2.2))) (.int (tF q.2.1 q.2.2))
def s_R2 : List (Nat × Nat × Nat) := [(6, 0, 0), (7, 0, 0), (8, 0, 0), (9, 0, 0), (9, 0, 1), (9, 0, 2), (9, 0, 3), (9, 0, 4), (9, 0, 5), (9, 0, 6), (9, 0, 7), (9, 0, 8), (9, 0, 9), (9, 0, 10), (9, 0, 11), (9, 0, 12), (9, 0, 13), (9, 0, 14), (9, 0, 15), (6, 1, 0), (7, 1, 0), (8, 1, 0), (9, 1, 0), (9, 1, 1), (9, 1, 2), (9, 1, 3), (9, 1, 4), (9, 1, 5), (9, 1, 6), (9, 1, 7), (9, 1, 8), (9, 1, 9), (9, 1, 10), (9, 1, 11), (9, 1, 12), (9, 1, 13), (9, 1, 14), (9, 1, 15), (9, 1, 16), (9, 1, 17), (9, 1, 18), (9, 1, 19), (9, 1, 20), (9, 1, 21), (9, 1, 22), (9, 1, 23), (9, 1, 24), (9, 1, 25), (9, 1, 26), (9, 1, 27), (9, 1, 28), (9, 1, 29), (9, 1, 30), (9, 1, 31), (6, 2, 0), (7, 2, 0), (8, 2, 0), (9, 2, 0), (9, 2, 1), (9, 2, 2), (9, 2, 3), (9, 2, 4), (9, 2, 5), (9, 2, 6), (9, 2, 7), (9, 2, 8), (9, 2, 9), (9, 2, 10), (9, 2, 11), (9, 2, 12), (9, 2, 13), (9, 2, 14), (9, 2, 15), (9, 2, 16), (9, 2, 17), (9, 2, 18), (9, 2, 19), (9, 2, 20), (9, 2, 21), (9, 2, 22), (9, 2, 23), (9, 2, 24), (9, 2, 25), (9, 2, 26), (9, 2, 27), (9, 2, 28), (9, 2, 29), (9, 2, 30), (9, 2, 31)]
set_option maxRecDepth 100000 in
set_option maxHeartbeats 4000000 in
theorem s_R2_ok : (sN.drop 9).take 89 = s_R2.map sF := rfl
def s_R1 : List (Nat × Nat × Nat) := [(0, 5, 0), (1, 5, 0), (2, 5, 0), (3, 5, 0), (4, 5, 0), (4, 5, 1), (4, 5, 2), (4, 5, 3), (4, 5, 4), (4, 5, 5), (4, 5, 6), (4, 5, 7), (4, 5, 8), (4, 5, 9), (4, 5, 10), (4, 5, 11), (4, 5, 12), (4, 5, 13), (4, 5, 14), (4, 5, 15), (4, 5, 16), (4, 5, 17), (4, 5, 18), (4, 5, 19), (4, 5, 20), (4, 5, 21), (4, 5, 22), (4, 5, 23), (4, 5, 24), (4, 5, 25), (4, 5, 26), (4, 5, 27), (4, 5, 28), (4, 5, 29), (4, 5, 30), (4, 5, 31), (4, 5, 32), (4, 5, 33), (4, 5, 34), (4, 5, 35), (4, 5, 36), (4, 5, 37), (4, 5, 38), (4, 5, 39), (4, 5, 40), (4, 5, 41), (4, 5, 42), (4, 5, 43), (4, 5, 44), (4, 5, 45), (0, 6, 0), (1, 6, 0), (2, 6, 0), (3, 6, 0), (4, 6, 0), (4, 6, 1), (4, 6, 2), (4, 6, 3), (4, 6, 4), (4, 6, 5), (4, 6, 6), (4, 6, 7), (4, 6, 8), (4, 6, 9), (4, 6, 10), (4, 6, 11), (4, 6, 12), (4, 6, 13), (4, 6, 14), (4, 6, 15), (4, 6, 16), (4, 6, 17), (4, 6, 18), (4, 6, 19), (4, 6, 20), (4, 6, 21), (4, 6, 22), (4, 6, 23), (4, 6, 24), (4, 6, 25), (4, 6, 26), (4, 6, 27), (4, 6, 28), (4, 6, 29), (4, 6, 30), (4, 6, 31), (4, 6, 32), (4, 6, 33), (4, 6, 34), (4, 6, 35), (4, 6, 36), (5, 5, 6), (0, 7, 0), (1, 7, 0), (2, 7, 0), (3, 7, 0), (4, 7, 0), (4, 7, 1), (4, 7, 2), (4, 7, 3), (4, 7, 4), (4, 7, 5), (4, 7, 6), (4, 7, 7), (4, 7, 8), (4, 7, 9), (4, 7, 10), (4, 7, 11), (4, 7, 12), (4, 7, 13), (4, 7, 14), (4, 7, 15), (4, 7, 16), (4, 7, 17), (4, 7, 18), (4, 7, 19), (4, 7, 20), (4, 7, 21), (4, 7, 22), (4, 7, 23), (4, 7, 24), (4, 7, 25), (4, 7, 26), (4, 7, 27), (4, 7, 28), (4, 7, 29), (4, 7, 30), (4, 7, 31), (4, 7, 32), (4, 7, 33), (4, 7, 34), (4, 7, 35), (4, 7, 36), (4, 7, 37), (5, 5, 7), (5, 6, 7), (0, 8, 0), (1, 8, 0), (2, 8, 0), (3, 8, 0), (4, 8, 0), (4, 8, 1), (4, 8, 2), (4, 8, 3), (4, 8, 4), (4, 8, 5), (4, 8, 6), (4, 8, 7), (4, 8, 8), (4, 8, 9), (4, 8, 10), (4, 8, 11), (4, 8, 12), (4, 8, 13), (4, 8, 14), (4, 8, 15), (4, 8, 16), (4, 8, 17), (4, 8, 18), (4, 8, 19), (4, 8, 20), (4, 8, 21), (4, 8, 22), (4, 8, 23), (4, 8, 24), (4, 8, 25), (4, 8, 26), (4, 8, 27), (4, 8, 28), (5, 5, 8), (5, 6, 8), (5, 7, 8), (0, 9, 0), (1, 9, 0), (2, 9, 0), (3, 9, 0), (4, 9, 0), (4, 9, 1), (4, 9, 2), (4, 9, 3), (4, 9, 4), (4, 9, 5), (4, 9, 6), (4, 9, 7), (4, 9, 8), (4, 9, 9), (4, 9, 10), (5, 5, 9), (5, 6, 9), (5, 7, 9), (5, 8, 9), (0, 10, 0), (1, 10, 0), (2, 10, 0), (3, 10, 0), (4, 10, 0), (4, 10, 1), (4, 10, 2), (4, 10, 3), (4, 10, 4), (4, 10, 5), (4, 10, 6), (4, 10, 7), (4, 10, 8), (4, 10, 9), (4, 10, 10), (4, 10, 11), (4, 10, 12), (5, 5, 10), (5, 6, 10), (5, 7, 10), (5, 8, 10), (5, 9, 10), (0, 11, 0), (1, 11, 0), (2, 11, 0), (3, 11, 0), (4, 11, 0), (4, 11, 1), (4, 11, 2), (4, 11, 3), (4, 11, 4), (4, 11, 5), (4, 11, 6), (4, 11, 7), (4, 11, 8), (5, 5, 11), (5, 6, 11), (5, 7, 11), (5, 8, 11), (5, 9, 11), (5, 10, 11), (0, 12, 0), (1, 12, 0), (2, 12, 0), (3, 12, 0), (4, 12, 0), (4, 12, 1), (4, 12, 2), (4, 12, 3), (4, 12, 4), (4, 12, 5), (4, 12, 6), (4, 12, 7), (4, 12, 8), (5, 5, 12), (5, 6, 12), (5, 7, 12), (5, 8, 12), (5, 9, 12), (5, 10, 12), (5, 11, 12), (0, 13, 0), (1, 13, 0), (2, 13, 0), (3, 13, 0), (4, 13, 0), (4, 13, 1), (4, 13, 2), (4, 13, 3), (4, 13, 4), (4, 13, 5), (4, 13, 6), (4, 13, 7), (4, 13, 8), (4, 13, 9), (4, 13, 10), (4, 13, 11), (4, 13, 12), (5, 5, 13), (5, 6, 13), (5, 7, 13), (5, 8, 13), (5, 9, 13), (5, 10, 13), (5, 11, 13), (5, 12, 13), (0, 14, 0), (1, 14, 0), (2, 14, 0), (3, 14, 0), (4, 14, 0), (4, 14, 1), (4, 14, 2), (4, 14, 3), (4, 14, 4), (4, 14, 5), (4, 14, 6), (4, 14, 7), (4, 14, 8), (4, 14, 9), (4, 14, 10), (5, 5, 14), (5, 6, 14), (5, 7, 14), (5, 8, 14), (5, 9, 14), (5, 10, 14), (5, 11, 14), (5, 12, 14), (5, 13, 14), (0, 15, 0), (1, 15, 0), (2, 15, 0), (3, 15, 0), (5, 5, 15), (5, 6, 15), (5, 7, 15), (5, 8, 15), (5, 9, 15), (5, 10, 15), (5, 11, 15), (5, 12, 15), (5, 13, 15), (5, 14, 15), (0, 0, 0), (1, 0, 0), (2, 0, 0), (3, 0, 0), (4, 0, 0), (4, 0, 1), (4, 0, 2), (4, 0, 3), (4, 0, 4), (4, 0, 5), (4, 0, 6), (4, 0, 7), (4, 0, 8), (4, 0, 9), (4, 0, 10), (4, 0, 11), (4, 0, 12), (4, 0, 13), (5, 5, 0), (5, 6, 0), (5, 7, 0), (5, 8, 0), (5, 9, 0), (5, 10, 0), (5, 11, 0), (5, 12, 0), (5, 13, 0), (5, 14, 0), (5, 15, 0), (0, 16, 0), (1, 16, 0), (2, 16, 0), (3, 16, 0), (4, 16, 0), (4, 16, 1), (4, 16, 2), (4, 16, 3), (4, 16, 4), (4, 16, 5), (5, 5, 16), (5, 6, 16), (5, 7, 16), (5, 8, 16), (5, 9, 16), (5, 10, 16), (5, 11, 16), (5, 12, 16), (5, 13, 16), (5, 14, 16), (5, 15, 16), (5, 0, 16), (0, 17, 0), (1, 17, 0), (2, 17, 0), (3, 17, 0), (4, 17, 0), (4, 17, 1), (4, 17, 2), (5, 5, 17), (5, 6, 17), (5, 7, 17), (5, 8, 17), (5, 9, 17), (5, 10, 17), (5, 11, 17), (5, 12, 17), (5, 13, 17), (5, 14, 17), (5, 15, 17), (5, 0, 17), (5, 16, 17), (0, 1, 0), (1, 1, 0), (2, 1, 0), (3, 1, 0), (4, 1, 0), (4, 1, 1), (4, 1, 2), (4, 1, 3), (4, 1, 4), (4, 1, 5), (4, 1, 6), (4, 1, 7), (4, 1, 8), (4, 1, 9), (4, 1, 10), (4, 1, 11), (4, 1, 12), (4, 1, 13), (4, 1, 14), (5, 5, 1), (5, 6, 1), (5, 7, 1), (5, 8, 1), (5, 9, 1), (5, 10, 1), (5, 11, 1), (5, 12, 1), (5, 13, 1), (5, 14, 1), (5, 15, 1), (5, 0, 1), (5, 16, 1), (5, 17, 1), (0, 2, 0), (1, 2, 0), (2, 2, 0), (3, 2, 0), (4, 2, 0), (4, 2, 1), (4, 2, 2), (4, 2, 3), (4, 2, 4), (4, 2, 5), (4, 2, 6), (4, 2, 7), (4, 2, 8), (4, 2, 9), (4, 2, 10), (4, 2, 11), (4, 2, 12), (4, 2, 13), (4, 2, 14), (4, 2, 15), (4, 2, 16), (4, 2, 17), (4, 2, 18), (4, 2, 19), (4, 2, 20), (4, 2, 21), (4, 2, 22), (5, 5, 2), (5, 6, 2), (5, 7, 2), (5, 8, 2), (5, 9, 2), (5, 10, 2), (5, 11, 2), (5, 12, 2), (5, 13, 2), (5, 14, 2), (5, 15, 2), (5, 0, 2), (5, 16, 2), (5, 17, 2), (5, 1, 2), (0, 4, 0), (1, 4, 0), (2, 4, 0), (3, 4, 0), (4, 4, 0), (4, 4, 1), (4, 4, 2), (4, 4, 3), (4, 4, 4), (4, 4, 5), (4, 4, 6), (4, 4, 7), (4, 4, 8), (4, 4, 9), (4, 4, 10), (4, 4, 11), (4, 4, 12), (4, 4, 13), (4, 4, 14), (4, 4, 15), (5, 5, 4), (5, 6, 4), (5, 7, 4), (5, 8, 4), (5, 9, 4), (5, 10, 4), (5, 11, 4), (5, 12, 4), (5, 13, 4), (5, 14, 4), (5, 15, 4), (5, 0, 4), (5, 16, 4), (5, 17, 4), (5, 1, 4), (5, 2, 4), (0, 3, 0), (1, 3, 0), (2, 3, 0), (3, 3, 0), (4, 3, 0), (4, 3, 1), (4, 3, 2), (4, 3, 3), (4, 3, 4), (4, 3, 5), (4, 3, 6), (4, 3, 7), (4, 3, 8), (4, 3, 9), (4, 3, 10), (4, 3, 11), (4, 3, 12), (4, 3, 13), (4, 3, 14), (4, 3, 15), (4, 3, 16), (4, 3, 17), (4, 3, 18), (4, 3, 19), (4, 3, 20), (4, 3, 21), (4, 3, 22), (4, 3, 23), (4, 3, 24), (4, 3, 25), (4, 3, 26), (4, 3, 27), (4, 3, 28), (4, 3, 29), (5, 5, 3), (5, 6, 3), (5, 7, 3), (5, 8, 3), (5, 9, 3), (5, 10, 3), (5, 11, 3), (5, 12, 3), (5, 13, 3), (5, 14, 3), (5, 15, 3), (5, 0, 3), (5, 16, 3), (5, 17, 3), (5, 1, 3), (5, 2, 3), (5, 4, 3)]
set_option maxRecDepth 100000 in
set_option maxHeartbeats 4000000 in
theorem s_R1_ok : (sN.drop 122).take 548 = s_R1.map sF := rfl

theorem s_in {L : List Cond} {B n : Nat} {R : List (Nat × Nat × Nat)} (h : (L.drop B).take n = R.map sF) {q : Nat × Nat × Nat} (hq : q ∈ R) : sF q ∈ L := by
  have h1 : sF q ∈ R.map sF := List.mem_map.mpr ⟨q, hq, rfl⟩
  rw [← h] at h1
  exact List.mem_of_mem_drop (List.mem_of_mem_take h1)
theorem s_ex (i : Nat) (hi : i < 18) : Cond.exactly (sTm i) "java/lang/String" ∈ sN := s_in s_R1_ok (q := (0, i, 0)) (by revert i; decide +kernel)
theorem s_co (i : Nat) (hi : i < 18) : Cond.eq (.field (sTm i) "java/lang/String" "coder" "B") (.int 0) ∈ sN := s_in s_R1_ok (q := (1, i, 0)) (by revert i; decide +kernel)
theorem s_ar (i : Nat) (hi : i < 18) : Cond.arrayOf (.field (sTm i) "java/lang/String" "value" "[B") .byte ∈ sN := s_in s_R1_ok (q := (2, i, 0)) (by revert i; decide +kernel)
theorem s_le (i : Nat) (hi : i < 18) : Cond.eq (.length (.field (sTm i) "java/lang/String" "value" "[B")) (.int (Int32.ofNat (gLen.getD i 0))) ∈ sN := s_in s_R1_ok (q := (3, i, 0)) (by revert i; decide +kernel)
theorem s_el (i : Nat) (hi : i < 18) (j : Nat) (hj : j < gLen.getD i 0) : Cond.eq (.elem (.field (sTm i) "java/lang/String" "value" "[B") (.int (Int32.ofNat j))) (.int ((gByt.getD i []).getD j 0)) ∈ sN := s_in s_R1_ok (q := (4, i, j)) (by revert hj; revert j; revert hi; revert i; decide +kernel)
theorem s_ne0 : ∀ i : Nat, i < 18 → ∀ j : Nat, j < 18 → (decide (i = j) || (decide ((5, i, j) ∈ s_R1) || decide ((5, j, i) ∈ s_R1))) = true := by decide +kernel
theorem s_ne (i : Nat) (hi : i < 18) (j : Nat) (hj : j < 18) (hn : i ≠ j) : Cond.not (Cond.eq (sTm i) (sTm j)) ∈ sN ∨ Cond.not (Cond.eq (sTm j) (sTm i)) ∈ sN := ((show i = j ∨ (5, i, j) ∈ s_R1 ∨ (5, j, i) ∈ s_R1 by have h := s_ne0 i hi j hj; rw [Bool.or_eq_true, Bool.or_eq_true, decide_eq_true_eq, decide_eq_true_eq, decide_eq_true_eq] at h; exact h).resolve_left hn).elim (fun h => Or.inl (s_in s_R1_ok h)) (fun h => Or.inr (s_in s_R1_ok h))
theorem s_ta (t : Nat) (ht : t < 3) : Cond.arrayOf (sSt t) .int ∈ sN := s_in s_R2_ok (q := (7, t, 0)) (by revert t; decide +kernel)
theorem s_tl (t : Nat) (ht : t < 3) : Cond.eq (.length (sSt t)) (.int (Int32.ofNat (tN t))) ∈ sN := s_in s_R2_ok (q := (8, t, 0)) (by revert t; decide +kernel)
theorem s_te (t : Nat) (ht : t < 3) (j : Nat) (hj : j < tN t) : Cond.eq (.elem (sSt t) (.int (Int32.ofNat j))) (.int (tF t j)) ∈ sN := s_in s_R2_ok (q := (9, t, j)) (by revert hj; revert j; revert ht; revert t; decide +kernel)
set_option maxRecDepth 100000 in
theorem s_ts : ∀ t : Nat, t < 3 → Cond.laysStatic "MailCharacters$SingleBytes" (gTn.getD t "") "[I" ∈ lw_tbl := by decide +kernel
set_option maxRecDepth 100000 in
theorem s_dx : ∀ x ∈ gDx, Cond.declares x ∈ lw_tbl := by decide +kernel
set_option maxRecDepth 100000 in
theorem s_cx : ∀ x ∈ gCx, Cond.castable x x ∈ lw_tbl := by decide +kernel
theorem s_th {args : Array Value} {s : State} {n d : String} {A : Nat → Prop} (hl : (Cond.laysStatic "java/lang/Throwable" n d).before args s = true) (h : (Cond.isRef (.static "java/lang/Throwable" n d)).before args s = true) (hA : ∀ a : Nat, a < s.heap.size → ¬ A a) : gTh n d A s s.heap := by
  obtain ⟨c, k, i, f, a, cell, hc, hi, hst, ha, hcell, hs, hcls, hlt, hty⟩ := Cond.laysStatic_spec hl
  cases hv : (Term.static "java/lang/Throwable" n d).eval args s none [] s with
  | none => simp [Cond.before, Cond.holds, Cond.value, hv] at h
  | some w =>
    obtain ⟨hst', a', cell', ha', hcell', -, hslot⟩ := Term.static_spec hi hv
    cases ha.symm.trans ha'
    cases hcell.symm.trans hcell'
    refine ⟨c, k, i, f, a, cell, w, hc, hi, hst, ha, hcell, hs, hcls, hlt, hty, hslot, ?_, hA a (Array.getElem?_eq_some_iff.mp hcell).1⟩
    simp only [Cond.before, Cond.holds, Cond.value, hv] at h
    cases w with
    | null => exact Or.inl rfl
    | ref t => exact Or.inr ⟨t, rfl⟩
    | _ => simp at h
theorem s_Z {args : Array Value} {s : State} {A : Nat → Prop} (hts : ∀ w ∈ lw_tbl, w.before args s = true) (hg : (Jvm.Cond.and given_1 narrow_1).before args s = true) (hA : ∀ a : Nat, a < s.heap.size → ¬ A a) : ∃ Z : gZT, gZ Z A s s.heap := by
  have hs := flat_of_before _ hg
  obtain ⟨adK, adV, hS, hE⟩ := vk_Sof (args := args) (s := s) (N := 18) (tm := sTm) (len := gLen) (byt := gByt) (A := A) (fun i hi => gS_small hi) (fun i hi => hs _ (s_ex i hi)) (fun i hi => hs _ (s_co i hi)) (fun i hi => hs _ (s_ar i hi)) (fun i hi => hs _ (s_le i hi)) (fun i hi j hj => hs _ (s_el i hi j hj)) (fun i j hi hj hn => (s_ne i hi j hj hn).elim (fun h => Or.inl (hs _ h)) (fun h => Or.inr (hs _ h))) hA
  have hT : ∀ t : Nat, ∃ q : Nat, t < 3 → (sSt t).eval args s none [] s = some (.ref q) ∧ va_T .int q (tN t) (fun j => .int (tF t j)) A s s.heap := by
    intro t
    by_cases ht : t < 3
    · obtain ⟨q, h1, h2⟩ := va_Tof (args := args) (s := s) (tm := sSt t) (ty := .int) (N := tN t) (f := fun j => .int (tF t j)) (A := A) (gT_small ht) (hs _ (s_ta t ht)) (va_eqt (hs _ (s_tl t ht))) (fun j hj => va_eqt (hs _ (s_te t ht j hj))) hA
      exact ⟨q, fun _ => ⟨h1, h2⟩⟩
    · exact ⟨0, fun h => absurd h ht⟩
  obtain ⟨adT, hT⟩ := Classical.axiomOfChoice hT
  refine ⟨(adK, adV, adT), fun q hq => va_Nw.of rfl (hts _ (s_nf q hq)), fun q hq => va_Nw.of rfl (hts _ (s_nm q hq)), hS, fun i hi => vk_R.of (A := args) (hts _ (s_sr i hi)) (hE i hi), fun t ht => ⟨va_Zof (hts _ (s_ts t ht)) (hts (.initialized "MailCharacters$SingleBytes") (by decide +kernel)) (hT t ht).1 hA, (hT t ht).2⟩, va_Zof (hts (.laysStatic "java/lang/String" "COMPACT_STRINGS" "Z") (by decide +kernel)) (hts (.initialized "java/lang/String") (by decide +kernel)) (va_eqi (hs (.eq (.static "java/lang/String" "COMPACT_STRINGS" "Z") (.int 1)) (by decide +kernel))) hA, va_Zqof (hts (.laysStatic "jdk/internal/util/Preconditions" "SIOOBE_FORMATTER" "Ljava/util/function/BiFunction;") (by decide +kernel)) (hts (.initialized "jdk/internal/util/Preconditions") (by decide +kernel)) (hs (.isRef (.static "jdk/internal/util/Preconditions" "SIOOBE_FORMATTER" "Ljava/util/function/BiFunction;")) (by decide +kernel)) hA, fun x hx => va_Nw.of rfl (hts _ (s_dx x hx)), fun x hx => va_Nw.of rfl (hts _ (s_cx x hx)), s_th (hts (.laysStatic "java/lang/Throwable" "UNASSIGNED_STACK" "[Ljava/lang/StackTraceElement;") (by decide +kernel)) (hs (.isRef (.static "java/lang/Throwable" "UNASSIGNED_STACK" "[Ljava/lang/StackTraceElement;")) (by decide +kernel)) hA, s_th (hts (.laysStatic "java/lang/Throwable" "SUPPRESSED_SENTINEL" "Ljava/util/List;") (by decide +kernel)) (hs (.isRef (.static "java/lang/Throwable" "SUPPRESSED_SENTINEL" "Ljava/util/List;")) (by decide +kernel)) hA⟩
/-- the launch makes no stack traces -/
theorem s_nt {l : Launch} (hf : l.flags = flags0) : ∀ e, l.admits e → e.platform.stackTraces = false := by
  intro e h
  have h1 := congrArg Platform.stackTraces h.platform
  refine h1.trans ?_
  show l.stackTraces = false
  rw [Launch.stackTraces, hf]
  decide +kernel
theorem s_arr {args : Array Value} {s : State} {ty : FieldType} (h : (Cond.arrayClass ty).before args s = true) : ∃ cA, ArrOfT s cA ty ∧ s.vm.findClass ("[" ++ ty.toString) = some cA := by
  obtain ⟨c, k, comp, h1, h2, h3⟩ := Cond.arrayClass_spec h
  exact ⟨c, fun n z => ⟨fun k h => (by cases h), k, h2, comp, h3⟩, h1⟩

set_option maxHeartbeats 1000000 in
theorem s_K {args : Array Value} {s : State} (hts : ∀ w ∈ gW, w.before args s = true) : ∃ (D : va_G) (kI : ClassId), va_K D vwCl (gTys D kI) s := by
  obtain ⟨c0, i0, h0⟩ := u_known (C := "MailCharacters$Bits") (T := F_Bits) (N := 2) (n := 2) hts i_Bits (hts (.instantiable "MailCharacters$Bits" 2) k_126)
  obtain ⟨c1, i1, h1⟩ := u_known (C := "MailCharacters$Coder") (T := F_Coder) (N := 2) (n := 2) hts i_Coder (hts (.instantiable "MailCharacters$Coder" 2) k_168)
  obtain ⟨c2, i2, h2⟩ := u_known (C := "MailCharacters$Line") (T := F_Line) (N := 4) (n := 4) hts i_Line (hts (.instantiable "MailCharacters$Line" 4) k_139)
  obtain ⟨c3, i3, h3⟩ := u_known (C := "MailCharacters$Reader") (T := F_Reader) (N := 2) (n := 2) hts i_Reader (hts (.instantiable "MailCharacters$Reader" 2) k_183)
  obtain ⟨c4, i4, h4⟩ := u_known (C := "MailCharacters$Row") (T := F_Row) (N := 3) (n := 3) hts i_Row (hts (.instantiable "MailCharacters$Row" 3) k_99)
  obtain ⟨c5, i5, h5⟩ := u_known (C := "MailCharacters$Uncoder") (T := F_Uncoder) (N := 2) (n := 2) hts i_Uncoder (hts (.instantiable "MailCharacters$Uncoder" 2) k_120)
  obtain ⟨c6, i6, h6⟩ := u_known (C := "MailCharacters$Word") (T := F_Word) (N := 5) (n := 5) hts i_Word (hts (.instantiable "MailCharacters$Word" 5) k_210)
  obtain ⟨c7, i7, h7⟩ := u_known (C := "MailCharacters$Writer") (T := F_Writer) (N := 1) (n := 1) hts i_Writer (hts (.instantiable "MailCharacters$Writer" 1) k_198)
  obtain ⟨c8, i8, h8⟩ := u_known (C := "MailCharacters") (T := F_MC) (N := 9) (n := 9) hts i_MC (hts (.instantiable "MailCharacters" 9) k_91)
  obtain ⟨c9, i9, h9⟩ := u_known (C := "MailCharactersModel") (T := F_MM) (N := 23) (n := 23) hts i_MM (hts (.instantiable "MailCharactersModel" 23) k_835)
  obtain ⟨kI, aI, bI⟩ := s_arr (ty := .int) (hts _ k_arrInt)
  obtain ⟨kB, aB, bB⟩ := s_arr (ty := .byte) (hts _ k_arrByte)
  obtain ⟨kL, aL, bL⟩ := s_arr (ty := .long) (hts _ k_arrLong)
  refine ⟨(fun k => match k with | 0 => c0 | 1 => c1 | 2 => c2 | 3 => c3 | 4 => c4 | 5 => c5 | 6 => c6 | 7 => c7 | 8 => c8 | 9 => c9 | 100 => kB | 101 => kL | _ => 0, fun k => match k with | 0 => i0 | 1 => i1 | 2 => i2 | 3 => i3 | 4 => i4 | 5 => i5 | 6 => i6 | 7 => i7 | 8 => i8 | 9 => i9 | _ => fun _ => 0), kI, ?_, ?_⟩
  · intro k q hq
    match k, hq with
    | 0, hq => cases hq; exact h0
    | 1, hq => cases hq; exact h1
    | 2, hq => cases hq; exact h2
    | 3, hq => cases hq; exact h3
    | 4, hq => cases hq; exact h4
    | 5, hq => cases hq; exact h5
    | 6, hq => cases hq; exact h6
    | 7, hq => cases hq; exact h7
    | 8, hq => cases hq; exact h8
    | 9, hq => cases hq; exact h9
    | k + 10, hq => simp [vwCl] at hq
  · intro k q hq
    match k, hq with
    | 0, hq => cases hq; exact ⟨aI, bI⟩
    | 1, hq => cases hq; exact ⟨aB, bB⟩
    | 2, hq => cases hq; exact ⟨aL, bL⟩
    | k + 3, hq => simp [gTys] at hq
