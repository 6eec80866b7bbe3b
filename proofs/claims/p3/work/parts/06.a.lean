theorem dX12_in_0 : decode cX12_in 0 = .ok (.iload_n 0, 1) := by decide +kernel
theorem dX12_in_1 : decode cX12_in 1 = .ok (.iload_n 1, 1) := by decide +kernel
theorem dX12_in_2 : decode cX12_in 2 = .ok (.if_icmp .lt 12, 3) := by decide +kernel
theorem dX12_in_14 : decode cX12_in 14 = .ok (.iconst 0, 1) := by decide +kernel
theorem dX12_in_15 : decode cX12_in 15 = .ok (.ireturn, 1) := by decide +kernel
theorem dX12_in_5 : decode cX12_in 5 = .ok (.iload_n 0, 1) := by decide +kernel
theorem dX12_in_6 : decode cX12_in 6 = .ok (.iload_n 2, 1) := by decide +kernel
theorem dX12_in_7 : decode cX12_in 7 = .ok (.if_icmp .gt 7, 3) := by decide +kernel
theorem dX12_in_10 : decode cX12_in 10 = .ok (.iconst 1, 1) := by decide +kernel
theorem dX12_in_11 : decode cX12_in 11 = .ok (.goto 4, 3) := by decide +kernel
set_option maxRecDepth 20000 in
theorem c_X12_in (d : Nat) {b : Nat} {σ : MS} {x : Int} {lo : Int} {hi : Int} (h_x : -2147483648 ≤ x ∧ x ≤ 2147483647) (h_lo : -2147483648 ≤ lo ∧ lo ≤ 2147483647) (h_hi : -2147483648 ≤ hi ∧ hi ≤ 2147483647) : Tm (d + 1) m_X12_in 0 b σ [(0, .int (iI x)), (1, .int (iI lo)), (2, .int (iI hi))] [] (fun r σ2 => ∃ v : Int, r = some (.int (iI v)) ∧ σ = σ2 ∧ (v = 0 ∨ v = 1) ∧ (v = 1 ↔ lo ≤ x ∧ x ≤ hi)) := by
  refine tm_iload_n dX12_in_0 rfl 0 rfl ?_
  refine tm_iload_n dX12_in_1 rfl 1 rfl ?_
  refine tm_icmp_lt (tgt := 14) dX12_in_2 (by decide) ⟨by omega, by omega⟩ ⟨by omega, by omega⟩ (fun h1 => ?_) (fun h1 => ?_)
  · refine tm_iconst dX12_in_14 ?_
    exact tm_zret (v := 0) rfl (by decide) dX12_in_15 (⟨_, rfl, rfl, by omega, by omega⟩)
  · refine tm_iload_n dX12_in_5 rfl 0 rfl ?_
    refine tm_iload_n dX12_in_6 rfl 2 rfl ?_
    refine tm_icmp_gt (tgt := 14) dX12_in_7 (by decide) ⟨by omega, by omega⟩ ⟨by omega, by omega⟩ (fun h2 => ?_) (fun h2 => ?_)
    · refine tm_iconst dX12_in_14 ?_
      exact tm_zret (v := 0) rfl (by decide) dX12_in_15 (⟨_, rfl, rfl, by omega, by omega⟩)
    · refine tm_iconst dX12_in_10 ?_
      refine tm_goto (tgt := 15) dX12_in_11 (by decide) ?_
      exact tm_zret (v := 1) rfl (by decide) dX12_in_15 (⟨_, rfl, rfl, by omega, by omega⟩)
theorem dX12_isAct_0 : decode cX12_isAct 0 = .ok (.iload_n 0, 1) := by decide +kernel
theorem dX12_isAct_1 : decode cX12_isAct 1 = .ok (.bipush 10, 2) := by decide +kernel
theorem dX12_isAct_3 : decode cX12_isAct 3 = .ok (.if_icmp .gt 7, 3) := by decide +kernel
theorem dX12_isAct_10 : decode cX12_isAct 10 = .ok (.iconst 0, 1) := by decide +kernel
theorem dX12_isAct_11 : decode cX12_isAct 11 = .ok (.ireturn, 1) := by decide +kernel
theorem dX12_isAct_6 : decode cX12_isAct 6 = .ok (.iconst 1, 1) := by decide +kernel
theorem dX12_isAct_7 : decode cX12_isAct 7 = .ok (.goto 4, 3) := by decide +kernel
set_option maxRecDepth 20000 in
theorem c_X12_isAct (d : Nat) {b : Nat} {σ : MS} {x : Int} (h_x : -2147483648 ≤ x ∧ x ≤ 2147483647) : Tm (d + 1) m_X12_isAct 0 b σ [(0, .int (iI x))] [] (fun r σ2 => ∃ v : Int, r = some (.int (iI v)) ∧ σ = σ2 ∧ (v = 0 ∨ v = 1) ∧ (v = 1 ↔ x ≤ 10)) := by
  refine tm_iload_n dX12_isAct_0 rfl 0 rfl ?_
  refine tm_bipush dX12_isAct_1 (by decide) ?_
  refine tm_icmp_gt (tgt := 10) dX12_isAct_3 (by decide) ⟨by omega, by omega⟩ ⟨by decide, by decide⟩ (fun h1 => ?_) (fun h1 => ?_)
  · refine tm_iconst dX12_isAct_10 ?_
    exact tm_zret (v := 0) rfl (by decide) dX12_isAct_11 (⟨_, rfl, rfl, by omega, by omega⟩)
  · refine tm_iconst dX12_isAct_6 ?_
    refine tm_goto (tgt := 11) dX12_isAct_7 (by decide) ?_
    exact tm_zret (v := 1) rfl (by decide) dX12_isAct_11 (⟨_, rfl, rfl, by omega, by omega⟩)
theorem ml12_188 : Cond.methodLink RX12 188 yX12_in ∈ pWW := pw8 (List.mem_of_getElem? (i := 40) rfl) rfl
theorem dX12_isFive_0 : decode cX12_isFive 0 = .ok (.iload_n 0, 1) := by decide +kernel
theorem dX12_isFive_1 : decode cX12_isFive 1 = .ok (.iconst 1, 1) := by decide +kernel
theorem dX12_isFive_2 : decode cX12_isFive 2 = .ok (.iconst 5, 1) := by decide +kernel
theorem dX12_isFive_3 : decode cX12_isFive 3 = .ok (.invokestatic 188, 3) := by decide +kernel
theorem dX12_isFive_6 : decode cX12_isFive 6 = .ok (.ireturn, 1) := by decide +kernel
set_option maxRecDepth 20000 in
theorem c_X12_isFive (d : Nat) {b : Nat} {σ : MS} {x : Int} (h_x : -2147483648 ≤ x ∧ x ≤ 2147483647) : Tm (d + 2) m_X12_isFive 0 b σ [(0, .int (iI x))] [] (fun r σ2 => ∃ v : Int, r = some (.int (iI v)) ∧ σ = σ2 ∧ (v = 0 ∨ v = 1) ∧ (v = 1 ↔ 1 ≤ x ∧ x ≤ 5)) := by
  refine tm_iload_n dX12_isFive_0 rfl 0 rfl ?_
  refine tm_iconst dX12_isFive_1 ?_
  refine tm_iconst dX12_isFive_2 ?_
  refine tm_callS (M' := m_X12_in) (As := [.int (iI x), .int (iI 1), .int (iI 5)]) (rest := []) dX12_isFive_3 ok_X12_in stt_X12_in ml12_188 np_X12_in rfl (Nat.le_of_ble_eq_true rfl) (Nat.le_of_ble_eq_true rfl) rfl (c_X12_in (d) (σ := σ) (x := x) (lo := 1) (hi := 5) (by omega) (by omega) (by omega)) (fun r1 σ2 hp => ?_)
  obtain ⟨v3, rfl, rfl, f4, f5⟩ := hp
  show Tm _ _ 6 b σ [(0, .int (iI x))] [.int (iI v3)] _
  exact tm_zret (v := v3) rfl (by omega) dX12_isFive_6 (⟨_, rfl, rfl, by omega, by omega⟩)
theorem dX12_writes_0 : decode cX12_writes 0 = .ok (.iload_n 0, 1) := by decide +kernel
theorem dX12_writes_1 : decode cX12_writes 1 = .ok (.iconst 5, 1) := by decide +kernel
theorem dX12_writes_2 : decode cX12_writes 2 = .ok (.if_icmp .le 9, 3) := by decide +kernel
theorem dX12_writes_11 : decode cX12_writes 11 = .ok (.iconst 1, 1) := by decide +kernel
theorem dX12_writes_12 : decode cX12_writes 12 = .ok (.goto 4, 3) := by decide +kernel
theorem dX12_writes_16 : decode cX12_writes 16 = .ok (.ireturn, 1) := by decide +kernel
theorem dX12_writes_5 : decode cX12_writes 5 = .ok (.iload_n 0, 1) := by decide +kernel
theorem dX12_writes_6 : decode cX12_writes 6 = .ok (.bipush 10, 2) := by decide +kernel
theorem dX12_writes_8 : decode cX12_writes 8 = .ok (.if_icmp .ne 7, 3) := by decide +kernel
theorem dX12_writes_15 : decode cX12_writes 15 = .ok (.iconst 0, 1) := by decide +kernel
set_option maxRecDepth 20000 in
theorem c_X12_writes (d : Nat) {b : Nat} {σ : MS} {x : Int} (h_x : -2147483648 ≤ x ∧ x ≤ 2147483647) : Tm (d + 1) m_X12_writes 0 b σ [(0, .int (iI x))] [] (fun r σ2 => ∃ v : Int, r = some (.int (iI v)) ∧ σ = σ2 ∧ (v = 0 ∨ v = 1) ∧ (v = 1 ↔ x ≤ 5 ∨ x = 10)) := by
  refine tm_iload_n dX12_writes_0 rfl 0 rfl ?_
  refine tm_iconst dX12_writes_1 ?_
  refine tm_icmp_le (tgt := 11) dX12_writes_2 (by decide) ⟨by omega, by omega⟩ ⟨by decide, by decide⟩ (fun h1 => ?_) (fun h1 => ?_)
  · refine tm_iconst dX12_writes_11 ?_
    refine tm_goto (tgt := 16) dX12_writes_12 (by decide) ?_
    exact tm_zret (v := 1) rfl (by decide) dX12_writes_16 (⟨_, rfl, rfl, by omega, by omega⟩)
  · refine tm_iload_n dX12_writes_5 rfl 0 rfl ?_
    refine tm_bipush dX12_writes_6 (by decide) ?_
    refine tm_icmp_ne (tgt := 15) dX12_writes_8 (by decide) ⟨by omega, by omega⟩ ⟨by decide, by decide⟩ (fun h2 => ?_) (fun h2 => ?_)
    · refine tm_iconst dX12_writes_15 ?_
      exact tm_zret (v := 0) rfl (by decide) dX12_writes_16 (⟨_, rfl, rfl, by omega, by omega⟩)
    · refine tm_iconst dX12_writes_11 ?_
      refine tm_goto (tgt := 16) dX12_writes_12 (by decide) ?_
      exact tm_zret (v := 1) rfl (by decide) dX12_writes_16 (⟨_, rfl, rfl, by omega, by omega⟩)
theorem dX12_isLetter_0 : decode cX12_isLetter 0 = .ok (.iload_n 0, 1) := by decide +kernel
theorem dX12_isLetter_1 : decode cX12_isLetter 1 = .ok (.bipush 97, 2) := by decide +kernel
theorem dX12_isLetter_3 : decode cX12_isLetter 3 = .ok (.bipush 122, 2) := by decide +kernel
theorem dX12_isLetter_5 : decode cX12_isLetter 5 = .ok (.invokestatic 188, 3) := by decide +kernel
theorem dX12_isLetter_8 : decode cX12_isLetter 8 = .ok (.ireturn, 1) := by decide +kernel
set_option maxRecDepth 20000 in
theorem c_X12_isLetter (d : Nat) {b : Nat} {σ : MS} {x : Int} (h_x : -2147483648 ≤ x ∧ x ≤ 2147483647) : Tm (d + 2) m_X12_isLetter 0 b σ [(0, .int (iI x))] [] (fun r σ2 => ∃ v : Int, r = some (.int (iI v)) ∧ σ = σ2 ∧ (v = 0 ∨ v = 1) ∧ (v = 1 ↔ 97 ≤ x ∧ x ≤ 122)) := by
  refine tm_iload_n dX12_isLetter_0 rfl 0 rfl ?_
  refine tm_bipush dX12_isLetter_1 (by decide) ?_
  refine tm_bipush dX12_isLetter_3 (by decide) ?_
  refine tm_callS (M' := m_X12_in) (As := [.int (iI x), .int (iI 97), .int (iI 122)]) (rest := []) dX12_isLetter_5 ok_X12_in stt_X12_in ml12_188 np_X12_in rfl (Nat.le_of_ble_eq_true rfl) (Nat.le_of_ble_eq_true rfl) rfl (c_X12_in (d) (σ := σ) (x := x) (lo := 97) (hi := 122) (by omega) (by omega) (by omega)) (fun r1 σ2 hp => ?_)
  obtain ⟨v3, rfl, rfl, f4, f5⟩ := hp
  show Tm _ _ 8 b σ [(0, .int (iI x))] [.int (iI v3)] _
  exact tm_zret (v := v3) rfl (by omega) dX12_isLetter_8 (⟨_, rfl, rfl, by omega, by omega⟩)
theorem dX12_isDigit_0 : decode cX12_isDigit 0 = .ok (.iload_n 0, 1) := by decide +kernel
theorem dX12_isDigit_1 : decode cX12_isDigit 1 = .ok (.bipush 48, 2) := by decide +kernel
theorem dX12_isDigit_3 : decode cX12_isDigit 3 = .ok (.bipush 57, 2) := by decide +kernel
theorem dX12_isDigit_5 : decode cX12_isDigit 5 = .ok (.invokestatic 188, 3) := by decide +kernel
theorem dX12_isDigit_8 : decode cX12_isDigit 8 = .ok (.ireturn, 1) := by decide +kernel
set_option maxRecDepth 20000 in
theorem c_X12_isDigit (d : Nat) {b : Nat} {σ : MS} {x : Int} (h_x : -2147483648 ≤ x ∧ x ≤ 2147483647) : Tm (d + 2) m_X12_isDigit 0 b σ [(0, .int (iI x))] [] (fun r σ2 => ∃ v : Int, r = some (.int (iI v)) ∧ σ = σ2 ∧ (v = 0 ∨ v = 1) ∧ (v = 1 ↔ 48 ≤ x ∧ x ≤ 57)) := by
  refine tm_iload_n dX12_isDigit_0 rfl 0 rfl ?_
  refine tm_bipush dX12_isDigit_1 (by decide) ?_
  refine tm_bipush dX12_isDigit_3 (by decide) ?_
  refine tm_callS (M' := m_X12_in) (As := [.int (iI x), .int (iI 48), .int (iI 57)]) (rest := []) dX12_isDigit_5 ok_X12_in stt_X12_in ml12_188 np_X12_in rfl (Nat.le_of_ble_eq_true rfl) (Nat.le_of_ble_eq_true rfl) rfl (c_X12_in (d) (σ := σ) (x := x) (lo := 48) (hi := 57) (by omega) (by omega) (by omega)) (fun r1 σ2 hp => ?_)
  obtain ⟨v3, rfl, rfl, f4, f5⟩ := hp
  show Tm _ _ 8 b σ [(0, .int (iI x))] [.int (iI v3)] _
  exact tm_zret (v := v3) rfl (by omega) dX12_isDigit_8 (⟨_, rfl, rfl, by omega, by omega⟩)
theorem dX12_at_0 : decode cX12_at 0 = .ok (.sipush 220, 3) := by decide +kernel
theorem dX12_at_3 : decode cX12_at 3 = .ok (.iload_n 1, 1) := by decide +kernel
theorem dX12_at_4 : decode cX12_at 4 = .ok (.imul, 1) := by decide +kernel
theorem dX12_at_5 : decode cX12_at 5 = .ok (.iload_n 2, 1) := by decide +kernel
theorem dX12_at_6 : decode cX12_at 6 = .ok (.iadd, 1) := by decide +kernel
theorem dX12_at_7 : decode cX12_at 7 = .ok (.ireturn, 1) := by decide +kernel
set_option maxRecDepth 20000 in
theorem c_X12_at (d : Nat) {b : Nat} {σ : MS} {x : Int} {k : Int} : Tm (d + 1) m_X12_at 0 b σ [(0, .ref b), (1, .int (iI x)), (2, .int (iI k))] [] (fun r σ2 => ∃ v : Int, r = some (.int (iI v)) ∧ σ = σ2 ∧ v = 220 * x + k) := by
  refine tm_sipush dX12_at_0 (by decide) ?_
  refine tm_iload_n dX12_at_3 rfl 1 rfl ?_
  refine tm_imul dX12_at_4 ?_
  refine tm_iload_n dX12_at_5 rfl 2 rfl ?_
  refine tm_iadd dX12_at_6 ?_
  exact tm_iret rfl dX12_at_7 (⟨_, rfl, rfl, by omega⟩)
theorem dX12_bank_0 : decode cX12_bank 0 = .ok (.iload_n 1, 1) := by decide +kernel
theorem dX12_bank_1 : decode cX12_bank 1 = .ok (.iconst 2, 1) := by decide +kernel
theorem dX12_bank_2 : decode cX12_bank 2 = .ok (.if_icmp .ne 8, 3) := by decide +kernel
theorem dX12_bank_10 : decode cX12_bank 10 = .ok (.iconst 0, 1) := by decide +kernel
theorem dX12_bank_11 : decode cX12_bank 11 = .ok (.ireturn, 1) := by decide +kernel
theorem dX12_bank_5 : decode cX12_bank 5 = .ok (.bipush 6, 2) := by decide +kernel
theorem dX12_bank_7 : decode cX12_bank 7 = .ok (.goto 4, 3) := by decide +kernel
set_option maxRecDepth 20000 in
theorem c_X12_bank (d : Nat) {b : Nat} {σ : MS} {m : Int} (h_m : -2147483648 ≤ m ∧ m ≤ 2147483647) : Tm (d + 1) m_X12_bank 0 b σ [(0, .ref b), (1, .int (iI m))] [] (fun r σ2 => ∃ v : Int, r = some (.int (iI v)) ∧ σ = σ2 ∧ (v = 0 ∨ v = 6) ∧ (m = 2 → v = 6) ∧ (m ≠ 2 → v = 0)) := by
  refine tm_iload_n dX12_bank_0 rfl 1 rfl ?_
  refine tm_iconst dX12_bank_1 ?_
  refine tm_icmp_ne (tgt := 10) dX12_bank_2 (by decide) ⟨by omega, by omega⟩ ⟨by decide, by decide⟩ (fun h1 => ?_) (fun h1 => ?_)
  · refine tm_iconst dX12_bank_10 ?_
    exact tm_iret rfl dX12_bank_11 (⟨_, rfl, rfl, by omega, by omega, by omega⟩)
  · refine tm_bipush dX12_bank_5 (by decide) ?_
    refine tm_goto (tgt := 11) dX12_bank_7 (by decide) ?_
    exact tm_iret rfl dX12_bank_11 (⟨_, rfl, rfl, by omega, by omega, by omega⟩)
