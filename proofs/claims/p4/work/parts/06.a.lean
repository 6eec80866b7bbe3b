/-! words of the reference's items -/
def nArgs (σ : MS) (x : Int) : Int := if σ.2.1 3 x = 10 then σ.2.1 11 (σ.2.1 5 x) else if σ.2.1 3 x = 12 then (if 10 ≤ σ.2.1 6 x then 0 else if 2 < σ.2.1 6 x then 2 else 1) else if 1 ≤ σ.2.1 3 x ∧ σ.2.1 3 x ≤ 5 then 2 else if σ.2.1 3 x = 0 ∨ σ.2.1 3 x = 6 ∨ σ.2.1 3 x = 7 ∨ σ.2.1 3 x = 9 then 1 else 0
def PAR (σ : MS) : Prop := ∀ r, 0 ≤ r → r < 6 → 0 ≤ σ.2.1 11 r ∧ σ.2.1 11 r ≤ 4
def fArg (x i k v : Int) (σ : MS) : MS := sA 8 (4 * x + i) v (sA 7 (4 * x + i) k σ)
def fItem (x k d o : Int) (σ : MS) : MS := sA 8 (4 * x + 3) 0 (sA 7 (4 * x + 3) 0 (sA 8 (4 * x + 2) 0 (sA 7 (4 * x + 2) 0 (sA 8 (4 * x + 1) 0 (sA 7 (4 * x + 1) 0 (sA 8 (4 * x + 0) 0 (sA 7 (4 * x + 0) 0 (sA 6 x 0 (sA 5 x o (sA 4 x d (sA 3 x k σ)))))))))))
def fCopy (f t : Int) (σ : MS) : MS := sA 8 (4 * t + 3) (σ.2.1 8 (4 * f + 3)) (sA 7 (4 * t + 3) (σ.2.1 7 (4 * f + 3)) (sA 8 (4 * t + 2) (σ.2.1 8 (4 * f + 2)) (sA 7 (4 * t + 2) (σ.2.1 7 (4 * f + 2)) (sA 8 (4 * t + 1) (σ.2.1 8 (4 * f + 1)) (sA 7 (4 * t + 1) (σ.2.1 7 (4 * f + 1)) (sA 8 (4 * t + 0) (σ.2.1 8 (4 * f + 0)) (sA 7 (4 * t + 0) (σ.2.1 7 (4 * f + 0)) (sA 6 t (σ.2.1 6 f) (sA 5 t (σ.2.1 5 f) (sA 4 t (σ.2.1 4 f) (sA 3 t (σ.2.1 3 f) σ)))))))))))
theorem fArg_fr {x i k v : Int} {σ : MS} : Fr [] [7, 8] [] σ (fArg x i k v σ) := (Fr.rfl.A (by decide)).A (by decide)
theorem fItem_fr {x k d o : Int} {σ : MS} : Fr [] [3, 4, 5, 6, 7, 8] [] σ (fItem x k d o σ) := (((((((((((Fr.rfl.A (by decide)).A (by decide)).A (by decide)).A (by decide)).A (by decide)).A (by decide)).A (by decide)).A (by decide)).A (by decide)).A (by decide)).A (by decide)).A (by decide)
theorem fCopy_fr {f t : Int} {σ : MS} : Fr [] [3, 4, 5, 6, 7, 8] [] σ (fCopy f t σ) := (((((((((((Fr.rfl.A (by decide)).A (by decide)).A (by decide)).A (by decide)).A (by decide)).A (by decide)).A (by decide)).A (by decide)).A (by decide)).A (by decide)).A (by decide)).A (by decide)

theorem dX12_in_0 : decode cX12_in 0 = .ok (.iload_n 0, 1) := by decide +kernel
theorem dX12_in_1 : decode cX12_in 1 = .ok (.iload_n 1, 1) := by decide +kernel
theorem dX12_in_2 : decode cX12_in 2 = .ok (.if_icmp .lt 12, 3) := by decide +kernel
theorem dX12_in_14 : decode cX12_in 14 = .ok (.iconst 0, 1) := by decide +kernel
theorem dX12_in_15 : decode cX12_in 15 = .ok (.ireturn, 1) := by decide +kernel
theorem dX12_in_5 : decode cX12_in 5 = .ok (.iload_n 0, 1) := by decide +kernel
theorem dX12_in_6 : decode cX12_in 6 = .ok (.iload_n 2, 1) := by decide +kernel
theorem dX12_in_7 : decode cX12_in 7 = .ok (.if_icmp .gt 7, 3) := by decide +kernel
theorem dX12_in_10 : decode cX12_in 10 = .ok (.iconst 1, 1) := by decide +kernel
theorem dX12_in_11 : decode cX12_in 11 = .ok (.goto 4, 3) := by decide +kernel
set_option maxRecDepth 20000 in
theorem c_X12_in (d : Nat) {b : Nat} {σ : MS} {x : Int} {lo : Int} {hi : Int} (h_x : -2147483648 ≤ x ∧ x ≤ 2147483647) (h_lo : -2147483648 ≤ lo ∧ lo ≤ 2147483647) (h_hi : -2147483648 ≤ hi ∧ hi ≤ 2147483647) : Tm (d + 1) m_X12_in 0 b σ [(0, .int (iI x)), (1, .int (iI lo)), (2, .int (iI hi))] [] (fun ro σ2 => ∃ v : Int, ro = some (.int (iI v)) ∧ σ = σ2 ∧ ((v = 0 ∨ v = 1)) ∧ ((v = 1 ↔ lo ≤ x ∧ x ≤ hi))) := by
  refine tm_iload_n dX12_in_0 rfl 0 rfl ?_
  refine tm_iload_n dX12_in_1 rfl 1 rfl ?_
  refine tm_icmp_lt (tgt := 14) dX12_in_2 (by decide) ⟨by omega, by omega⟩ ⟨by omega, by omega⟩ (fun h1 => ?_) (fun h1 => ?_)
  · refine tm_iconst dX12_in_14 ?_
    exact tm_zret (v := 0) rfl (by decide) dX12_in_15 (⟨_, rfl, rfl, by omega, by omega⟩)
  · refine tm_iload_n dX12_in_5 rfl 0 rfl ?_
    refine tm_iload_n dX12_in_6 rfl 2 rfl ?_
    refine tm_icmp_gt (tgt := 14) dX12_in_7 (by decide) ⟨by omega, by omega⟩ ⟨by omega, by omega⟩ (fun h2 => ?_) (fun h2 => ?_)
    · refine tm_iconst dX12_in_14 ?_
      exact tm_zret (v := 0) rfl (by decide) dX12_in_15 (⟨_, rfl, rfl, by omega, by omega⟩)
    · refine tm_iconst dX12_in_10 ?_
      refine tm_goto (tgt := 15) dX12_in_11 (by decide) ?_
      exact tm_zret (v := 1) rfl (by decide) dX12_in_15 (⟨_, rfl, rfl, by omega, by omega⟩)
theorem dX12_isAct_0 : decode cX12_isAct 0 = .ok (.iload_n 0, 1) := by decide +kernel
theorem dX12_isAct_1 : decode cX12_isAct 1 = .ok (.bipush 10, 2) := by decide +kernel
theorem dX12_isAct_3 : decode cX12_isAct 3 = .ok (.if_icmp .gt 7, 3) := by decide +kernel
theorem dX12_isAct_10 : decode cX12_isAct 10 = .ok (.iconst 0, 1) := by decide +kernel
theorem dX12_isAct_11 : decode cX12_isAct 11 = .ok (.ireturn, 1) := by decide +kernel
theorem dX12_isAct_6 : decode cX12_isAct 6 = .ok (.iconst 1, 1) := by decide +kernel
theorem dX12_isAct_7 : decode cX12_isAct 7 = .ok (.goto 4, 3) := by decide +kernel
set_option maxRecDepth 20000 in
theorem c_X12_isAct (d : Nat) {b : Nat} {σ : MS} {x : Int} (h_x : -2147483648 ≤ x ∧ x ≤ 2147483647) : Tm (d + 1) m_X12_isAct 0 b σ [(0, .int (iI x))] [] (fun ro σ2 => ∃ v : Int, ro = some (.int (iI v)) ∧ σ = σ2 ∧ ((v = 0 ∨ v = 1)) ∧ ((v = 1 ↔ x ≤ 10))) := by
  refine tm_iload_n dX12_isAct_0 rfl 0 rfl ?_
  refine tm_bipush dX12_isAct_1 (by decide) ?_
  refine tm_icmp_gt (tgt := 10) dX12_isAct_3 (by decide) ⟨by omega, by omega⟩ ⟨by decide, by decide⟩ (fun h1 => ?_) (fun h1 => ?_)
  · refine tm_iconst dX12_isAct_10 ?_
    exact tm_zret (v := 0) rfl (by decide) dX12_isAct_11 (⟨_, rfl, rfl, by omega, by omega⟩)
  · refine tm_iconst dX12_isAct_6 ?_
    refine tm_goto (tgt := 11) dX12_isAct_7 (by decide) ?_
    exact tm_zret (v := 1) rfl (by decide) dX12_isAct_11 (⟨_, rfl, rfl, by omega, by omega⟩)
theorem ml12_188 : Cond.methodLink RX12 188 yX12_in ∈ pWW := pw8 (List.mem_of_getElem? (i := 40) rfl) rfl
theorem dX12_isFive_0 : decode cX12_isFive 0 = .ok (.iload_n 0, 1) := by decide +kernel
theorem dX12_isFive_1 : decode cX12_isFive 1 = .ok (.iconst 1, 1) := by decide +kernel
theorem dX12_isFive_2 : decode cX12_isFive 2 = .ok (.iconst 5, 1) := by decide +kernel
theorem dX12_isFive_3 : decode cX12_isFive 3 = .ok (.invokestatic 188, 3) := by decide +kernel
theorem dX12_isFive_6 : decode cX12_isFive 6 = .ok (.ireturn, 1) := by decide +kernel
set_option maxRecDepth 20000 in
theorem c_X12_isFive (d : Nat) {b : Nat} {σ : MS} {x : Int} (h_x : -2147483648 ≤ x ∧ x ≤ 2147483647) : Tm (d + 2) m_X12_isFive 0 b σ [(0, .int (iI x))] [] (fun ro σ2 => ∃ v : Int, ro = some (.int (iI v)) ∧ σ = σ2 ∧ ((v = 0 ∨ v = 1)) ∧ ((v = 1 ↔ 1 ≤ x ∧ x ≤ 5))) := by
  refine tm_iload_n dX12_isFive_0 rfl 0 rfl ?_
  refine tm_iconst dX12_isFive_1 ?_
  refine tm_iconst dX12_isFive_2 ?_
  refine tm_callS (M := m_X12_isFive) (pc := 3) (ix := 188) (M' := m_X12_in) (As := [.int (iI x), .int (iI 1), .int (iI 5)]) (rest := []) dX12_isFive_3 ok_X12_in stt_X12_in ml12_188 np_X12_in rfl (Nat.le_of_ble_eq_true rfl) (Nat.le_of_ble_eq_true rfl) rfl (c_X12_in (d) (σ := σ) (x := x) (lo := 1) (hi := 5) (by omega) (by omega) (by omega)) (fun r1 σ2 hp => ?_)
  obtain ⟨v3, rfl, rfl, f4, f5⟩ := hp
  show Tm _ _ 6 b σ [(0, .int (iI x))] [.int (iI v3)] _
  exact tm_zret (v := v3) rfl (by omega) dX12_isFive_6 (⟨_, rfl, rfl, by omega, by omega⟩)
theorem dX12_writes_0 : decode cX12_writes 0 = .ok (.iload_n 0, 1) := by decide +kernel
theorem dX12_writes_1 : decode cX12_writes 1 = .ok (.iconst 5, 1) := by decide +kernel
theorem dX12_writes_2 : decode cX12_writes 2 = .ok (.if_icmp .le 9, 3) := by decide +kernel
theorem dX12_writes_11 : decode cX12_writes 11 = .ok (.iconst 1, 1) := by decide +kernel
theorem dX12_writes_12 : decode cX12_writes 12 = .ok (.goto 4, 3) := by decide +kernel
theorem dX12_writes_16 : decode cX12_writes 16 = .ok (.ireturn, 1) := by decide +kernel
theorem dX12_writes_5 : decode cX12_writes 5 = .ok (.iload_n 0, 1) := by decide +kernel
theorem dX12_writes_6 : decode cX12_writes 6 = .ok (.bipush 10, 2) := by decide +kernel
theorem dX12_writes_8 : decode cX12_writes 8 = .ok (.if_icmp .ne 7, 3) := by decide +kernel
theorem dX12_writes_15 : decode cX12_writes 15 = .ok (.iconst 0, 1) := by decide +kernel
set_option maxRecDepth 20000 in
theorem c_X12_writes (d : Nat) {b : Nat} {σ : MS} {x : Int} (h_x : -2147483648 ≤ x ∧ x ≤ 2147483647) : Tm (d + 1) m_X12_writes 0 b σ [(0, .int (iI x))] [] (fun ro σ2 => ∃ v : Int, ro = some (.int (iI v)) ∧ σ = σ2 ∧ ((v = 0 ∨ v = 1)) ∧ ((v = 1 ↔ x ≤ 5 ∨ x = 10))) := by
  refine tm_iload_n dX12_writes_0 rfl 0 rfl ?_
  refine tm_iconst dX12_writes_1 ?_
  refine tm_icmp_le (tgt := 11) dX12_writes_2 (by decide) ⟨by omega, by omega⟩ ⟨by decide, by decide⟩ (fun h1 => ?_) (fun h1 => ?_)
  · refine tm_iconst dX12_writes_11 ?_
    refine tm_goto (tgt := 16) dX12_writes_12 (by decide) ?_
    exact tm_zret (v := 1) rfl (by decide) dX12_writes_16 (⟨_, rfl, rfl, by omega, by omega⟩)
  · refine tm_iload_n dX12_writes_5 rfl 0 rfl ?_
    refine tm_bipush dX12_writes_6 (by decide) ?_
    refine tm_icmp_ne (tgt := 15) dX12_writes_8 (by decide) ⟨by omega, by omega⟩ ⟨by decide, by decide⟩ (fun h2 => ?_) (fun h2 => ?_)
    · refine tm_iconst dX12_writes_15 ?_
      exact tm_zret (v := 0) rfl (by decide) dX12_writes_16 (⟨_, rfl, rfl, by omega, by omega⟩)
    · refine tm_iconst dX12_writes_11 ?_
      refine tm_goto (tgt := 16) dX12_writes_12 (by decide) ?_
      exact tm_zret (v := 1) rfl (by decide) dX12_writes_16 (⟨_, rfl, rfl, by omega, by omega⟩)
theorem dX12_isLetter_0 : decode cX12_isLetter 0 = .ok (.iload_n 0, 1) := by decide +kernel
theorem dX12_isLetter_1 : decode cX12_isLetter 1 = .ok (.bipush 97, 2) := by decide +kernel
theorem dX12_isLetter_3 : decode cX12_isLetter 3 = .ok (.bipush 122, 2) := by decide +kernel
theorem dX12_isLetter_5 : decode cX12_isLetter 5 = .ok (.invokestatic 188, 3) := by decide +kernel
theorem dX12_isLetter_8 : decode cX12_isLetter 8 = .ok (.ireturn, 1) := by decide +kernel
set_option maxRecDepth 20000 in
theorem c_X12_isLetter (d : Nat) {b : Nat} {σ : MS} {x : Int} (h_x : -2147483648 ≤ x ∧ x ≤ 2147483647) : Tm (d + 2) m_X12_isLetter 0 b σ [(0, .int (iI x))] [] (fun ro σ2 => ∃ v : Int, ro = some (.int (iI v)) ∧ σ = σ2 ∧ ((v = 0 ∨ v = 1)) ∧ ((v = 1 ↔ 97 ≤ x ∧ x ≤ 122))) := by
  refine tm_iload_n dX12_isLetter_0 rfl 0 rfl ?_
  refine tm_bipush dX12_isLetter_1 (by decide) ?_
  refine tm_bipush dX12_isLetter_3 (by decide) ?_
  refine tm_callS (M := m_X12_isLetter) (pc := 5) (ix := 188) (M' := m_X12_in) (As := [.int (iI x), .int (iI 97), .int (iI 122)]) (rest := []) dX12_isLetter_5 ok_X12_in stt_X12_in ml12_188 np_X12_in rfl (Nat.le_of_ble_eq_true rfl) (Nat.le_of_ble_eq_true rfl) rfl (c_X12_in (d) (σ := σ) (x := x) (lo := 97) (hi := 122) (by omega) (by omega) (by omega)) (fun r1 σ2 hp => ?_)
  obtain ⟨v3, rfl, rfl, f4, f5⟩ := hp
  show Tm _ _ 8 b σ [(0, .int (iI x))] [.int (iI v3)] _
  exact tm_zret (v := v3) rfl (by omega) dX12_isLetter_8 (⟨_, rfl, rfl, by omega, by omega⟩)
theorem dX12_isDigit_0 : decode cX12_isDigit 0 = .ok (.iload_n 0, 1) := by decide +kernel
theorem dX12_isDigit_1 : decode cX12_isDigit 1 = .ok (.bipush 48, 2) := by decide +kernel
theorem dX12_isDigit_3 : decode cX12_isDigit 3 = .ok (.bipush 57, 2) := by decide +kernel
theorem dX12_isDigit_5 : decode cX12_isDigit 5 = .ok (.invokestatic 188, 3) := by decide +kernel
theorem dX12_isDigit_8 : decode cX12_isDigit 8 = .ok (.ireturn, 1) := by decide +kernel
set_option maxRecDepth 20000 in
theorem c_X12_isDigit (d : Nat) {b : Nat} {σ : MS} {x : Int} (h_x : -2147483648 ≤ x ∧ x ≤ 2147483647) : Tm (d + 2) m_X12_isDigit 0 b σ [(0, .int (iI x))] [] (fun ro σ2 => ∃ v : Int, ro = some (.int (iI v)) ∧ σ = σ2 ∧ ((v = 0 ∨ v = 1)) ∧ ((v = 1 ↔ 48 ≤ x ∧ x ≤ 57))) := by
  refine tm_iload_n dX12_isDigit_0 rfl 0 rfl ?_
  refine tm_bipush dX12_isDigit_1 (by decide) ?_
  refine tm_bipush dX12_isDigit_3 (by decide) ?_
  refine tm_callS (M := m_X12_isDigit) (pc := 5) (ix := 188) (M' := m_X12_in) (As := [.int (iI x), .int (iI 48), .int (iI 57)]) (rest := []) dX12_isDigit_5 ok_X12_in stt_X12_in ml12_188 np_X12_in rfl (Nat.le_of_ble_eq_true rfl) (Nat.le_of_ble_eq_true rfl) rfl (c_X12_in (d) (σ := σ) (x := x) (lo := 48) (hi := 57) (by omega) (by omega) (by omega)) (fun r1 σ2 hp => ?_)
  obtain ⟨v3, rfl, rfl, f4, f5⟩ := hp
  show Tm _ _ 8 b σ [(0, .int (iI x))] [.int (iI v3)] _
  exact tm_zret (v := v3) rfl (by omega) dX12_isDigit_8 (⟨_, rfl, rfl, by omega, by omega⟩)
theorem dX12_at_0 : decode cX12_at 0 = .ok (.sipush 220, 3) := by decide +kernel
theorem dX12_at_3 : decode cX12_at 3 = .ok (.iload_n 1, 1) := by decide +kernel
theorem dX12_at_4 : decode cX12_at 4 = .ok (.imul, 1) := by decide +kernel
theorem dX12_at_5 : decode cX12_at 5 = .ok (.iload_n 2, 1) := by decide +kernel
theorem dX12_at_6 : decode cX12_at 6 = .ok (.iadd, 1) := by decide +kernel
theorem dX12_at_7 : decode cX12_at 7 = .ok (.ireturn, 1) := by decide +kernel
set_option maxRecDepth 20000 in
theorem c_X12_at (d : Nat) {b : Nat} {σ : MS} {x : Int} {k : Int} : Tm (d + 1) m_X12_at 0 b σ [(0, .ref b), (1, .int (iI x)), (2, .int (iI k))] [] (fun ro σ2 => ∃ v : Int, ro = some (.int (iI v)) ∧ σ = σ2 ∧ (v = 220 * x + k)) := by
  refine tm_sipush dX12_at_0 (by decide) ?_
  refine tm_iload_n dX12_at_3 rfl 1 rfl ?_
  refine tm_imul dX12_at_4 ?_
  refine tm_iload_n dX12_at_5 rfl 2 rfl ?_
  refine tm_iadd dX12_at_6 ?_
  exact tm_iret rfl dX12_at_7 (⟨_, rfl, rfl, by omega⟩)
theorem dX12_bank_0 : decode cX12_bank 0 = .ok (.iload_n 1, 1) := by decide +kernel
theorem dX12_bank_1 : decode cX12_bank 1 = .ok (.iconst 2, 1) := by decide +kernel
theorem dX12_bank_2 : decode cX12_bank 2 = .ok (.if_icmp .ne 8, 3) := by decide +kernel
theorem dX12_bank_10 : decode cX12_bank 10 = .ok (.iconst 0, 1) := by decide +kernel
theorem dX12_bank_11 : decode cX12_bank 11 = .ok (.ireturn, 1) := by decide +kernel
theorem dX12_bank_5 : decode cX12_bank 5 = .ok (.bipush 6, 2) := by decide +kernel
theorem dX12_bank_7 : decode cX12_bank 7 = .ok (.goto 4, 3) := by decide +kernel
set_option maxRecDepth 20000 in
theorem c_X12_bank (d : Nat) {b : Nat} {σ : MS} {m : Int} (h_m : -2147483648 ≤ m ∧ m ≤ 2147483647) : Tm (d + 1) m_X12_bank 0 b σ [(0, .ref b), (1, .int (iI m))] [] (fun ro σ2 => ∃ v : Int, ro = some (.int (iI v)) ∧ σ = σ2 ∧ ((v = 0 ∨ v = 6)) ∧ ((m = 2 → v = 6)) ∧ ((m ≠ 2 → v = 0))) := by
  refine tm_iload_n dX12_bank_0 rfl 1 rfl ?_
  refine tm_iconst dX12_bank_1 ?_
  refine tm_icmp_ne (tgt := 10) dX12_bank_2 (by decide) ⟨by omega, by omega⟩ ⟨by decide, by decide⟩ (fun h1 => ?_) (fun h1 => ?_)
  · refine tm_iconst dX12_bank_10 ?_
    exact tm_iret rfl dX12_bank_11 (⟨_, rfl, rfl, by omega, by omega, by omega⟩)
  · refine tm_bipush dX12_bank_5 (by decide) ?_
    refine tm_goto (tgt := 11) dX12_bank_7 (by decide) ?_
    exact tm_iret rfl dX12_bank_11 (⟨_, rfl, rfl, by omega, by omega, by omega⟩)
theorem fl12_26 : Cond.fieldLink RX12 26 (TX12 7).1 (TX12 7).2.1 (TX12 7).2.2.1 ∈ pWW := pw7 (List.mem_of_getElem? (i := 14) rfl) rfl
theorem fl12_29 : Cond.fieldLink RX12 29 (TX12 8).1 (TX12 8).2.1 (TX12 8).2.2.1 ∈ pWW := pw7 (List.mem_of_getElem? (i := 15) rfl) rfl
theorem dX12_setArg_0 : decode cX12_setArg 0 = .ok (.aload_n 0, 1) := by decide +kernel
theorem dX12_setArg_1 : decode cX12_setArg 1 = .ok (.getfield 26, 3) := by decide +kernel
theorem dX12_setArg_4 : decode cX12_setArg 4 = .ok (.iconst 4, 1) := by decide +kernel
theorem dX12_setArg_5 : decode cX12_setArg 5 = .ok (.iload_n 1, 1) := by decide +kernel
theorem dX12_setArg_6 : decode cX12_setArg 6 = .ok (.imul, 1) := by decide +kernel
theorem dX12_setArg_7 : decode cX12_setArg 7 = .ok (.iload_n 2, 1) := by decide +kernel
theorem dX12_setArg_8 : decode cX12_setArg 8 = .ok (.iadd, 1) := by decide +kernel
theorem dX12_setArg_9 : decode cX12_setArg 9 = .ok (.iload_n 3, 1) := by decide +kernel
theorem dX12_setArg_10 : decode cX12_setArg 10 = .ok (.iastore, 1) := by decide +kernel
theorem dX12_setArg_11 : decode cX12_setArg 11 = .ok (.aload_n 0, 1) := by decide +kernel
theorem dX12_setArg_12 : decode cX12_setArg 12 = .ok (.getfield 29, 3) := by decide +kernel
theorem dX12_setArg_15 : decode cX12_setArg 15 = .ok (.iconst 4, 1) := by decide +kernel
theorem dX12_setArg_16 : decode cX12_setArg 16 = .ok (.iload_n 1, 1) := by decide +kernel
theorem dX12_setArg_17 : decode cX12_setArg 17 = .ok (.imul, 1) := by decide +kernel
theorem dX12_setArg_18 : decode cX12_setArg 18 = .ok (.iload_n 2, 1) := by decide +kernel
theorem dX12_setArg_19 : decode cX12_setArg 19 = .ok (.iadd, 1) := by decide +kernel
theorem dX12_setArg_20 : decode cX12_setArg 20 = .ok (.iload 4, 2) := by decide +kernel
theorem dX12_setArg_22 : decode cX12_setArg 22 = .ok (.iastore, 1) := by decide +kernel
theorem dX12_setArg_23 : decode cX12_setArg 23 = .ok (.return_, 1) := by decide +kernel
set_option maxRecDepth 20000 in
theorem c_X12_setArg (d : Nat) {b : Nat} {σ : MS} {x : Int} {i : Int} {k : Int} {w : Int} (hx : 0 ≤ 4 * x + i ∧ 4 * x + i < 11440) : Tm (d + 1) m_X12_setArg 0 b σ [(0, .ref b), (1, .int (iI x)), (2, .int (iI i)), (3, .int (iI k)), (4, .int (iI w))] [] (fun ro σ2 => ro = none ∧ (σ2 = fArg x i k w σ)) := by
  refine tm_aload_n dX12_setArg_0 rfl 0 rfl ?_
  refine tm_get (k := 7) (v := .ref (b + 1 + 5)) lay_12 dX12_setArg_1 (by decide) fl12_26 rfl ?_
  refine tm_iconst dX12_setArg_4 ?_
  refine tm_iload_n dX12_setArg_5 rfl 1 rfl ?_
  refine tm_imul dX12_setArg_6 ?_
  refine tm_iload_n dX12_setArg_7 rfl 2 rfl ?_
  refine tm_iadd dX12_setArg_8 ?_
  refine tm_iload_n dX12_setArg_9 rfl 3 rfl ?_
  refine tm_iast (z := (4 * x) + i) (v := k) dX12_setArg_10 (show mT[5]? = some (7, 0, 11440) from rfl) (by omega) (by omega) (by decide) ?_
  refine tm_aload_n dX12_setArg_11 rfl 0 rfl ?_
  refine tm_get (k := 8) (v := .ref (b + 1 + 6)) lay_12 dX12_setArg_12 (by decide) fl12_29 rfl ?_
  refine tm_iconst dX12_setArg_15 ?_
  refine tm_iload_n dX12_setArg_16 rfl 1 rfl ?_
  refine tm_imul dX12_setArg_17 ?_
  refine tm_iload_n dX12_setArg_18 rfl 2 rfl ?_
  refine tm_iadd dX12_setArg_19 ?_
  refine tm_iload dX12_setArg_20 4 rfl ?_
  refine tm_iast (z := (4 * x) + i) (v := w) dX12_setArg_22 (show mT[6]? = some (8, 0, 11440) from rfl) (by omega) (by omega) (by decide) ?_
  exact tm_vret rfl dX12_setArg_23 (⟨rfl, rfl⟩)
theorem fl12_13 : Cond.fieldLink RX12 13 (TX12 3).1 (TX12 3).2.1 (TX12 3).2.2.1 ∈ pWW := pw7 (List.mem_of_getElem? (i := 10) rfl) rfl
theorem fl12_17 : Cond.fieldLink RX12 17 (TX12 4).1 (TX12 4).2.1 (TX12 4).2.2.1 ∈ pWW := pw7 (List.mem_of_getElem? (i := 11) rfl) rfl
theorem fl12_20 : Cond.fieldLink RX12 20 (TX12 5).1 (TX12 5).2.1 (TX12 5).2.2.1 ∈ pWW := pw7 (List.mem_of_getElem? (i := 12) rfl) rfl
theorem fl12_23 : Cond.fieldLink RX12 23 (TX12 6).1 (TX12 6).2.1 (TX12 6).2.2.1 ∈ pWW := pw7 (List.mem_of_getElem? (i := 13) rfl) rfl
theorem dX12_setItem_0 : decode cX12_setItem 0 = .ok (.aload_n 0, 1) := by decide +kernel
theorem dX12_setItem_1 : decode cX12_setItem 1 = .ok (.getfield 13, 3) := by decide +kernel
theorem dX12_setItem_4 : decode cX12_setItem 4 = .ok (.iload_n 1, 1) := by decide +kernel
theorem dX12_setItem_5 : decode cX12_setItem 5 = .ok (.iload_n 2, 1) := by decide +kernel
theorem dX12_setItem_6 : decode cX12_setItem 6 = .ok (.iastore, 1) := by decide +kernel
theorem dX12_setItem_7 : decode cX12_setItem 7 = .ok (.aload_n 0, 1) := by decide +kernel
theorem dX12_setItem_8 : decode cX12_setItem 8 = .ok (.getfield 17, 3) := by decide +kernel
theorem dX12_setItem_11 : decode cX12_setItem 11 = .ok (.iload_n 1, 1) := by decide +kernel
theorem dX12_setItem_12 : decode cX12_setItem 12 = .ok (.iload_n 3, 1) := by decide +kernel
theorem dX12_setItem_13 : decode cX12_setItem 13 = .ok (.iastore, 1) := by decide +kernel
theorem dX12_setItem_14 : decode cX12_setItem 14 = .ok (.aload_n 0, 1) := by decide +kernel
theorem dX12_setItem_15 : decode cX12_setItem 15 = .ok (.getfield 20, 3) := by decide +kernel
theorem dX12_setItem_18 : decode cX12_setItem 18 = .ok (.iload_n 1, 1) := by decide +kernel
theorem dX12_setItem_19 : decode cX12_setItem 19 = .ok (.iload 4, 2) := by decide +kernel
theorem dX12_setItem_21 : decode cX12_setItem 21 = .ok (.iastore, 1) := by decide +kernel
theorem dX12_setItem_22 : decode cX12_setItem 22 = .ok (.aload_n 0, 1) := by decide +kernel
theorem dX12_setItem_23 : decode cX12_setItem 23 = .ok (.getfield 23, 3) := by decide +kernel
theorem dX12_setItem_26 : decode cX12_setItem 26 = .ok (.iload_n 1, 1) := by decide +kernel
theorem dX12_setItem_27 : decode cX12_setItem 27 = .ok (.iconst 0, 1) := by decide +kernel
theorem dX12_setItem_28 : decode cX12_setItem 28 = .ok (.iastore, 1) := by decide +kernel
theorem dX12_setItem_29 : decode cX12_setItem 29 = .ok (.iconst 0, 1) := by decide +kernel
theorem dX12_setItem_30 : decode cX12_setItem 30 = .ok (.istore 5, 2) := by decide +kernel
theorem dX12_setItem_32 : decode cX12_setItem 32 = .ok (.iload 5, 2) := by decide +kernel
theorem dX12_setItem_34 : decode cX12_setItem 34 = .ok (.iconst 4, 1) := by decide +kernel
theorem dX12_setItem_35 : decode cX12_setItem 35 = .ok (.if_icmp .ge 33, 3) := by decide +kernel
theorem dX12_setItem_38 : decode cX12_setItem 38 = .ok (.aload_n 0, 1) := by decide +kernel
theorem dX12_setItem_39 : decode cX12_setItem 39 = .ok (.getfield 26, 3) := by decide +kernel
theorem dX12_setItem_42 : decode cX12_setItem 42 = .ok (.iconst 4, 1) := by decide +kernel
theorem dX12_setItem_43 : decode cX12_setItem 43 = .ok (.iload_n 1, 1) := by decide +kernel
theorem dX12_setItem_44 : decode cX12_setItem 44 = .ok (.imul, 1) := by decide +kernel
theorem dX12_setItem_45 : decode cX12_setItem 45 = .ok (.iload 5, 2) := by decide +kernel
theorem dX12_setItem_47 : decode cX12_setItem 47 = .ok (.iadd, 1) := by decide +kernel
theorem dX12_setItem_48 : decode cX12_setItem 48 = .ok (.iconst 0, 1) := by decide +kernel
theorem dX12_setItem_49 : decode cX12_setItem 49 = .ok (.iastore, 1) := by decide +kernel
theorem dX12_setItem_50 : decode cX12_setItem 50 = .ok (.aload_n 0, 1) := by decide +kernel
theorem dX12_setItem_51 : decode cX12_setItem 51 = .ok (.getfield 29, 3) := by decide +kernel
theorem dX12_setItem_54 : decode cX12_setItem 54 = .ok (.iconst 4, 1) := by decide +kernel
theorem dX12_setItem_55 : decode cX12_setItem 55 = .ok (.iload_n 1, 1) := by decide +kernel
theorem dX12_setItem_56 : decode cX12_setItem 56 = .ok (.imul, 1) := by decide +kernel
theorem dX12_setItem_57 : decode cX12_setItem 57 = .ok (.iload 5, 2) := by decide +kernel
theorem dX12_setItem_59 : decode cX12_setItem 59 = .ok (.iadd, 1) := by decide +kernel
theorem dX12_setItem_60 : decode cX12_setItem 60 = .ok (.iconst 0, 1) := by decide +kernel
theorem dX12_setItem_61 : decode cX12_setItem 61 = .ok (.iastore, 1) := by decide +kernel
theorem dX12_setItem_62 : decode cX12_setItem 62 = .ok (.iinc 5 1, 3) := by decide +kernel
theorem dX12_setItem_65 : decode cX12_setItem 65 = .ok (.goto (-33), 3) := by decide +kernel
theorem dX12_setItem_68 : decode cX12_setItem 68 = .ok (.return_, 1) := by decide +kernel
set_option maxRecDepth 20000 in
theorem c_X12_setItem (d : Nat) {b : Nat} {σ : MS} {x : Int} {k : Int} {e : Int} {o : Int} (hx : 0 ≤ x ∧ x < 2860) : Tm (d + 1) m_X12_setItem 0 b σ [(0, .ref b), (1, .int (iI x)), (2, .int (iI k)), (3, .int (iI e)), (4, .int (iI o))] [] (fun ro σ2 => ro = none ∧ (σ2 = fItem x k e o σ)) := by
  refine tm_aload_n dX12_setItem_0 rfl 0 rfl ?_
  refine tm_get (k := 3) (v := .ref (b + 1 + 1)) lay_12 dX12_setItem_1 (by decide) fl12_13 rfl ?_
  refine tm_iload_n dX12_setItem_4 rfl 1 rfl ?_
  refine tm_iload_n dX12_setItem_5 rfl 2 rfl ?_
  refine tm_iast (z := x) (v := k) dX12_setItem_6 (show mT[1]? = some (3, 0, 2860) from rfl) (by omega) (by omega) (by decide) ?_
  refine tm_aload_n dX12_setItem_7 rfl 0 rfl ?_
  refine tm_get (k := 4) (v := .ref (b + 1 + 2)) lay_12 dX12_setItem_8 (by decide) fl12_17 rfl ?_
  refine tm_iload_n dX12_setItem_11 rfl 1 rfl ?_
  refine tm_iload_n dX12_setItem_12 rfl 3 rfl ?_
  refine tm_iast (z := x) (v := e) dX12_setItem_13 (show mT[2]? = some (4, 0, 2860) from rfl) (by omega) (by omega) (by decide) ?_
  refine tm_aload_n dX12_setItem_14 rfl 0 rfl ?_
  refine tm_get (k := 5) (v := .ref (b + 1 + 3)) lay_12 dX12_setItem_15 (by decide) fl12_20 rfl ?_
  refine tm_iload_n dX12_setItem_18 rfl 1 rfl ?_
  refine tm_iload dX12_setItem_19 4 rfl ?_
  refine tm_iast (z := x) (v := o) dX12_setItem_21 (show mT[3]? = some (5, 0, 2860) from rfl) (by omega) (by omega) (by decide) ?_
  refine tm_aload_n dX12_setItem_22 rfl 0 rfl ?_
  refine tm_get (k := 6) (v := .ref (b + 1 + 4)) lay_12 dX12_setItem_23 (by decide) fl12_23 rfl ?_
  refine tm_iload_n dX12_setItem_26 rfl 1 rfl ?_
  refine tm_iconst dX12_setItem_27 ?_
  refine tm_iast (z := x) (v := 0) dX12_setItem_28 (show mT[4]? = some (6, 0, 2860) from rfl) (by omega) (by omega) (by decide) ?_
  refine tm_iconst dX12_setItem_29 ?_
  refine tm_istore (L' := [(5, .int (iI 0)), (0, .ref b), (1, .int (iI x)), (2, .int (iI k)), (3, .int (iI e)), (4, .int (iI o))]) dX12_setItem_30 (by decide) rfl ?_
  refine tm_iload dX12_setItem_32 0 rfl ?_
  refine tm_iconst dX12_setItem_34 ?_
  refine tm_icmp_ge (tgt := 68) dX12_setItem_35 (by decide) ⟨by decide, by decide⟩ ⟨by decide, by decide⟩ (fun h => absurd h (by decide)) (fun _ => ?_)
  refine tm_aload_n dX12_setItem_38 rfl 1 rfl ?_
  refine tm_get (k := 7) (v := .ref (b + 1 + 5)) lay_12 dX12_setItem_39 (by decide) fl12_26 rfl ?_
  refine tm_iconst dX12_setItem_42 ?_
  refine tm_iload_n dX12_setItem_43 rfl 2 rfl ?_
  refine tm_imul dX12_setItem_44 ?_
  refine tm_iload dX12_setItem_45 0 rfl ?_
  refine tm_iadd dX12_setItem_47 ?_
  refine tm_iconst dX12_setItem_48 ?_
  refine tm_iast (z := (4 * x) + 0) (v := 0) dX12_setItem_49 (show mT[5]? = some (7, 0, 11440) from rfl) (by omega) (by omega) (by decide) ?_
  refine tm_aload_n dX12_setItem_50 rfl 1 rfl ?_
  refine tm_get (k := 8) (v := .ref (b + 1 + 6)) lay_12 dX12_setItem_51 (by decide) fl12_29 rfl ?_
  refine tm_iconst dX12_setItem_54 ?_
  refine tm_iload_n dX12_setItem_55 rfl 2 rfl ?_
  refine tm_imul dX12_setItem_56 ?_
  refine tm_iload dX12_setItem_57 0 rfl ?_
  refine tm_iadd dX12_setItem_59 ?_
  refine tm_iconst dX12_setItem_60 ?_
  refine tm_iast (z := (4 * x) + 0) (v := 0) dX12_setItem_61 (show mT[6]? = some (8, 0, 11440) from rfl) (by omega) (by omega) (by decide) ?_
  refine tm_iinc (q0 := 0) (L' := [(5, .int (iI 1)), (0, .ref b), (1, .int (iI x)), (2, .int (iI k)), (3, .int (iI e)), (4, .int (iI o))]) dX12_setItem_62 rfl (by decide) rfl ?_
  refine tm_goto (tgt := 32) dX12_setItem_65 (by decide) ?_
  refine tm_iload dX12_setItem_32 0 rfl ?_
  refine tm_iconst dX12_setItem_34 ?_
  refine tm_icmp_ge (tgt := 68) dX12_setItem_35 (by decide) ⟨by decide, by decide⟩ ⟨by decide, by decide⟩ (fun h => absurd h (by decide)) (fun _ => ?_)
  refine tm_aload_n dX12_setItem_38 rfl 1 rfl ?_
  refine tm_get (k := 7) (v := .ref (b + 1 + 5)) lay_12 dX12_setItem_39 (by decide) fl12_26 rfl ?_
  refine tm_iconst dX12_setItem_42 ?_
  refine tm_iload_n dX12_setItem_43 rfl 2 rfl ?_
  refine tm_imul dX12_setItem_44 ?_
  refine tm_iload dX12_setItem_45 0 rfl ?_
  refine tm_iadd dX12_setItem_47 ?_
  refine tm_iconst dX12_setItem_48 ?_
  refine tm_iast (z := (4 * x) + 1) (v := 0) dX12_setItem_49 (show mT[5]? = some (7, 0, 11440) from rfl) (by omega) (by omega) (by decide) ?_
  refine tm_aload_n dX12_setItem_50 rfl 1 rfl ?_
  refine tm_get (k := 8) (v := .ref (b + 1 + 6)) lay_12 dX12_setItem_51 (by decide) fl12_29 rfl ?_
  refine tm_iconst dX12_setItem_54 ?_
  refine tm_iload_n dX12_setItem_55 rfl 2 rfl ?_
  refine tm_imul dX12_setItem_56 ?_
  refine tm_iload dX12_setItem_57 0 rfl ?_
  refine tm_iadd dX12_setItem_59 ?_
  refine tm_iconst dX12_setItem_60 ?_
  refine tm_iast (z := (4 * x) + 1) (v := 0) dX12_setItem_61 (show mT[6]? = some (8, 0, 11440) from rfl) (by omega) (by omega) (by decide) ?_
  refine tm_iinc (q0 := 0) (L' := [(5, .int (iI 2)), (0, .ref b), (1, .int (iI x)), (2, .int (iI k)), (3, .int (iI e)), (4, .int (iI o))]) dX12_setItem_62 rfl (by decide) rfl ?_
  refine tm_goto (tgt := 32) dX12_setItem_65 (by decide) ?_
  refine tm_iload dX12_setItem_32 0 rfl ?_
  refine tm_iconst dX12_setItem_34 ?_
  refine tm_icmp_ge (tgt := 68) dX12_setItem_35 (by decide) ⟨by decide, by decide⟩ ⟨by decide, by decide⟩ (fun h => absurd h (by decide)) (fun _ => ?_)
  refine tm_aload_n dX12_setItem_38 rfl 1 rfl ?_
  refine tm_get (k := 7) (v := .ref (b + 1 + 5)) lay_12 dX12_setItem_39 (by decide) fl12_26 rfl ?_
  refine tm_iconst dX12_setItem_42 ?_
  refine tm_iload_n dX12_setItem_43 rfl 2 rfl ?_
  refine tm_imul dX12_setItem_44 ?_
  refine tm_iload dX12_setItem_45 0 rfl ?_
  refine tm_iadd dX12_setItem_47 ?_
  refine tm_iconst dX12_setItem_48 ?_
  refine tm_iast (z := (4 * x) + 2) (v := 0) dX12_setItem_49 (show mT[5]? = some (7, 0, 11440) from rfl) (by omega) (by omega) (by decide) ?_
  refine tm_aload_n dX12_setItem_50 rfl 1 rfl ?_
  refine tm_get (k := 8) (v := .ref (b + 1 + 6)) lay_12 dX12_setItem_51 (by decide) fl12_29 rfl ?_
  refine tm_iconst dX12_setItem_54 ?_
  refine tm_iload_n dX12_setItem_55 rfl 2 rfl ?_
  refine tm_imul dX12_setItem_56 ?_
  refine tm_iload dX12_setItem_57 0 rfl ?_
  refine tm_iadd dX12_setItem_59 ?_
  refine tm_iconst dX12_setItem_60 ?_
  refine tm_iast (z := (4 * x) + 2) (v := 0) dX12_setItem_61 (show mT[6]? = some (8, 0, 11440) from rfl) (by omega) (by omega) (by decide) ?_
  refine tm_iinc (q0 := 0) (L' := [(5, .int (iI 3)), (0, .ref b), (1, .int (iI x)), (2, .int (iI k)), (3, .int (iI e)), (4, .int (iI o))]) dX12_setItem_62 rfl (by decide) rfl ?_
  refine tm_goto (tgt := 32) dX12_setItem_65 (by decide) ?_
  refine tm_iload dX12_setItem_32 0 rfl ?_
  refine tm_iconst dX12_setItem_34 ?_
  refine tm_icmp_ge (tgt := 68) dX12_setItem_35 (by decide) ⟨by decide, by decide⟩ ⟨by decide, by decide⟩ (fun h => absurd h (by decide)) (fun _ => ?_)
  refine tm_aload_n dX12_setItem_38 rfl 1 rfl ?_
  refine tm_get (k := 7) (v := .ref (b + 1 + 5)) lay_12 dX12_setItem_39 (by decide) fl12_26 rfl ?_
  refine tm_iconst dX12_setItem_42 ?_
  refine tm_iload_n dX12_setItem_43 rfl 2 rfl ?_
  refine tm_imul dX12_setItem_44 ?_
  refine tm_iload dX12_setItem_45 0 rfl ?_
  refine tm_iadd dX12_setItem_47 ?_
  refine tm_iconst dX12_setItem_48 ?_
  refine tm_iast (z := (4 * x) + 3) (v := 0) dX12_setItem_49 (show mT[5]? = some (7, 0, 11440) from rfl) (by omega) (by omega) (by decide) ?_
  refine tm_aload_n dX12_setItem_50 rfl 1 rfl ?_
  refine tm_get (k := 8) (v := .ref (b + 1 + 6)) lay_12 dX12_setItem_51 (by decide) fl12_29 rfl ?_
  refine tm_iconst dX12_setItem_54 ?_
  refine tm_iload_n dX12_setItem_55 rfl 2 rfl ?_
  refine tm_imul dX12_setItem_56 ?_
  refine tm_iload dX12_setItem_57 0 rfl ?_
  refine tm_iadd dX12_setItem_59 ?_
  refine tm_iconst dX12_setItem_60 ?_
  refine tm_iast (z := (4 * x) + 3) (v := 0) dX12_setItem_61 (show mT[6]? = some (8, 0, 11440) from rfl) (by omega) (by omega) (by decide) ?_
  refine tm_iinc (q0 := 0) (L' := [(5, .int (iI 4)), (0, .ref b), (1, .int (iI x)), (2, .int (iI k)), (3, .int (iI e)), (4, .int (iI o))]) dX12_setItem_62 rfl (by decide) rfl ?_
  refine tm_goto (tgt := 32) dX12_setItem_65 (by decide) ?_
  refine tm_iload dX12_setItem_32 0 rfl ?_
  refine tm_iconst dX12_setItem_34 ?_
  refine tm_icmp_ge (tgt := 68) dX12_setItem_35 (by decide) ⟨by decide, by decide⟩ ⟨by decide, by decide⟩ (fun _ => ?_) (fun h => absurd h (by decide))
  exact tm_vret rfl dX12_setItem_68 (⟨rfl, rfl⟩)
theorem dX12_copyItem_0 : decode cX12_copyItem 0 = .ok (.aload_n 0, 1) := by decide +kernel
theorem dX12_copyItem_1 : decode cX12_copyItem 1 = .ok (.getfield 13, 3) := by decide +kernel
theorem dX12_copyItem_4 : decode cX12_copyItem 4 = .ok (.iload_n 2, 1) := by decide +kernel
theorem dX12_copyItem_5 : decode cX12_copyItem 5 = .ok (.aload_n 0, 1) := by decide +kernel
theorem dX12_copyItem_6 : decode cX12_copyItem 6 = .ok (.getfield 13, 3) := by decide +kernel
theorem dX12_copyItem_9 : decode cX12_copyItem 9 = .ok (.iload_n 1, 1) := by decide +kernel
theorem dX12_copyItem_10 : decode cX12_copyItem 10 = .ok (.iaload, 1) := by decide +kernel
theorem dX12_copyItem_11 : decode cX12_copyItem 11 = .ok (.iastore, 1) := by decide +kernel
theorem dX12_copyItem_12 : decode cX12_copyItem 12 = .ok (.aload_n 0, 1) := by decide +kernel
theorem dX12_copyItem_13 : decode cX12_copyItem 13 = .ok (.getfield 17, 3) := by decide +kernel
theorem dX12_copyItem_16 : decode cX12_copyItem 16 = .ok (.iload_n 2, 1) := by decide +kernel
theorem dX12_copyItem_17 : decode cX12_copyItem 17 = .ok (.aload_n 0, 1) := by decide +kernel
theorem dX12_copyItem_18 : decode cX12_copyItem 18 = .ok (.getfield 17, 3) := by decide +kernel
theorem dX12_copyItem_21 : decode cX12_copyItem 21 = .ok (.iload_n 1, 1) := by decide +kernel
theorem dX12_copyItem_22 : decode cX12_copyItem 22 = .ok (.iaload, 1) := by decide +kernel
theorem dX12_copyItem_23 : decode cX12_copyItem 23 = .ok (.iastore, 1) := by decide +kernel
theorem dX12_copyItem_24 : decode cX12_copyItem 24 = .ok (.aload_n 0, 1) := by decide +kernel
theorem dX12_copyItem_25 : decode cX12_copyItem 25 = .ok (.getfield 20, 3) := by decide +kernel
theorem dX12_copyItem_28 : decode cX12_copyItem 28 = .ok (.iload_n 2, 1) := by decide +kernel
theorem dX12_copyItem_29 : decode cX12_copyItem 29 = .ok (.aload_n 0, 1) := by decide +kernel
theorem dX12_copyItem_30 : decode cX12_copyItem 30 = .ok (.getfield 20, 3) := by decide +kernel
theorem dX12_copyItem_33 : decode cX12_copyItem 33 = .ok (.iload_n 1, 1) := by decide +kernel
theorem dX12_copyItem_34 : decode cX12_copyItem 34 = .ok (.iaload, 1) := by decide +kernel
theorem dX12_copyItem_35 : decode cX12_copyItem 35 = .ok (.iastore, 1) := by decide +kernel
theorem dX12_copyItem_36 : decode cX12_copyItem 36 = .ok (.aload_n 0, 1) := by decide +kernel
theorem dX12_copyItem_37 : decode cX12_copyItem 37 = .ok (.getfield 23, 3) := by decide +kernel
theorem dX12_copyItem_40 : decode cX12_copyItem 40 = .ok (.iload_n 2, 1) := by decide +kernel
theorem dX12_copyItem_41 : decode cX12_copyItem 41 = .ok (.aload_n 0, 1) := by decide +kernel
theorem dX12_copyItem_42 : decode cX12_copyItem 42 = .ok (.getfield 23, 3) := by decide +kernel
theorem dX12_copyItem_45 : decode cX12_copyItem 45 = .ok (.iload_n 1, 1) := by decide +kernel
theorem dX12_copyItem_46 : decode cX12_copyItem 46 = .ok (.iaload, 1) := by decide +kernel
theorem dX12_copyItem_47 : decode cX12_copyItem 47 = .ok (.iastore, 1) := by decide +kernel
theorem dX12_copyItem_48 : decode cX12_copyItem 48 = .ok (.iconst 0, 1) := by decide +kernel
theorem dX12_copyItem_49 : decode cX12_copyItem 49 = .ok (.istore_n 3, 1) := by decide +kernel
theorem dX12_copyItem_50 : decode cX12_copyItem 50 = .ok (.iload_n 3, 1) := by decide +kernel
theorem dX12_copyItem_51 : decode cX12_copyItem 51 = .ok (.iconst 4, 1) := by decide +kernel
theorem dX12_copyItem_52 : decode cX12_copyItem 52 = .ok (.if_icmp .ge 49, 3) := by decide +kernel
theorem dX12_copyItem_55 : decode cX12_copyItem 55 = .ok (.aload_n 0, 1) := by decide +kernel
theorem dX12_copyItem_56 : decode cX12_copyItem 56 = .ok (.getfield 26, 3) := by decide +kernel
theorem dX12_copyItem_59 : decode cX12_copyItem 59 = .ok (.iconst 4, 1) := by decide +kernel
theorem dX12_copyItem_60 : decode cX12_copyItem 60 = .ok (.iload_n 2, 1) := by decide +kernel
theorem dX12_copyItem_61 : decode cX12_copyItem 61 = .ok (.imul, 1) := by decide +kernel
theorem dX12_copyItem_62 : decode cX12_copyItem 62 = .ok (.iload_n 3, 1) := by decide +kernel
theorem dX12_copyItem_63 : decode cX12_copyItem 63 = .ok (.iadd, 1) := by decide +kernel
theorem dX12_copyItem_64 : decode cX12_copyItem 64 = .ok (.aload_n 0, 1) := by decide +kernel
theorem dX12_copyItem_65 : decode cX12_copyItem 65 = .ok (.getfield 26, 3) := by decide +kernel
theorem dX12_copyItem_68 : decode cX12_copyItem 68 = .ok (.iconst 4, 1) := by decide +kernel
theorem dX12_copyItem_69 : decode cX12_copyItem 69 = .ok (.iload_n 1, 1) := by decide +kernel
theorem dX12_copyItem_70 : decode cX12_copyItem 70 = .ok (.imul, 1) := by decide +kernel
theorem dX12_copyItem_71 : decode cX12_copyItem 71 = .ok (.iload_n 3, 1) := by decide +kernel
theorem dX12_copyItem_72 : decode cX12_copyItem 72 = .ok (.iadd, 1) := by decide +kernel
theorem dX12_copyItem_73 : decode cX12_copyItem 73 = .ok (.iaload, 1) := by decide +kernel
theorem dX12_copyItem_74 : decode cX12_copyItem 74 = .ok (.iastore, 1) := by decide +kernel
theorem dX12_copyItem_75 : decode cX12_copyItem 75 = .ok (.aload_n 0, 1) := by decide +kernel
theorem dX12_copyItem_76 : decode cX12_copyItem 76 = .ok (.getfield 29, 3) := by decide +kernel
theorem dX12_copyItem_79 : decode cX12_copyItem 79 = .ok (.iconst 4, 1) := by decide +kernel
theorem dX12_copyItem_80 : decode cX12_copyItem 80 = .ok (.iload_n 2, 1) := by decide +kernel
theorem dX12_copyItem_81 : decode cX12_copyItem 81 = .ok (.imul, 1) := by decide +kernel
theorem dX12_copyItem_82 : decode cX12_copyItem 82 = .ok (.iload_n 3, 1) := by decide +kernel
theorem dX12_copyItem_83 : decode cX12_copyItem 83 = .ok (.iadd, 1) := by decide +kernel
theorem dX12_copyItem_84 : decode cX12_copyItem 84 = .ok (.aload_n 0, 1) := by decide +kernel
theorem dX12_copyItem_85 : decode cX12_copyItem 85 = .ok (.getfield 29, 3) := by decide +kernel
theorem dX12_copyItem_88 : decode cX12_copyItem 88 = .ok (.iconst 4, 1) := by decide +kernel
theorem dX12_copyItem_89 : decode cX12_copyItem 89 = .ok (.iload_n 1, 1) := by decide +kernel
theorem dX12_copyItem_90 : decode cX12_copyItem 90 = .ok (.imul, 1) := by decide +kernel
theorem dX12_copyItem_91 : decode cX12_copyItem 91 = .ok (.iload_n 3, 1) := by decide +kernel
theorem dX12_copyItem_92 : decode cX12_copyItem 92 = .ok (.iadd, 1) := by decide +kernel
theorem dX12_copyItem_93 : decode cX12_copyItem 93 = .ok (.iaload, 1) := by decide +kernel
theorem dX12_copyItem_94 : decode cX12_copyItem 94 = .ok (.iastore, 1) := by decide +kernel
theorem dX12_copyItem_95 : decode cX12_copyItem 95 = .ok (.iinc 3 1, 3) := by decide +kernel
theorem dX12_copyItem_98 : decode cX12_copyItem 98 = .ok (.goto (-48), 3) := by decide +kernel
theorem dX12_copyItem_101 : decode cX12_copyItem 101 = .ok (.return_, 1) := by decide +kernel
set_option maxRecDepth 20000 in
theorem c_X12_copyItem (d : Nat) {b : Nat} {σ : MS} {f : Int} {t : Int} (hf : 0 ≤ f ∧ f < 2860) (ht : 0 ≤ t ∧ t < 2860) : Tm (d + 1) m_X12_copyItem 0 b σ [(0, .ref b), (1, .int (iI f)), (2, .int (iI t))] [] (fun ro σ2 => ro = none ∧ (σ2 = fCopy f t σ)) := by
  refine tm_aload_n dX12_copyItem_0 rfl 0 rfl ?_
  refine tm_get (k := 3) (v := .ref (b + 1 + 1)) lay_12 dX12_copyItem_1 (by decide) fl12_13 rfl ?_
  refine tm_iload_n dX12_copyItem_4 rfl 2 rfl ?_
  refine tm_aload_n dX12_copyItem_5 rfl 0 rfl ?_
  refine tm_get (k := 3) (v := .ref (b + 1 + 1)) lay_12 dX12_copyItem_6 (by decide) fl12_13 rfl ?_
  refine tm_iload_n dX12_copyItem_9 rfl 1 rfl ?_
  refine tm_iald (z := f) (v := σ.2.1 3 f) dX12_copyItem_10 (show mT[1]? = some (3, 0, 2860) from rfl) (by omega) (by omega) (by decide) (rfl) ?_
  refine tm_iast (z := t) (v := σ.2.1 3 f) dX12_copyItem_11 (show mT[1]? = some (3, 0, 2860) from rfl) (by omega) (by omega) (by decide) ?_
  refine tm_aload_n dX12_copyItem_12 rfl 0 rfl ?_
  refine tm_get (k := 4) (v := .ref (b + 1 + 2)) lay_12 dX12_copyItem_13 (by decide) fl12_17 rfl ?_
  refine tm_iload_n dX12_copyItem_16 rfl 2 rfl ?_
  refine tm_aload_n dX12_copyItem_17 rfl 0 rfl ?_
  refine tm_get (k := 4) (v := .ref (b + 1 + 2)) lay_12 dX12_copyItem_18 (by decide) fl12_17 rfl ?_
  refine tm_iload_n dX12_copyItem_21 rfl 1 rfl ?_
  refine tm_iald (z := f) (v := σ.2.1 4 f) dX12_copyItem_22 (show mT[2]? = some (4, 0, 2860) from rfl) (by omega) (by omega) (by decide) (ra_o (by decide) (rfl)) ?_
  refine tm_iast (z := t) (v := σ.2.1 4 f) dX12_copyItem_23 (show mT[2]? = some (4, 0, 2860) from rfl) (by omega) (by omega) (by decide) ?_
  refine tm_aload_n dX12_copyItem_24 rfl 0 rfl ?_
  refine tm_get (k := 5) (v := .ref (b + 1 + 3)) lay_12 dX12_copyItem_25 (by decide) fl12_20 rfl ?_
  refine tm_iload_n dX12_copyItem_28 rfl 2 rfl ?_
  refine tm_aload_n dX12_copyItem_29 rfl 0 rfl ?_
  refine tm_get (k := 5) (v := .ref (b + 1 + 3)) lay_12 dX12_copyItem_30 (by decide) fl12_20 rfl ?_
  refine tm_iload_n dX12_copyItem_33 rfl 1 rfl ?_
  refine tm_iald (z := f) (v := σ.2.1 5 f) dX12_copyItem_34 (show mT[3]? = some (5, 0, 2860) from rfl) (by omega) (by omega) (by decide) (ra_o (by decide) (ra_o (by decide) (rfl))) ?_
  refine tm_iast (z := t) (v := σ.2.1 5 f) dX12_copyItem_35 (show mT[3]? = some (5, 0, 2860) from rfl) (by omega) (by omega) (by decide) ?_
  refine tm_aload_n dX12_copyItem_36 rfl 0 rfl ?_
  refine tm_get (k := 6) (v := .ref (b + 1 + 4)) lay_12 dX12_copyItem_37 (by decide) fl12_23 rfl ?_
  refine tm_iload_n dX12_copyItem_40 rfl 2 rfl ?_
  refine tm_aload_n dX12_copyItem_41 rfl 0 rfl ?_
  refine tm_get (k := 6) (v := .ref (b + 1 + 4)) lay_12 dX12_copyItem_42 (by decide) fl12_23 rfl ?_
  refine tm_iload_n dX12_copyItem_45 rfl 1 rfl ?_
  refine tm_iald (z := f) (v := σ.2.1 6 f) dX12_copyItem_46 (show mT[4]? = some (6, 0, 2860) from rfl) (by omega) (by omega) (by decide) (ra_o (by decide) (ra_o (by decide) (ra_o (by decide) (rfl)))) ?_
  refine tm_iast (z := t) (v := σ.2.1 6 f) dX12_copyItem_47 (show mT[4]? = some (6, 0, 2860) from rfl) (by omega) (by omega) (by decide) ?_
  refine tm_iconst dX12_copyItem_48 ?_
  refine tm_istore_n (L' := [(3, .int (iI 0)), (0, .ref b), (1, .int (iI f)), (2, .int (iI t))]) dX12_copyItem_49 rfl (by decide) rfl ?_
  refine tm_iload_n dX12_copyItem_50 rfl 0 rfl ?_
  refine tm_iconst dX12_copyItem_51 ?_
  refine tm_icmp_ge (tgt := 101) dX12_copyItem_52 (by decide) ⟨by decide, by decide⟩ ⟨by decide, by decide⟩ (fun h => absurd h (by decide)) (fun _ => ?_)
  refine tm_aload_n dX12_copyItem_55 rfl 1 rfl ?_
  refine tm_get (k := 7) (v := .ref (b + 1 + 5)) lay_12 dX12_copyItem_56 (by decide) fl12_26 rfl ?_
  refine tm_iconst dX12_copyItem_59 ?_
  refine tm_iload_n dX12_copyItem_60 rfl 3 rfl ?_
  refine tm_imul dX12_copyItem_61 ?_
  refine tm_iload_n dX12_copyItem_62 rfl 0 rfl ?_
  refine tm_iadd dX12_copyItem_63 ?_
  refine tm_aload_n dX12_copyItem_64 rfl 1 rfl ?_
  refine tm_get (k := 7) (v := .ref (b + 1 + 5)) lay_12 dX12_copyItem_65 (by decide) fl12_26 rfl ?_
  refine tm_iconst dX12_copyItem_68 ?_
  refine tm_iload_n dX12_copyItem_69 rfl 2 rfl ?_
  refine tm_imul dX12_copyItem_70 ?_
  refine tm_iload_n dX12_copyItem_71 rfl 0 rfl ?_
  refine tm_iadd dX12_copyItem_72 ?_
  refine tm_iald (z := (4 * f) + 0) (v := σ.2.1 7 ((4 * f) + 0)) dX12_copyItem_73 (show mT[5]? = some (7, 0, 11440) from rfl) (by omega) (by omega) (by decide) (ra_o (by decide) (ra_o (by decide) (ra_o (by decide) (ra_o (by decide) (rfl))))) ?_
  refine tm_iast (z := (4 * t) + 0) (v := σ.2.1 7 ((4 * f) + 0)) dX12_copyItem_74 (show mT[5]? = some (7, 0, 11440) from rfl) (by omega) (by omega) (by decide) ?_
  refine tm_aload_n dX12_copyItem_75 rfl 1 rfl ?_
  refine tm_get (k := 8) (v := .ref (b + 1 + 6)) lay_12 dX12_copyItem_76 (by decide) fl12_29 rfl ?_
  refine tm_iconst dX12_copyItem_79 ?_
  refine tm_iload_n dX12_copyItem_80 rfl 3 rfl ?_
  refine tm_imul dX12_copyItem_81 ?_
  refine tm_iload_n dX12_copyItem_82 rfl 0 rfl ?_
  refine tm_iadd dX12_copyItem_83 ?_
  refine tm_aload_n dX12_copyItem_84 rfl 1 rfl ?_
  refine tm_get (k := 8) (v := .ref (b + 1 + 6)) lay_12 dX12_copyItem_85 (by decide) fl12_29 rfl ?_
  refine tm_iconst dX12_copyItem_88 ?_
  refine tm_iload_n dX12_copyItem_89 rfl 2 rfl ?_
  refine tm_imul dX12_copyItem_90 ?_
  refine tm_iload_n dX12_copyItem_91 rfl 0 rfl ?_
  refine tm_iadd dX12_copyItem_92 ?_
  refine tm_iald (z := (4 * f) + 0) (v := σ.2.1 8 ((4 * f) + 0)) dX12_copyItem_93 (show mT[6]? = some (8, 0, 11440) from rfl) (by omega) (by omega) (by decide) (ra_o (by decide) (ra_o (by decide) (ra_o (by decide) (ra_o (by decide) (ra_o (by decide) (rfl)))))) ?_
  refine tm_iast (z := (4 * t) + 0) (v := σ.2.1 8 ((4 * f) + 0)) dX12_copyItem_94 (show mT[6]? = some (8, 0, 11440) from rfl) (by omega) (by omega) (by decide) ?_
  refine tm_iinc (q0 := 0) (L' := [(3, .int (iI 1)), (0, .ref b), (1, .int (iI f)), (2, .int (iI t))]) dX12_copyItem_95 rfl (by decide) rfl ?_
  refine tm_goto (tgt := 50) dX12_copyItem_98 (by decide) ?_
  refine tm_iload_n dX12_copyItem_50 rfl 0 rfl ?_
  refine tm_iconst dX12_copyItem_51 ?_
  refine tm_icmp_ge (tgt := 101) dX12_copyItem_52 (by decide) ⟨by decide, by decide⟩ ⟨by decide, by decide⟩ (fun h => absurd h (by decide)) (fun _ => ?_)
  refine tm_aload_n dX12_copyItem_55 rfl 1 rfl ?_
  refine tm_get (k := 7) (v := .ref (b + 1 + 5)) lay_12 dX12_copyItem_56 (by decide) fl12_26 rfl ?_
  refine tm_iconst dX12_copyItem_59 ?_
  refine tm_iload_n dX12_copyItem_60 rfl 3 rfl ?_
  refine tm_imul dX12_copyItem_61 ?_
  refine tm_iload_n dX12_copyItem_62 rfl 0 rfl ?_
  refine tm_iadd dX12_copyItem_63 ?_
  refine tm_aload_n dX12_copyItem_64 rfl 1 rfl ?_
  refine tm_get (k := 7) (v := .ref (b + 1 + 5)) lay_12 dX12_copyItem_65 (by decide) fl12_26 rfl ?_
  refine tm_iconst dX12_copyItem_68 ?_
  refine tm_iload_n dX12_copyItem_69 rfl 2 rfl ?_
  refine tm_imul dX12_copyItem_70 ?_
  refine tm_iload_n dX12_copyItem_71 rfl 0 rfl ?_
  refine tm_iadd dX12_copyItem_72 ?_
  refine tm_iald (z := (4 * f) + 1) (v := σ.2.1 7 ((4 * f) + 1)) dX12_copyItem_73 (show mT[5]? = some (7, 0, 11440) from rfl) (by omega) (by omega) (by decide) (ra_o (by decide) (ra_ne (by omega) (ra_o (by decide) (ra_o (by decide) (ra_o (by decide) (ra_o (by decide) (rfl))))))) ?_
  refine tm_iast (z := (4 * t) + 1) (v := σ.2.1 7 ((4 * f) + 1)) dX12_copyItem_74 (show mT[5]? = some (7, 0, 11440) from rfl) (by omega) (by omega) (by decide) ?_
  refine tm_aload_n dX12_copyItem_75 rfl 1 rfl ?_
  refine tm_get (k := 8) (v := .ref (b + 1 + 6)) lay_12 dX12_copyItem_76 (by decide) fl12_29 rfl ?_
  refine tm_iconst dX12_copyItem_79 ?_
  refine tm_iload_n dX12_copyItem_80 rfl 3 rfl ?_
  refine tm_imul dX12_copyItem_81 ?_
  refine tm_iload_n dX12_copyItem_82 rfl 0 rfl ?_
  refine tm_iadd dX12_copyItem_83 ?_
  refine tm_aload_n dX12_copyItem_84 rfl 1 rfl ?_
  refine tm_get (k := 8) (v := .ref (b + 1 + 6)) lay_12 dX12_copyItem_85 (by decide) fl12_29 rfl ?_
  refine tm_iconst dX12_copyItem_88 ?_
  refine tm_iload_n dX12_copyItem_89 rfl 2 rfl ?_
  refine tm_imul dX12_copyItem_90 ?_
  refine tm_iload_n dX12_copyItem_91 rfl 0 rfl ?_
  refine tm_iadd dX12_copyItem_92 ?_
  refine tm_iald (z := (4 * f) + 1) (v := σ.2.1 8 ((4 * f) + 1)) dX12_copyItem_93 (show mT[6]? = some (8, 0, 11440) from rfl) (by omega) (by omega) (by decide) (ra_o (by decide) (ra_ne (by omega) (ra_o (by decide) (ra_o (by decide) (ra_o (by decide) (ra_o (by decide) (ra_o (by decide) (rfl)))))))) ?_
  refine tm_iast (z := (4 * t) + 1) (v := σ.2.1 8 ((4 * f) + 1)) dX12_copyItem_94 (show mT[6]? = some (8, 0, 11440) from rfl) (by omega) (by omega) (by decide) ?_
  refine tm_iinc (q0 := 0) (L' := [(3, .int (iI 2)), (0, .ref b), (1, .int (iI f)), (2, .int (iI t))]) dX12_copyItem_95 rfl (by decide) rfl ?_
  refine tm_goto (tgt := 50) dX12_copyItem_98 (by decide) ?_
  refine tm_iload_n dX12_copyItem_50 rfl 0 rfl ?_
  refine tm_iconst dX12_copyItem_51 ?_
  refine tm_icmp_ge (tgt := 101) dX12_copyItem_52 (by decide) ⟨by decide, by decide⟩ ⟨by decide, by decide⟩ (fun h => absurd h (by decide)) (fun _ => ?_)
  refine tm_aload_n dX12_copyItem_55 rfl 1 rfl ?_
  refine tm_get (k := 7) (v := .ref (b + 1 + 5)) lay_12 dX12_copyItem_56 (by decide) fl12_26 rfl ?_
  refine tm_iconst dX12_copyItem_59 ?_
  refine tm_iload_n dX12_copyItem_60 rfl 3 rfl ?_
  refine tm_imul dX12_copyItem_61 ?_
  refine tm_iload_n dX12_copyItem_62 rfl 0 rfl ?_
  refine tm_iadd dX12_copyItem_63 ?_
  refine tm_aload_n dX12_copyItem_64 rfl 1 rfl ?_
  refine tm_get (k := 7) (v := .ref (b + 1 + 5)) lay_12 dX12_copyItem_65 (by decide) fl12_26 rfl ?_
  refine tm_iconst dX12_copyItem_68 ?_
  refine tm_iload_n dX12_copyItem_69 rfl 2 rfl ?_
  refine tm_imul dX12_copyItem_70 ?_
  refine tm_iload_n dX12_copyItem_71 rfl 0 rfl ?_
  refine tm_iadd dX12_copyItem_72 ?_
  refine tm_iald (z := (4 * f) + 2) (v := σ.2.1 7 ((4 * f) + 2)) dX12_copyItem_73 (show mT[5]? = some (7, 0, 11440) from rfl) (by omega) (by omega) (by decide) (ra_o (by decide) (ra_ne (by omega) (ra_o (by decide) (ra_ne (by omega) (ra_o (by decide) (ra_o (by decide) (ra_o (by decide) (ra_o (by decide) (rfl))))))))) ?_
  refine tm_iast (z := (4 * t) + 2) (v := σ.2.1 7 ((4 * f) + 2)) dX12_copyItem_74 (show mT[5]? = some (7, 0, 11440) from rfl) (by omega) (by omega) (by decide) ?_
  refine tm_aload_n dX12_copyItem_75 rfl 1 rfl ?_
  refine tm_get (k := 8) (v := .ref (b + 1 + 6)) lay_12 dX12_copyItem_76 (by decide) fl12_29 rfl ?_
  refine tm_iconst dX12_copyItem_79 ?_
  refine tm_iload_n dX12_copyItem_80 rfl 3 rfl ?_
  refine tm_imul dX12_copyItem_81 ?_
  refine tm_iload_n dX12_copyItem_82 rfl 0 rfl ?_
  refine tm_iadd dX12_copyItem_83 ?_
  refine tm_aload_n dX12_copyItem_84 rfl 1 rfl ?_
  refine tm_get (k := 8) (v := .ref (b + 1 + 6)) lay_12 dX12_copyItem_85 (by decide) fl12_29 rfl ?_
  refine tm_iconst dX12_copyItem_88 ?_
  refine tm_iload_n dX12_copyItem_89 rfl 2 rfl ?_
  refine tm_imul dX12_copyItem_90 ?_
  refine tm_iload_n dX12_copyItem_91 rfl 0 rfl ?_
  refine tm_iadd dX12_copyItem_92 ?_
  refine tm_iald (z := (4 * f) + 2) (v := σ.2.1 8 ((4 * f) + 2)) dX12_copyItem_93 (show mT[6]? = some (8, 0, 11440) from rfl) (by omega) (by omega) (by decide) (ra_o (by decide) (ra_ne (by omega) (ra_o (by decide) (ra_ne (by omega) (ra_o (by decide) (ra_o (by decide) (ra_o (by decide) (ra_o (by decide) (ra_o (by decide) (rfl)))))))))) ?_
  refine tm_iast (z := (4 * t) + 2) (v := σ.2.1 8 ((4 * f) + 2)) dX12_copyItem_94 (show mT[6]? = some (8, 0, 11440) from rfl) (by omega) (by omega) (by decide) ?_
  refine tm_iinc (q0 := 0) (L' := [(3, .int (iI 3)), (0, .ref b), (1, .int (iI f)), (2, .int (iI t))]) dX12_copyItem_95 rfl (by decide) rfl ?_
  refine tm_goto (tgt := 50) dX12_copyItem_98 (by decide) ?_
  refine tm_iload_n dX12_copyItem_50 rfl 0 rfl ?_
  refine tm_iconst dX12_copyItem_51 ?_
  refine tm_icmp_ge (tgt := 101) dX12_copyItem_52 (by decide) ⟨by decide, by decide⟩ ⟨by decide, by decide⟩ (fun h => absurd h (by decide)) (fun _ => ?_)
  refine tm_aload_n dX12_copyItem_55 rfl 1 rfl ?_
  refine tm_get (k := 7) (v := .ref (b + 1 + 5)) lay_12 dX12_copyItem_56 (by decide) fl12_26 rfl ?_
  refine tm_iconst dX12_copyItem_59 ?_
  refine tm_iload_n dX12_copyItem_60 rfl 3 rfl ?_
  refine tm_imul dX12_copyItem_61 ?_
  refine tm_iload_n dX12_copyItem_62 rfl 0 rfl ?_
  refine tm_iadd dX12_copyItem_63 ?_
  refine tm_aload_n dX12_copyItem_64 rfl 1 rfl ?_
  refine tm_get (k := 7) (v := .ref (b + 1 + 5)) lay_12 dX12_copyItem_65 (by decide) fl12_26 rfl ?_
  refine tm_iconst dX12_copyItem_68 ?_
  refine tm_iload_n dX12_copyItem_69 rfl 2 rfl ?_
  refine tm_imul dX12_copyItem_70 ?_
  refine tm_iload_n dX12_copyItem_71 rfl 0 rfl ?_
  refine tm_iadd dX12_copyItem_72 ?_
  refine tm_iald (z := (4 * f) + 3) (v := σ.2.1 7 ((4 * f) + 3)) dX12_copyItem_73 (show mT[5]? = some (7, 0, 11440) from rfl) (by omega) (by omega) (by decide) (ra_o (by decide) (ra_ne (by omega) (ra_o (by decide) (ra_ne (by omega) (ra_o (by decide) (ra_ne (by omega) (ra_o (by decide) (ra_o (by decide) (ra_o (by decide) (ra_o (by decide) (rfl))))))))))) ?_
  refine tm_iast (z := (4 * t) + 3) (v := σ.2.1 7 ((4 * f) + 3)) dX12_copyItem_74 (show mT[5]? = some (7, 0, 11440) from rfl) (by omega) (by omega) (by decide) ?_
  refine tm_aload_n dX12_copyItem_75 rfl 1 rfl ?_
  refine tm_get (k := 8) (v := .ref (b + 1 + 6)) lay_12 dX12_copyItem_76 (by decide) fl12_29 rfl ?_
  refine tm_iconst dX12_copyItem_79 ?_
  refine tm_iload_n dX12_copyItem_80 rfl 3 rfl ?_
  refine tm_imul dX12_copyItem_81 ?_
  refine tm_iload_n dX12_copyItem_82 rfl 0 rfl ?_
  refine tm_iadd dX12_copyItem_83 ?_
  refine tm_aload_n dX12_copyItem_84 rfl 1 rfl ?_
  refine tm_get (k := 8) (v := .ref (b + 1 + 6)) lay_12 dX12_copyItem_85 (by decide) fl12_29 rfl ?_
  refine tm_iconst dX12_copyItem_88 ?_
  refine tm_iload_n dX12_copyItem_89 rfl 2 rfl ?_
  refine tm_imul dX12_copyItem_90 ?_
  refine tm_iload_n dX12_copyItem_91 rfl 0 rfl ?_
  refine tm_iadd dX12_copyItem_92 ?_
  refine tm_iald (z := (4 * f) + 3) (v := σ.2.1 8 ((4 * f) + 3)) dX12_copyItem_93 (show mT[6]? = some (8, 0, 11440) from rfl) (by omega) (by omega) (by decide) (ra_o (by decide) (ra_ne (by omega) (ra_o (by decide) (ra_ne (by omega) (ra_o (by decide) (ra_ne (by omega) (ra_o (by decide) (ra_o (by decide) (ra_o (by decide) (ra_o (by decide) (ra_o (by decide) (rfl)))))))))))) ?_
  refine tm_iast (z := (4 * t) + 3) (v := σ.2.1 8 ((4 * f) + 3)) dX12_copyItem_94 (show mT[6]? = some (8, 0, 11440) from rfl) (by omega) (by omega) (by decide) ?_
  refine tm_iinc (q0 := 0) (L' := [(3, .int (iI 4)), (0, .ref b), (1, .int (iI f)), (2, .int (iI t))]) dX12_copyItem_95 rfl (by decide) rfl ?_
  refine tm_goto (tgt := 50) dX12_copyItem_98 (by decide) ?_
  refine tm_iload_n dX12_copyItem_50 rfl 0 rfl ?_
  refine tm_iconst dX12_copyItem_51 ?_
  refine tm_icmp_ge (tgt := 101) dX12_copyItem_52 (by decide) ⟨by decide, by decide⟩ ⟨by decide, by decide⟩ (fun _ => ?_) (fun h => absurd h (by decide))
  exact tm_vret rfl dX12_copyItem_101 (⟨rfl, rfl⟩)
theorem ml12_192 : Cond.methodLink RX12 192 yX12_writes ∈ pWW := pw9 (List.mem_of_getElem? (i := 52) rfl) rfl
theorem dX12_writesTo_0 : decode cX12_writesTo 0 = .ok (.aload_n 0, 1) := by decide +kernel
theorem dX12_writesTo_1 : decode cX12_writesTo 1 = .ok (.getfield 13, 3) := by decide +kernel
theorem dX12_writesTo_4 : decode cX12_writesTo 4 = .ok (.iload_n 1, 1) := by decide +kernel
theorem dX12_writesTo_5 : decode cX12_writesTo 5 = .ok (.iaload, 1) := by decide +kernel
theorem dX12_writesTo_6 : decode cX12_writesTo 6 = .ok (.invokestatic 192, 3) := by decide +kernel
theorem dX12_writesTo_9 : decode cX12_writesTo 9 = .ok (.ifCond .eq 17, 3) := by decide +kernel
theorem dX12_writesTo_26 : decode cX12_writesTo 26 = .ok (.iconst 0, 1) := by decide +kernel
theorem dX12_writesTo_27 : decode cX12_writesTo 27 = .ok (.ireturn, 1) := by decide +kernel
theorem dX12_writesTo_12 : decode cX12_writesTo 12 = .ok (.aload_n 0, 1) := by decide +kernel
theorem dX12_writesTo_13 : decode cX12_writesTo 13 = .ok (.getfield 17, 3) := by decide +kernel
theorem dX12_writesTo_16 : decode cX12_writesTo 16 = .ok (.iload_n 1, 1) := by decide +kernel
theorem dX12_writesTo_17 : decode cX12_writesTo 17 = .ok (.iaload, 1) := by decide +kernel
theorem dX12_writesTo_18 : decode cX12_writesTo 18 = .ok (.iload_n 2, 1) := by decide +kernel
theorem dX12_writesTo_19 : decode cX12_writesTo 19 = .ok (.if_icmp .ne 7, 3) := by decide +kernel
theorem dX12_writesTo_22 : decode cX12_writesTo 22 = .ok (.iconst 1, 1) := by decide +kernel
theorem dX12_writesTo_23 : decode cX12_writesTo 23 = .ok (.goto 4, 3) := by decide +kernel
set_option maxRecDepth 20000 in
theorem c_X12_writesTo (d : Nat) {b : Nat} {σ : MS} {x : Int} {g : Int} (hx : 0 ≤ x ∧ x < 2860) (hR : RG σ) (h_g : -2147483648 ≤ g ∧ g ≤ 2147483647) : Tm (d + 2) m_X12_writesTo 0 b σ [(0, .ref b), (1, .int (iI x)), (2, .int (iI g))] [] (fun ro σ2 => ∃ v : Int, ro = some (.int (iI v)) ∧ σ = σ2 ∧ ((v = 0 ∨ v = 1)) ∧ ((v = 1 ↔ (σ.2.1 3 x ≤ 5 ∨ σ.2.1 3 x = 10) ∧ σ.2.1 4 x = g))) := by
  refine tm_aload_n dX12_writesTo_0 rfl 0 rfl ?_
  refine tm_get (k := 3) (v := .ref (b + 1 + 1)) lay_12 dX12_writesTo_1 (by decide) fl12_13 rfl ?_
  refine tm_iload_n dX12_writesTo_4 rfl 1 rfl ?_
  refine tm_iald (z := x) (v := σ.2.1 3 x) dX12_writesTo_5 (show mT[1]? = some (3, 0, 2860) from rfl) (by omega) (by omega) (by decide) (rfl) ?_
  have g1 := RG.a hR 3 (x)
  refine tm_callS (M := m_X12_writesTo) (pc := 6) (ix := 192) (M' := m_X12_writes) (As := [.int (iI (σ.2.1 3 x))]) (rest := []) dX12_writesTo_6 ok_X12_writes stt_X12_writes ml12_192 np_X12_writes rfl (Nat.le_of_ble_eq_true rfl) (Nat.le_of_ble_eq_true rfl) rfl (c_X12_writes (d) (σ := σ) (x := σ.2.1 3 x) (by omega)) (fun r2 σ3 hp => ?_)
  obtain ⟨v4, rfl, rfl, f5, f6⟩ := hp
  show Tm _ _ 9 b σ [(0, .ref b), (1, .int (iI x)), (2, .int (iI g))] [.int (iI v4)] _
  refine tm_if_eq (tgt := 26) dX12_writesTo_9 (by decide) ⟨by omega, by omega⟩ (fun h7 => ?_) (fun h7 => ?_)
  · refine tm_iconst dX12_writesTo_26 ?_
    exact tm_zret (v := 0) rfl (by decide) dX12_writesTo_27 (⟨_, rfl, rfl, by omega, by omega⟩)
  · refine tm_aload_n dX12_writesTo_12 rfl 0 rfl ?_
    refine tm_get (k := 4) (v := .ref (b + 1 + 2)) lay_12 dX12_writesTo_13 (by decide) fl12_17 rfl ?_
    refine tm_iload_n dX12_writesTo_16 rfl 1 rfl ?_
    refine tm_iald (z := x) (v := σ.2.1 4 x) dX12_writesTo_17 (show mT[2]? = some (4, 0, 2860) from rfl) (by omega) (by omega) (by decide) (rfl) ?_
    have g8 := RG.a hR 4 (x)
    refine tm_iload_n dX12_writesTo_18 rfl 2 rfl ?_
    refine tm_icmp_ne (tgt := 26) dX12_writesTo_19 (by decide) ⟨by omega, by omega⟩ ⟨by omega, by omega⟩ (fun h9 => ?_) (fun h9 => ?_)
    · refine tm_iconst dX12_writesTo_26 ?_
      exact tm_zret (v := 0) rfl (by decide) dX12_writesTo_27 (⟨_, rfl, rfl, by omega, by omega⟩)
    · refine tm_iconst dX12_writesTo_22 ?_
      refine tm_goto (tgt := 27) dX12_writesTo_23 (by decide) ?_
      exact tm_zret (v := 1) rfl (by decide) dX12_writesTo_27 (⟨_, rfl, rfl, by omega, by omega⟩)
theorem ml12_196 : Cond.methodLink RX12 196 yX12_isFive ∈ pWW := pw9 (List.mem_of_getElem? (i := 59) rfl) rfl
theorem fl12_35 : Cond.fieldLink RX12 35 (TX12 11).1 (TX12 11).2.1 (TX12 11).2.2.1 ∈ pWW := pw7 (List.mem_of_getElem? (i := 18) rfl) rfl
theorem dX12_args_0 : decode cX12_args 0 = .ok (.aload_n 0, 1) := by decide +kernel
theorem dX12_args_1 : decode cX12_args 1 = .ok (.getfield 13, 3) := by decide +kernel
theorem dX12_args_4 : decode cX12_args 4 = .ok (.iload_n 1, 1) := by decide +kernel
theorem dX12_args_5 : decode cX12_args 5 = .ok (.iaload, 1) := by decide +kernel
theorem dX12_args_6 : decode cX12_args 6 = .ok (.istore_n 2, 1) := by decide +kernel
theorem dX12_args_7 : decode cX12_args 7 = .ok (.iload_n 2, 1) := by decide +kernel
theorem dX12_args_8 : decode cX12_args 8 = .ok (.bipush 10, 2) := by decide +kernel
theorem dX12_args_10 : decode cX12_args 10 = .ok (.if_icmp .ne 15, 3) := by decide +kernel
theorem dX12_args_25 : decode cX12_args 25 = .ok (.iload_n 2, 1) := by decide +kernel
theorem dX12_args_26 : decode cX12_args 26 = .ok (.bipush 12, 2) := by decide +kernel
theorem dX12_args_28 : decode cX12_args 28 = .ok (.if_icmp .ne 34, 3) := by decide +kernel
theorem dX12_args_62 : decode cX12_args 62 = .ok (.iload_n 2, 1) := by decide +kernel
theorem dX12_args_63 : decode cX12_args 63 = .ok (.invokestatic 196, 3) := by decide +kernel
theorem dX12_args_66 : decode cX12_args 66 = .ok (.ifCond .eq 7, 3) := by decide +kernel
theorem dX12_args_73 : decode cX12_args 73 = .ok (.iload_n 2, 1) := by decide +kernel
theorem dX12_args_74 : decode cX12_args 74 = .ok (.ifCond .eq 21, 3) := by decide +kernel
theorem dX12_args_95 : decode cX12_args 95 = .ok (.iconst 1, 1) := by decide +kernel
theorem dX12_args_96 : decode cX12_args 96 = .ok (.goto 4, 3) := by decide +kernel
theorem dX12_args_100 : decode cX12_args 100 = .ok (.ireturn, 1) := by decide +kernel
theorem dX12_args_77 : decode cX12_args 77 = .ok (.iload_n 2, 1) := by decide +kernel
theorem dX12_args_78 : decode cX12_args 78 = .ok (.bipush 6, 2) := by decide +kernel
theorem dX12_args_80 : decode cX12_args 80 = .ok (.if_icmp .eq 15, 3) := by decide +kernel
theorem dX12_args_83 : decode cX12_args 83 = .ok (.iload_n 2, 1) := by decide +kernel
theorem dX12_args_84 : decode cX12_args 84 = .ok (.bipush 7, 2) := by decide +kernel
theorem dX12_args_86 : decode cX12_args 86 = .ok (.if_icmp .eq 9, 3) := by decide +kernel
theorem dX12_args_89 : decode cX12_args 89 = .ok (.iload_n 2, 1) := by decide +kernel
theorem dX12_args_90 : decode cX12_args 90 = .ok (.bipush 9, 2) := by decide +kernel
theorem dX12_args_92 : decode cX12_args 92 = .ok (.if_icmp .ne 7, 3) := by decide +kernel
theorem dX12_args_99 : decode cX12_args 99 = .ok (.iconst 0, 1) := by decide +kernel
theorem dX12_args_69 : decode cX12_args 69 = .ok (.iconst 2, 1) := by decide +kernel
theorem dX12_args_70 : decode cX12_args 70 = .ok (.goto 30, 3) := by decide +kernel
theorem dX12_args_31 : decode cX12_args 31 = .ok (.aload_n 0, 1) := by decide +kernel
theorem dX12_args_32 : decode cX12_args 32 = .ok (.getfield 23, 3) := by decide +kernel
theorem dX12_args_35 : decode cX12_args 35 = .ok (.iload_n 1, 1) := by decide +kernel
theorem dX12_args_36 : decode cX12_args 36 = .ok (.iaload, 1) := by decide +kernel
theorem dX12_args_37 : decode cX12_args 37 = .ok (.bipush 10, 2) := by decide +kernel
theorem dX12_args_39 : decode cX12_args 39 = .ok (.if_icmp .lt 7, 3) := by decide +kernel
theorem dX12_args_46 : decode cX12_args 46 = .ok (.aload_n 0, 1) := by decide +kernel
theorem dX12_args_47 : decode cX12_args 47 = .ok (.getfield 23, 3) := by decide +kernel
theorem dX12_args_50 : decode cX12_args 50 = .ok (.iload_n 1, 1) := by decide +kernel
theorem dX12_args_51 : decode cX12_args 51 = .ok (.iaload, 1) := by decide +kernel
theorem dX12_args_52 : decode cX12_args 52 = .ok (.iconst 2, 1) := by decide +kernel
theorem dX12_args_53 : decode cX12_args 53 = .ok (.if_icmp .le 7, 3) := by decide +kernel
theorem dX12_args_60 : decode cX12_args 60 = .ok (.iconst 1, 1) := by decide +kernel
theorem dX12_args_61 : decode cX12_args 61 = .ok (.ireturn, 1) := by decide +kernel
theorem dX12_args_56 : decode cX12_args 56 = .ok (.iconst 2, 1) := by decide +kernel
theorem dX12_args_57 : decode cX12_args 57 = .ok (.goto 4, 3) := by decide +kernel
theorem dX12_args_42 : decode cX12_args 42 = .ok (.iconst 0, 1) := by decide +kernel
theorem dX12_args_43 : decode cX12_args 43 = .ok (.goto 18, 3) := by decide +kernel
theorem dX12_args_13 : decode cX12_args 13 = .ok (.aload_n 0, 1) := by decide +kernel
theorem dX12_args_14 : decode cX12_args 14 = .ok (.getfield 35, 3) := by decide +kernel
theorem dX12_args_17 : decode cX12_args 17 = .ok (.aload_n 0, 1) := by decide +kernel
theorem dX12_args_18 : decode cX12_args 18 = .ok (.getfield 20, 3) := by decide +kernel
theorem dX12_args_21 : decode cX12_args 21 = .ok (.iload_n 1, 1) := by decide +kernel
theorem dX12_args_22 : decode cX12_args 22 = .ok (.iaload, 1) := by decide +kernel
theorem dX12_args_23 : decode cX12_args 23 = .ok (.iaload, 1) := by decide +kernel
theorem dX12_args_24 : decode cX12_args 24 = .ok (.ireturn, 1) := by decide +kernel
set_option maxRecDepth 20000 in
theorem c_X12_args (d : Nat) {b : Nat} {σ : MS} {x : Int} (hx : 0 ≤ x ∧ x < 2860) (hR : RG σ) (hof : σ.2.1 3 x = 10 → 0 ≤ σ.2.1 5 x ∧ σ.2.1 5 x < 6) (hpar : PAR σ) : Tm (d + 3) m_X12_args 0 b σ [(0, .ref b), (1, .int (iI x))] [] (fun ro σ2 => ∃ v : Int, ro = some (.int (iI v)) ∧ σ = σ2 ∧ (v = nArgs σ x) ∧ (0 ≤ v ∧ v ≤ 4)) := by
  refine tm_aload_n dX12_args_0 rfl 0 rfl ?_
  refine tm_get (k := 3) (v := .ref (b + 1 + 1)) lay_12 dX12_args_1 (by decide) fl12_13 rfl ?_
  refine tm_iload_n dX12_args_4 rfl 1 rfl ?_
  refine tm_iald (z := x) (v := σ.2.1 3 x) dX12_args_5 (show mT[1]? = some (3, 0, 2860) from rfl) (by omega) (by omega) (by decide) (rfl) ?_
  have g1 := RG.a hR 3 (x)
  refine tm_istore_n (L' := [(2, .int (iI (σ.2.1 3 x))), (0, .ref b), (1, .int (iI x))]) dX12_args_6 rfl (by decide) rfl ?_
  refine tm_iload_n dX12_args_7 rfl 0 rfl ?_
  refine tm_bipush dX12_args_8 (by decide) ?_
  refine tm_icmp_ne (tgt := 25) dX12_args_10 (by decide) ⟨by omega, by omega⟩ ⟨by decide, by decide⟩ (fun h2 => ?_) (fun h2 => ?_)
  · refine tm_iload_n dX12_args_25 rfl 0 rfl ?_
    refine tm_bipush dX12_args_26 (by decide) ?_
    refine tm_icmp_ne (tgt := 62) dX12_args_28 (by decide) ⟨by omega, by omega⟩ ⟨by decide, by decide⟩ (fun h3 => ?_) (fun h3 => ?_)
    · refine tm_iload_n dX12_args_62 rfl 0 rfl ?_
      refine tm_callS (M := m_X12_args) (pc := 63) (ix := 196) (M' := m_X12_isFive) (As := [.int (iI (σ.2.1 3 x))]) (rest := []) dX12_args_63 ok_X12_isFive stt_X12_isFive ml12_196 np_X12_isFive rfl (Nat.le_of_ble_eq_true rfl) (Nat.le_of_ble_eq_true rfl) rfl (c_X12_isFive (d) (σ := σ) (x := σ.2.1 3 x) (by omega)) (fun r4 σ5 hp => ?_)
      obtain ⟨v6, rfl, rfl, f7, f8⟩ := hp
      show Tm _ _ 66 b σ [(2, .int (iI (σ.2.1 3 x))), (0, .ref b), (1, .int (iI x))] [.int (iI v6)] _
      refine tm_if_eq (tgt := 73) dX12_args_66 (by decide) ⟨by omega, by omega⟩ (fun h9 => ?_) (fun h9 => ?_)
      · refine tm_iload_n dX12_args_73 rfl 0 rfl ?_
        refine tm_if_eq (tgt := 95) dX12_args_74 (by decide) ⟨by omega, by omega⟩ (fun h10 => ?_) (fun h10 => ?_)
        · refine tm_iconst dX12_args_95 ?_
          refine tm_goto (tgt := 100) dX12_args_96 (by decide) ?_
          exact tm_iret rfl dX12_args_100 (⟨_, rfl, rfl, by unfold nArgs; (repeat' split) <;> omega, by omega⟩)
        · refine tm_iload_n dX12_args_77 rfl 0 rfl ?_
          refine tm_bipush dX12_args_78 (by decide) ?_
          refine tm_icmp_eq (tgt := 95) dX12_args_80 (by decide) ⟨by omega, by omega⟩ ⟨by decide, by decide⟩ (fun h11 => ?_) (fun h11 => ?_)
          · refine tm_iconst dX12_args_95 ?_
            refine tm_goto (tgt := 100) dX12_args_96 (by decide) ?_
            exact tm_iret rfl dX12_args_100 (⟨_, rfl, rfl, by unfold nArgs; (repeat' split) <;> omega, by omega⟩)
          · refine tm_iload_n dX12_args_83 rfl 0 rfl ?_
            refine tm_bipush dX12_args_84 (by decide) ?_
            refine tm_icmp_eq (tgt := 95) dX12_args_86 (by decide) ⟨by omega, by omega⟩ ⟨by decide, by decide⟩ (fun h12 => ?_) (fun h12 => ?_)
            · refine tm_iconst dX12_args_95 ?_
              refine tm_goto (tgt := 100) dX12_args_96 (by decide) ?_
              exact tm_iret rfl dX12_args_100 (⟨_, rfl, rfl, by unfold nArgs; (repeat' split) <;> omega, by omega⟩)
            · refine tm_iload_n dX12_args_89 rfl 0 rfl ?_
              refine tm_bipush dX12_args_90 (by decide) ?_
              refine tm_icmp_ne (tgt := 99) dX12_args_92 (by decide) ⟨by omega, by omega⟩ ⟨by decide, by decide⟩ (fun h13 => ?_) (fun h13 => ?_)
              · refine tm_iconst dX12_args_99 ?_
                exact tm_iret rfl dX12_args_100 (⟨_, rfl, rfl, by unfold nArgs; (repeat' split) <;> omega, by omega⟩)
              · refine tm_iconst dX12_args_95 ?_
                refine tm_goto (tgt := 100) dX12_args_96 (by decide) ?_
                exact tm_iret rfl dX12_args_100 (⟨_, rfl, rfl, by unfold nArgs; (repeat' split) <;> omega, by omega⟩)
      · refine tm_iconst dX12_args_69 ?_
        refine tm_goto (tgt := 100) dX12_args_70 (by decide) ?_
        exact tm_iret rfl dX12_args_100 (⟨_, rfl, rfl, by unfold nArgs; (repeat' split) <;> omega, by omega⟩)
    · refine tm_aload_n dX12_args_31 rfl 1 rfl ?_
      refine tm_get (k := 6) (v := .ref (b + 1 + 4)) lay_12 dX12_args_32 (by decide) fl12_23 rfl ?_
      refine tm_iload_n dX12_args_35 rfl 2 rfl ?_
      refine tm_iald (z := x) (v := σ.2.1 6 x) dX12_args_36 (show mT[4]? = some (6, 0, 2860) from rfl) (by omega) (by omega) (by decide) (rfl) ?_
      have g14 := RG.a hR 6 (x)
      refine tm_bipush dX12_args_37 (by decide) ?_
      refine tm_icmp_lt (tgt := 46) dX12_args_39 (by decide) ⟨by omega, by omega⟩ ⟨by decide, by decide⟩ (fun h15 => ?_) (fun h15 => ?_)
      · refine tm_aload_n dX12_args_46 rfl 1 rfl ?_
        refine tm_get (k := 6) (v := .ref (b + 1 + 4)) lay_12 dX12_args_47 (by decide) fl12_23 rfl ?_
        refine tm_iload_n dX12_args_50 rfl 2 rfl ?_
        refine tm_iald (z := x) (v := σ.2.1 6 x) dX12_args_51 (show mT[4]? = some (6, 0, 2860) from rfl) (by omega) (by omega) (by decide) (rfl) ?_
        have g16 := RG.a hR 6 (x)
        refine tm_iconst dX12_args_52 ?_
        refine tm_icmp_le (tgt := 60) dX12_args_53 (by decide) ⟨by omega, by omega⟩ ⟨by decide, by decide⟩ (fun h17 => ?_) (fun h17 => ?_)
        · refine tm_iconst dX12_args_60 ?_
          exact tm_iret rfl dX12_args_61 (⟨_, rfl, rfl, by unfold nArgs; (repeat' split) <;> omega, by omega⟩)
        · refine tm_iconst dX12_args_56 ?_
          refine tm_goto (tgt := 61) dX12_args_57 (by decide) ?_
          exact tm_iret rfl dX12_args_61 (⟨_, rfl, rfl, by unfold nArgs; (repeat' split) <;> omega, by omega⟩)
      · refine tm_iconst dX12_args_42 ?_
        refine tm_goto (tgt := 61) dX12_args_43 (by decide) ?_
        exact tm_iret rfl dX12_args_61 (⟨_, rfl, rfl, by unfold nArgs; (repeat' split) <;> omega, by omega⟩)
  · refine tm_aload_n dX12_args_13 rfl 1 rfl ?_
    refine tm_get (k := 11) (v := .ref (b + 1 + 8)) lay_12 dX12_args_14 (by decide) fl12_35 rfl ?_
    refine tm_aload_n dX12_args_17 rfl 1 rfl ?_
    refine tm_get (k := 5) (v := .ref (b + 1 + 3)) lay_12 dX12_args_18 (by decide) fl12_20 rfl ?_
    refine tm_iload_n dX12_args_21 rfl 2 rfl ?_
    refine tm_iald (z := x) (v := σ.2.1 5 x) dX12_args_22 (show mT[3]? = some (5, 0, 2860) from rfl) (by omega) (by omega) (by decide) (rfl) ?_
    have g18 := RG.a hR 5 (x)
    refine tm_iald (z := σ.2.1 5 x) (v := σ.2.1 11 (σ.2.1 5 x)) dX12_args_23 (show mT[8]? = some (11, 0, 6) from rfl) (by omega) (by omega) (by decide) (rfl) ?_
    have g19 := RG.a hR 11 (σ.2.1 5 x)
    have := hpar (σ.2.1 5 x) (by omega) (by omega)
    exact tm_iret rfl dX12_args_24 (⟨_, rfl, rfl, by unfold nArgs; (repeat' split) <;> omega, by omega⟩)
