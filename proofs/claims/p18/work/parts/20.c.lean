theorem m_feed (d : Nat) {N : Nat} {b : Nat} {σ : MS} {x1 x2 x3 x4 x5 : Int} (h_x1 : -2147483648 ≤ x1 ∧ x1 ≤ 2147483647) (h_x2 : -2147483648 ≤ x2 ∧ x2 ≤ 2147483647) (h_x3 : -2147483648 ≤ x3 ∧ x3 ≤ 2147483647) (h_x4 : -2147483648 ≤ x4 ∧ x4 ≤ 2147483647) (h_x5 : -2147483648 ≤ x5 ∧ x5 ≤ 2147483647) (hN : N ≤ 512) (h : INVM N σ) : Tm (d + 80) m_X12_feed 0 b σ [(0, .ref b), (1, .int (iI x1)), (2, .int (iI x2)), (3, .int (iI x3)), (4, .int (iI x4)), (5, .int (iI x5))] [] (fun ro σ2 => ∃ v : Int, ro = some (.int (iI v)) ∧ INVM (N + 1) σ2 ∧ ((σ.1 2 ≤ 1180 ∧ v = σ.1 2 + 20 ∧ σ2.1 2 = σ.1 2 + 20) ∨ (1180 < σ.1 2 ∧ v = -1 ∧ σ2.1 2 = σ.1 2))) := by
  have e : d + 80 = d + 78 + 2 := by omega
  rw [e]
  refine Tm.mono (c_X12_feed (d + 78) (x1 := x1) (x2 := x2) (x3 := x3) (x4 := x4) (x5 := x5) h.rg h.sz) (fun ro σ2 hp => ?_)
  obtain ⟨v, rfl, F, R, q1, q2⟩ := hp
  exact ⟨v, rfl, h.fr F R (by have := h.sz; omega) (by decide) (by decide), by omega⟩
theorem m_end (d : Nat) {N : Nat} {b : Nat} {σ : MS} {x : Int} (h_x : -2147483648 ≤ x ∧ x ≤ 2147483647) (hN : N ≤ 512) (h : INVM N σ) : Tm (d + 80) m_X12_end 0 b σ [(0, .ref b), (1, .int (iI x))] [] (fun ro σ2 => ∃ v : Int, ro = some (.int (iI v)) ∧ INVM (N + 1) σ2 ∧ (((x < 0 ∨ σ.1 2 < x) ∧ v = -1 ∧ σ2.1 2 = σ.1 2) ∨ (0 ≤ x ∧ x ≤ σ.1 2 ∧ v = x ∧ σ2.1 2 = x))) := by
  have e : d + 80 = d + 78 + 2 := by omega
  rw [e]
  refine Tm.mono (c_X12_end (d + 78) (x := x) h.rg h.sz h_x) (fun ro σ2 hp => ?_)
  obtain ⟨v, rfl, F, R, q1, q2⟩ := hp
  exact ⟨v, rfl, h.fr F R (by have := h.sz; omega) (by decide) (by decide), by omega⟩
theorem m_read (d : Nat) {N : Nat} {b : Nat} {σ : MS}   (hN : N ≤ 512) (h : INVM N σ) : Tm (d + 80) m_X12_read 0 b σ [(0, .ref b)] [] (fun ro σ2 => ∃ v : Int, ro = some (.int (iI v)) ∧ INVM (N + 1) σ2 ∧ (σ2.1 2 = 0)) := by
  have e : d + 80 = d + 15 + 65 := by omega
  rw [e]
  refine Tm.mono (c_X12_read (d + 15)  h.rg h.sz h.nn h.n43 h.rd) (fun ro σ2 hp => ?_)
  obtain ⟨v, rfl, F, R, q1, q2, q3, q4, q5⟩ := hp
  exact ⟨v, rfl, h.frR F R q1 q2 q3 q4, q1⟩
theorem m_fault (d : Nat) {N : Nat} {b : Nat} {σ : MS} {x : Int} (h_x : -2147483648 ≤ x ∧ x ≤ 2147483647) (hN : N ≤ 512) (h : INVM N σ) : Tm (d + 80) m_X12_fault 0 b σ [(0, .ref b), (1, .int (iI x))] [] (fun ro σ2 => ∃ v : Int, ro = some (.int (iI v)) ∧ INVM (N + 1) σ2 ∧ (σ2.1 2 = σ.1 2)) := by
  have e : d + 80 = d + 79 + 1 := by omega
  rw [e]
  refine Tm.mono (c_X12_fault (d + 79) (x := x) h.rg h_x) (fun ro σ2 hp => ?_)
  obtain ⟨v, rfl, F, R⟩ := hp
  exact ⟨v, rfl, h.fr0 F R (by decide) (by decide), (F.1 2 (by decide))⟩
theorem m_compared (d : Nat) {N : Nat} {b : Nat} {σ : MS} {x : Int} (h_x : -2147483648 ≤ x ∧ x ≤ 2147483647) (hN : N ≤ 512) (h : INVM N σ) : Tm (d + 80) m_X12_compared 0 b σ [(0, .ref b), (1, .int (iI x))] [] (fun ro σ2 => ∃ v : Int, ro = some (.int (iI v)) ∧ INVM (N + 1) σ2 ∧ (σ2.1 2 = σ.1 2)) := by
  have e : d + 80 = d + 78 + 2 := by omega
  rw [e]
  refine Tm.mono (c_X12_compared (d + 78) (x := x) h.rg h_x) (fun ro σ2 hp => ?_)
  obtain ⟨v, rfl, F, R⟩ := hp
  exact ⟨v, rfl, h.fr0 F R (by decide) (by decide), (F.1 2 (by decide))⟩
theorem m_printed (d : Nat) {N : Nat} {b : Nat} {σ : MS} {x : Int} (h_x : -2147483648 ≤ x ∧ x ≤ 2147483647) (hN : N ≤ 512) (h : INVM N σ) : Tm (d + 80) m_X12_printed 0 b σ [(0, .ref b), (1, .int (iI x))] [] (fun ro σ2 => ∃ v : Int, ro = some (.int (iI v)) ∧ INVM (N + 1) σ2 ∧ (σ2.1 2 = σ.1 2)) := by
  have e : d + 80 = d + 79 + 1 := by omega
  rw [e]
  refine Tm.mono (c_X12_printed (d + 79) (x := x) h.rg h_x) (fun ro σ2 hp => ?_)
  obtain ⟨v, rfl, F, R⟩ := hp
  exact ⟨v, rfl, h.fr0 F R (by decide) (by decide), (F.1 2 (by decide))⟩
theorem m_routine (d : Nat) {N : Nat} {b : Nat} {σ : MS} {x w : Int} (h_x : -2147483648 ≤ x ∧ x ≤ 2147483647) (h_w : -2147483648 ≤ w ∧ w ≤ 2147483647) (hN : N ≤ 512) (h : INVM N σ) : Tm (d + 80) m_X12_routine 0 b σ [(0, .ref b), (1, .int (iI x)), (2, .int (iI w))] [] (fun ro σ2 => ∃ v : Int, ro = some (.int (iI v)) ∧ INVM (N + 1) σ2 ∧ (σ2.1 2 = σ.1 2)) := by
  have e : d + 80 = d + 75 + 5 := by omega
  rw [e]
  refine Tm.mono (c_X12_routine (d + 75) (x := x) (w := w) h.rg h.itm h.par h.nam h.rtn h_x h_w) (fun ro σ2 hp => ?_)
  obtain ⟨v, rfl, F, R⟩ := hp
  exact ⟨v, rfl, h.fr0 F R (by decide) (by decide), (F.1 2 (by decide))⟩
theorem m_item (d : Nat) {N : Nat} {b : Nat} {σ : MS} {x k w : Int} (h_x : -2147483648 ≤ x ∧ x ≤ 2147483647) (h_k : -2147483648 ≤ k ∧ k ≤ 2147483647) (h_w : -2147483648 ≤ w ∧ w ≤ 2147483647) (hN : N ≤ 512) (h : INVM N σ) : Tm (d + 80) m_X12_item 0 b σ [(0, .ref b), (1, .int (iI x)), (2, .int (iI k)), (3, .int (iI w))] [] (fun ro σ2 => ∃ v : Int, ro = some (.int (iI v)) ∧ INVM (N + 1) σ2 ∧ (σ2.1 2 = σ.1 2)) := by
  have e : d + 80 = d + 76 + 4 := by omega
  rw [e]
  refine Tm.mono (c_X12_item (d + 76) (x := x) (k := k) (w := w) h.rg h.itm h.par h.nam h.rtn h_x h_k h_w) (fun ro σ2 hp => ?_)
  obtain ⟨v, rfl, F, R⟩ := hp
  exact ⟨v, rfl, h.fr0 F R (by decide) (by decide), (F.1 2 (by decide))⟩
theorem m_frame (d : Nat) {N : Nat} {b : Nat} {σ : MS} {x f w : Int} (h_x : -2147483648 ≤ x ∧ x ≤ 2147483647) (h_f : -2147483648 ≤ f ∧ f ≤ 2147483647) (h_w : -2147483648 ≤ w ∧ w ≤ 2147483647) (hN : N ≤ 512) (h : INVM N σ) : Tm (d + 80) m_X12_frame 0 b σ [(0, .ref b), (1, .int (iI x)), (2, .int (iI f)), (3, .int (iI w))] [] (fun ro σ2 => ∃ v : Int, ro = some (.int (iI v)) ∧ INVM (N + 1) σ2 ∧ (σ2.1 2 = σ.1 2)) := by
  have e : d + 80 = d + 76 + 4 := by omega
  rw [e]
  refine Tm.mono (c_X12_frame (d + 76) (x := x) (f := f) (w := w) h.rg h.itm h.par h.nam h.rtn h_x h_f h_w) (fun ro σ2 hp => ?_)
  obtain ⟨v, rfl, F, R⟩ := hp
  exact ⟨v, rfl, h.fr0 F R (by decide) (by decide), (F.1 2 (by decide))⟩
theorem m_told (d : Nat) {N : Nat} {b : Nat} {σ : MS} {x k f n w : Int} (h_x : -2147483648 ≤ x ∧ x ≤ 2147483647) (h_k : -2147483648 ≤ k ∧ k ≤ 2147483647) (h_f : -2147483648 ≤ f ∧ f ≤ 2147483647) (h_n : -2147483648 ≤ n ∧ n ≤ 2147483647) (h_w : -2147483648 ≤ w ∧ w ≤ 2147483647) (hN : N ≤ 512) (h : INVM N σ) : Tm (d + 80) m_X12_told 0 b σ [(0, .ref b), (1, .int (iI x)), (2, .int (iI k)), (3, .int (iI f)), (4, .int (iI n)), (5, .int (iI w))] [] (fun ro σ2 => ∃ v : Int, ro = some (.int (iI v)) ∧ INVM (N + 1) σ2 ∧ (σ2.1 2 = σ.1 2)) := by
  have e : d + 80 = d + 74 + 6 := by omega
  rw [e]
  refine Tm.mono (c_X12_told (d + 74) (x := x) (k := k) (f := f) (n := n) (w := w) h.rg h.itm h.par h.nam h.rtn h.lab h.b47 h.b48 h.ssa h.sca h_x h_k h_f h_n h_w) (fun ro σ2 hp => ?_)
  obtain ⟨v, rfl, F, R, q1, q2, q3, q4, q5⟩ := hp
  exact ⟨v, rfl, h.frT F R q1 q2 q3 q4 q5 (by decide) (by decide), (F.1 2 (by decide))⟩
theorem m_pass (d : Nat) {N : Nat} {b : Nat} {σ : MS} {w r : Int} (h_w : -2147483648 ≤ w ∧ w ≤ 2147483647) (h_r : -2147483648 ≤ r ∧ r ≤ 2147483647) (hN : N ≤ 512) (h : INVM N σ) : Tm (d + 80) m_X12_pass 0 b σ [(0, .ref b), (1, .int (iI w)), (2, .int (iI r))] [] (fun ro σ2 => ∃ v : Int, ro = some (.int (iI v)) ∧ INVM (N + 1) σ2 ∧ (σ2.1 2 = σ.1 2)) := by
  have e : d + 80 = d + 72 + 8 := by omega
  rw [e]
  refine Tm.mono (c_X12_pass (d + 72) (w := w) (r := r) h.rg h.itm h.par h.nam h.gda h.lab h.b47 h.b48 h.b59 h.b63 h.nul h.knw h_w h_r) (fun ro σ2 hp => ?_)
  obtain ⟨v, rfl, F, R, g1, g2, q1, q2, q3, q4, q5, q6, q7, q8, q9⟩ := hp
  exact ⟨v, rfl, h.frP F R g1 g2 q1 q2 q3 q4 q5 q6 q7 q8 (q9.imp (fun z => z.2) id), (F.1 2 (by decide))⟩
theorem m_start (d : Nat) {N : Nat} {b : Nat} {σ : MS} {x a1 a2 a3 a4 : Int} (h_x : -2147483648 ≤ x ∧ x ≤ 2147483647) (h_a1 : -2147483648 ≤ a1 ∧ a1 ≤ 2147483647) (h_a2 : -2147483648 ≤ a2 ∧ a2 ≤ 2147483647) (h_a3 : -2147483648 ≤ a3 ∧ a3 ≤ 2147483647) (h_a4 : -2147483648 ≤ a4 ∧ a4 ≤ 2147483647) (hN : N ≤ 512) (h : INVM N σ) : Tm (d + 80) m_X12_start 0 b σ [(0, .ref b), (1, .int (iI x)), (2, .int (iI a1)), (3, .int (iI a2)), (4, .int (iI a3)), (5, .int (iI a4))] [] (fun ro σ2 => ∃ v : Int, ro = some (.int (iI v)) ∧ INVM (N + 1) σ2 ∧ (σ2.1 2 = σ.1 2)) := by
  have e : d + 80 = d + 77 + 3 := by omega
  rw [e]
  refine Tm.mono (c2_X12_start (d + 77) (x := x) (a1 := a1) (a2 := a2) (a3 := a3) (a4 := a4) h.rg h.itm h.par h.nam h.rtn h.pn h_x h_a1 h_a2 h_a3 h_a4) (fun ro σ2 hp => ?_)
  obtain ⟨v, rfl, v01, F, R, q1, q2, q3, q4⟩ := hp
  have t76 : σ2.2.1 76 0 = σ.2.1 76 0 ∨ σ2.2.1 76 0 = 0 := by
    rcases v01 with e | e
    · exact Or.inl (by rw [(q1 e).2.2])
    · exact Or.inr (q4 e).2
  have r7 : R7 σ2 := fun a c => by
    rcases v01 with e | e
    · have g : Fr [0, 69, 70] [] [] σ σ2 := ⟨fun k hk => by
        by_cases e7 : k = 67
        · rw [e7]; exact (q1 e).1
        · by_cases e8 : k = 68
          · rw [e8]; exact (q1 e).2.1
          · exact F.1 k (by simp only [List.mem_cons, List.not_mem_nil, or_false] at hk ⊢; omega), fun k _ => by rw [(q1 e).2.2], fun k hk => F.2.2 k hk⟩
      exact h.r7.fr g (by decide) (by decide) a c
    · have z := q2 e
      have B2 : BKA σ2 0 := h.bka.fr F (by decide) (by decide)
      have e10 : σ2.1 10 = σ.1 10 := F.1 10 (by decide)
      exact RUN.new (by rw [e10]; exact z.1) (B2.2 _ z.1.1 (by rw [e10]; exact z.1.2)) z.2.1 z.2.2
  exact ⟨v, rfl, h.frS F R r7 (by omega) t76, (F.1 2 (by decide))⟩
theorem m_go (d : Nat) {N : Nat} {b : Nat} {σ : MS} {w nn : Int} (h_w : -2147483648 ≤ w ∧ w ≤ 2147483647) (h_nn : -2147483648 ≤ nn ∧ nn ≤ 2147483647) (hN : N ≤ 512) (h : INVM N σ) : Tm (d + 80) m_X12_go 0 b σ [(0, .ref b), (1, .int (iI w)), (2, .int (iI nn))] [] (fun ro σ2 => ∃ v : Int, ro = some (.int (iI v)) ∧ INVM (N + 1) σ2 ∧ (σ2.1 2 = σ.1 2)) := by
  have e : d + 80 = d + 76 + 4 := by omega
  rw [e]
  refine Tm.mono (c_X12_go (d + 76) (w := w) (nn := nn) h.rg h.itm h.par h.bka h.r7 (by have := h.n70; omega) (by have := h.n76; omega) h_w h_nn) (fun ro σ2 hp => ?_)
  obtain ⟨v, rfl, F, R, q1, q2, q3, q4⟩ := hp
  exact ⟨v, rfl, h.frG F R q1 q3 q4, (F.1 2 (by decide))⟩
theorem m_stack (d : Nat) {N : Nat} {b : Nat} {σ : MS} {k w : Int} (h_k : -2147483648 ≤ k ∧ k ≤ 2147483647) (h_w : -2147483648 ≤ w ∧ w ≤ 2147483647) (hN : N ≤ 512) (h : INVM N σ) : Tm (d + 80) m_X12_stack 0 b σ [(0, .ref b), (1, .int (iI k)), (2, .int (iI w))] [] (fun ro σ2 => ∃ v : Int, ro = some (.int (iI v)) ∧ INVM (N + 1) σ2 ∧ (σ2.1 2 = σ.1 2)) := by
  have e : d + 80 = d + 77 + 3 := by omega
  rw [e]
  refine Tm.mono (c_X12_stack (d + 77) (k := k) (w := w) h.rg h.itm h.par h.nam h.rtn h.run2 h_k h_w) (fun ro σ2 hp => ?_)
  obtain ⟨v, rfl, F, R⟩ := hp
  exact ⟨v, rfl, h.fr0 F R (by decide) (by decide), (F.1 2 (by decide))⟩
theorem m_known (d : Nat) {N : Nat} {b : Nat} {σ : MS} {k n : Int} (h_k : -2147483648 ≤ k ∧ k ≤ 2147483647) (h_n : -2147483648 ≤ n ∧ n ≤ 2147483647) (hN : N ≤ 512) (h : INVM N σ) : Tm (d + 80) m_X12_known 0 b σ [(0, .ref b), (1, .int (iI k)), (2, .int (iI n))] [] (fun ro σ2 => ∃ v : Int, ro = some (.int (iI v)) ∧ INVM (N + 1) σ2 ∧ (σ2.1 2 = σ.1 2)) := by
  have e : d + 80 = d + 73 + 7 := by omega
  rw [e]
  refine Tm.mono (c_X12_known (d + 73) (k := k) (n := n) h.rg h.itm h.par h.nam h.rtn h.run2 h.lab h.b47 h.b48 h.ssa h.sca h_k h_n) (fun ro σ2 hp => ?_)
  obtain ⟨v, rfl, F, R, q1, q2, q3, q4, q5⟩ := hp
  exact ⟨v, rfl, h.frT F R q1 q2 q3 q4 q5 (by decide) (by decide), (F.1 2 (by decide))⟩
theorem m_value (d : Nat) {N : Nat} {b : Nat} {σ : MS} {k n : Int} (h_k : -2147483648 ≤ k ∧ k ≤ 2147483647) (h_n : -2147483648 ≤ n ∧ n ≤ 2147483647) (hN : N ≤ 512) (h : INVM N σ) : Tm (d + 80) m_X12_value 0 b σ [(0, .ref b), (1, .int (iI k)), (2, .int (iI n))] [] (fun ro σ2 => ∃ v : Int, ro = some (.int (iI v)) ∧ INVM (N + 1) σ2 ∧ (σ2.1 2 = σ.1 2)) := by
  have e : d + 80 = d + 73 + 7 := by omega
  rw [e]
  refine Tm.mono (c_X12_value (d + 73) (k := k) (n := n) h.rg h.itm h.par h.nam h.rtn h.run2 h.lab h.b47 h.b48 h.ssa h.sca h_k h_n) (fun ro σ2 hp => ?_)
  obtain ⟨v, rfl, F, R, q1, q2, q3, q4, q5⟩ := hp
  exact ⟨v, rfl, h.frT F R q1 q2 q3 q4 q5 (by decide) (by decide), (F.1 2 (by decide))⟩
theorem m_run (d : Nat) {N : Nat} {b : Nat} {σ : MS} {w : Int} (h_w : -2147483648 ≤ w ∧ w ≤ 2147483647) (hN : N ≤ 512) (h : INVM N σ) : Tm (d + 80) m_X12_run 0 b σ [(0, .ref b), (1, .int (iI w))] [] (fun ro σ2 => ∃ v : Int, ro = some (.int (iI v)) ∧ INVM (N + 1) σ2 ∧ (σ2.1 2 = σ.1 2)) := by
  have e : d + 80 = d + 78 + 2 := by omega
  rw [e]
  refine Tm.mono (c_X12_run (d + 78) (w := w) h.rg h.run1 h_w) (fun ro σ2 hp => ?_)
  obtain ⟨v, rfl, F, R⟩ := hp
  exact ⟨v, rfl, h.fr0 F R (by decide) (by decide), (F.1 2 (by decide))⟩
theorem m_beside (d : Nat) {N : Nat} {b : Nat} {σ : MS} {x a1 a2 a3 a4 ln : Int} (h_x : -2147483648 ≤ x ∧ x ≤ 2147483647) (h_a1 : -2147483648 ≤ a1 ∧ a1 ≤ 2147483647) (h_a2 : -2147483648 ≤ a2 ∧ a2 ≤ 2147483647) (h_a3 : -2147483648 ≤ a3 ∧ a3 ≤ 2147483647) (h_a4 : -2147483648 ≤ a4 ∧ a4 ≤ 2147483647) (h_ln : -2147483648 ≤ ln ∧ ln ≤ 2147483647) (hN : N ≤ 512) (h : INVM N σ) : Tm (d + 80) m_X12_beside 0 b σ [(0, .ref b), (1, .int (iI x)), (2, .int (iI a1)), (3, .int (iI a2)), (4, .int (iI a3)), (5, .int (iI a4)), (6, .int (iI ln))] [] (fun ro σ2 => ∃ v : Int, ro = some (.int (iI v)) ∧ INVM (N + 1) σ2 ∧ (σ2.1 2 = σ.1 2)) := by
  have e : d + 80 = d + 71 + 9 := by omega
  rw [e]
  refine Tm.mono (c_X12_beside (d + 71) (x := x) (a1 := a1) (a2 := a2) (a3 := a3) (a4 := a4) (ln := ln) h.rg h.itm h.par h.nam h.gda h.lab h.b47 h.b48 h.ssa h.sca h.pla h_x h_a1 h_a2 h_a3 h_a4 h_ln) (fun ro σ2 hp => ?_)
  obtain ⟨v, rfl, F, R, q1, q2, q3, q4, q5, q6⟩ := hp
  exact ⟨v, rfl, h.frB F R q1 q2 q3 q4 q5 q6 (by decide) (by decide), (F.1 2 (by decide))⟩
