def LEAN (σ : MS) (x g : Int) : Prop := ∃ i, 0 ≤ i ∧ i < nArgs σ x ∧ σ.2.1 7 (4 * x + i) = 2 ∧ σ.2.1 8 (4 * x + i) = g
def OKI (σ : MS) (F x : Int) : Prop :=
  (0 ≤ σ.2.1 3 x ∧ σ.2.1 3 x ≤ 15) ∧ ((σ.2.1 3 x ≤ 5 ∨ σ.2.1 3 x = 10) → 0 ≤ σ.2.1 4 x ∧ σ.2.1 4 x < 192) ∧ ((σ.2.1 3 x = 8 ∨ σ.2.1 3 x = 9 ∨ σ.2.1 3 x = 13) → 0 ≤ σ.2.1 4 x ∧ σ.2.1 4 x < 4096) ∧ ((σ.2.1 3 x = 14 ∨ σ.2.1 3 x = 15) → 0 ≤ σ.2.1 4 x ∧ σ.2.1 4 x < F) ∧ (σ.2.1 3 x = 12 → 0 ≤ σ.2.1 4 x ∧ σ.2.1 4 x < 12) ∧
  ((σ.2.1 3 x = 11 ∨ σ.2.1 3 x = 12) → 0 ≤ σ.2.1 5 x ∧ σ.2.1 5 x < F) ∧ (σ.2.1 3 x = 10 → 0 ≤ σ.2.1 5 x ∧ σ.2.1 5 x < 6) ∧ (∀ i, 0 ≤ i → i < 4 → (0 ≤ σ.2.1 7 (4 * x + i) ∧ σ.2.1 7 (4 * x + i) ≤ 2) ∧ (σ.2.1 7 (4 * x + i) = 2 → (0 ≤ σ.2.1 8 (4 * x + i) ∧ σ.2.1 8 (4 * x + i) < 192) ∧ i < nArgs σ x)) ∧ (σ.2.1 3 x = 12 → σ.2.1 6 x = 2 → σ.2.1 7 (4 * x + 0) = 2)
def ITM (σ : MS) : Prop := ∀ r, 0 ≤ r → r < 13 → 0 ≤ σ.2.1 9 r ∧ σ.2.1 9 r ≤ 220
/-- all items of a routine are well formed; F frames -/
def OKS (σ : MS) (F r : Int) : Prop := ∀ k, 0 ≤ k → k < σ.2.1 9 r → OKI σ F (220 * r + k)
/-- names of the frames of a routine -/
def OKF (σ : MS) (r : Int) : Prop := (1 ≤ σ.2.1 14 r ∧ σ.2.1 14 r ≤ 12) ∧ ∀ f, 0 ≤ f → f < σ.2.1 14 r → (0 ≤ σ.2.1 15 (12 * r + f) ∧ σ.2.1 15 (12 * r + f) < 6) ∧ ∀ n, 0 ≤ n → n < σ.2.1 12 (σ.2.1 15 (12 * r + f)) → 0 ≤ σ.2.1 18 (144 * r + 12 * f + n) ∧ σ.2.1 18 (144 * r + 12 * f + n) < 192
def NAM (σ : MS) : Prop := ∀ r, 0 ≤ r → r < 6 → 0 ≤ σ.2.1 12 r ∧ σ.2.1 12 r ≤ 12

theorem ml12_199 : Cond.methodLink RX12 199 yX12_args ∈ pWW := pw9 (List.mem_of_getElem? (i := 55) rfl) rfl
theorem dX12_leansOn_2 : decode cX12_leansOn 2 = .ok (.iload_n 3, 1) := by decide +kernel
theorem dX12_leansOn_3 : decode cX12_leansOn 3 = .ok (.aload_n 0, 1) := by decide +kernel
theorem dX12_leansOn_4 : decode cX12_leansOn 4 = .ok (.iload_n 1, 1) := by decide +kernel
theorem dX12_leansOn_5 : decode cX12_leansOn 5 = .ok (.invokevirtual 199, 3) := by decide +kernel
theorem dX12_leansOn_8 : decode cX12_leansOn 8 = .ok (.if_icmp .ge 39, 3) := by decide +kernel
theorem dX12_leansOn_11 : decode cX12_leansOn 11 = .ok (.aload_n 0, 1) := by decide +kernel
theorem dX12_leansOn_12 : decode cX12_leansOn 12 = .ok (.getfield 26, 3) := by decide +kernel
theorem dX12_leansOn_15 : decode cX12_leansOn 15 = .ok (.iconst 4, 1) := by decide +kernel
theorem dX12_leansOn_16 : decode cX12_leansOn 16 = .ok (.iload_n 1, 1) := by decide +kernel
theorem dX12_leansOn_17 : decode cX12_leansOn 17 = .ok (.imul, 1) := by decide +kernel
theorem dX12_leansOn_18 : decode cX12_leansOn 18 = .ok (.iload_n 3, 1) := by decide +kernel
theorem dX12_leansOn_19 : decode cX12_leansOn 19 = .ok (.iadd, 1) := by decide +kernel
theorem dX12_leansOn_20 : decode cX12_leansOn 20 = .ok (.iaload, 1) := by decide +kernel
theorem dX12_leansOn_21 : decode cX12_leansOn 21 = .ok (.iconst 2, 1) := by decide +kernel
theorem dX12_leansOn_22 : decode cX12_leansOn 22 = .ok (.if_icmp .ne 19, 3) := by decide +kernel
theorem dX12_leansOn_41 : decode cX12_leansOn 41 = .ok (.iinc 3 1, 3) := by decide +kernel
theorem dX12_leansOn_44 : decode cX12_leansOn 44 = .ok (.goto (-42), 3) := by decide +kernel
theorem dX12_leansOn_25 : decode cX12_leansOn 25 = .ok (.aload_n 0, 1) := by decide +kernel
theorem dX12_leansOn_26 : decode cX12_leansOn 26 = .ok (.getfield 29, 3) := by decide +kernel
theorem dX12_leansOn_29 : decode cX12_leansOn 29 = .ok (.iconst 4, 1) := by decide +kernel
theorem dX12_leansOn_30 : decode cX12_leansOn 30 = .ok (.iload_n 1, 1) := by decide +kernel
theorem dX12_leansOn_31 : decode cX12_leansOn 31 = .ok (.imul, 1) := by decide +kernel
theorem dX12_leansOn_32 : decode cX12_leansOn 32 = .ok (.iload_n 3, 1) := by decide +kernel
theorem dX12_leansOn_33 : decode cX12_leansOn 33 = .ok (.iadd, 1) := by decide +kernel
theorem dX12_leansOn_34 : decode cX12_leansOn 34 = .ok (.iaload, 1) := by decide +kernel
theorem dX12_leansOn_35 : decode cX12_leansOn 35 = .ok (.iload_n 2, 1) := by decide +kernel
theorem dX12_leansOn_36 : decode cX12_leansOn 36 = .ok (.if_icmp .ne 5, 3) := by decide +kernel
theorem dX12_leansOn_39 : decode cX12_leansOn 39 = .ok (.iconst 1, 1) := by decide +kernel
theorem dX12_leansOn_40 : decode cX12_leansOn 40 = .ok (.ireturn, 1) := by decide +kernel
set_option maxRecDepth 20000 in
theorem l_leansOn (d : Nat) {b : Nat} {σ : MS} {x : Int} {g : Int} {post : Option Value → MS → Prop} (hx : 0 ≤ x ∧ x < 2860) (hR : RG σ) (hof : σ.2.1 3 x = 10 → 0 ≤ σ.2.1 5 x ∧ σ.2.1 5 x < 6) (hpar : PAR σ) (h_g : -2147483648 ≤ g ∧ g ≤ 2147483647) (hx_47 : ∀ (i : Int) , (∀ j, 0 ≤ j → j < nArgs σ x → ¬ (σ.2.1 7 (4 * x + j) = 2 ∧ σ.2.1 8 (4 * x + j) = g)) → Tm (d + 4) m_X12_leansOn 47 b σ [(3, .int (iI i)), (0, .ref b), (1, .int (iI x)), (2, .int (iI g))] [] post) (hr1 : ∀ i, 0 ≤ i → i < nArgs σ x → σ.2.1 7 (4 * x + i) = 2 → σ.2.1 8 (4 * x + i) = g → post (some (.int (iI 1))) σ) : ∀ (n : Nat) (i : Int) , (0 ≤ i ∧ i ≤ 4) → (∀ j, 0 ≤ j → j < i → ¬ (σ.2.1 7 (4 * x + j) = 2 ∧ σ.2.1 8 (4 * x + j) = g)) → (4 - i).toNat = n → Tm (d + 4) m_X12_leansOn 2 b σ [(3, .int (iI i)), (0, .ref b), (1, .int (iI x)), (2, .int (iI g))] [] post := by
  intro n
  induction n using Nat.strongRecOn with
  | _ n ih =>
    intro i h0 hj hm
    refine tm_iload_n dX12_leansOn_2 rfl 0 rfl ?_
    refine tm_aload_n dX12_leansOn_3 rfl 1 rfl ?_
    refine tm_iload_n dX12_leansOn_4 rfl 2 rfl ?_
    refine tm_callV (M := m_X12_leansOn) (pc := 5) (ix := 199) (M' := m_X12_args) (As := [.int (iI x)]) (rest := [.int (iI i)]) dX12_leansOn_5 ok_X12_args im_X12_args se_X12_args ml12_199 np_X12_args rfl rfl (Nat.le_of_ble_eq_true rfl) (Nat.le_of_ble_eq_true rfl) rfl (c_X12_args (d) (σ := σ) (x := x) hx hR hof hpar) (fun r1 σ2 hp => ?_)
    obtain ⟨v3, rfl, rfl, f4, f5⟩ := hp
    show Tm _ _ 8 b σ [(3, .int (iI i)), (0, .ref b), (1, .int (iI x)), (2, .int (iI g))] [.int (iI v3), .int (iI i)] _
    refine tm_icmp_ge (tgt := 47) dX12_leansOn_8 (by decide) ⟨by omega, by omega⟩ ⟨by omega, by omega⟩ (fun h6 => ?_) (fun h6 => ?_)
    · exact tm_sub [0, 1, 2, 3] rfl (hx_47 (i) (fun j a b => hj j a (by omega)))
    · refine tm_aload_n dX12_leansOn_11 rfl 1 rfl ?_
      refine tm_get (k := 7) (v := .ref (b + 1 + 5)) lay_12 dX12_leansOn_12 (by decide) fl12_26 rfl ?_
      refine tm_iconst dX12_leansOn_15 ?_
      refine tm_iload_n dX12_leansOn_16 rfl 2 rfl ?_
      refine tm_imul dX12_leansOn_17 ?_
      refine tm_iload_n dX12_leansOn_18 rfl 0 rfl ?_
      refine tm_iadd dX12_leansOn_19 ?_
      refine tm_iald (z := (4 * x) + i) (v := σ.2.1 7 ((4 * x) + i)) dX12_leansOn_20 (show mT[5]? = some (7, 0, 11440) from rfl) (by omega) (by omega) (by decide) (rfl) ?_
      have g7 := RG.a hR 7 ((4 * x) + i)
      refine tm_iconst dX12_leansOn_21 ?_
      refine tm_icmp_ne (tgt := 41) dX12_leansOn_22 (by decide) ⟨by omega, by omega⟩ ⟨by decide, by decide⟩ (fun h8 => ?_) (fun h8 => ?_)
      · refine tm_iinc (q0 := 0) (L' := [(3, .int (iI (i + 1))), (0, .ref b), (1, .int (iI x)), (2, .int (iI g))]) dX12_leansOn_41 rfl (by decide) rfl ?_
        refine tm_goto (tgt := 2) dX12_leansOn_44 (by decide) ?_
        exact tm_sub [0, 1, 2, 3] rfl (ih _ (by omega) (i + 1) (by omega) (fun j a b => by
          by_cases e : j = i
          · subst e; omega
          · exact hj j a (by omega)) rfl)
      · refine tm_aload_n dX12_leansOn_25 rfl 1 rfl ?_
        refine tm_get (k := 8) (v := .ref (b + 1 + 6)) lay_12 dX12_leansOn_26 (by decide) fl12_29 rfl ?_
        refine tm_iconst dX12_leansOn_29 ?_
        refine tm_iload_n dX12_leansOn_30 rfl 2 rfl ?_
        refine tm_imul dX12_leansOn_31 ?_
        refine tm_iload_n dX12_leansOn_32 rfl 0 rfl ?_
        refine tm_iadd dX12_leansOn_33 ?_
        refine tm_iald (z := (4 * x) + i) (v := σ.2.1 8 ((4 * x) + i)) dX12_leansOn_34 (show mT[6]? = some (8, 0, 11440) from rfl) (by omega) (by omega) (by decide) (rfl) ?_
        have g9 := RG.a hR 8 ((4 * x) + i)
        refine tm_iload_n dX12_leansOn_35 rfl 3 rfl ?_
        refine tm_icmp_ne (tgt := 41) dX12_leansOn_36 (by decide) ⟨by omega, by omega⟩ ⟨by omega, by omega⟩ (fun h10 => ?_) (fun h10 => ?_)
        · refine tm_iinc (q0 := 0) (L' := [(3, .int (iI (i + 1))), (0, .ref b), (1, .int (iI x)), (2, .int (iI g))]) dX12_leansOn_41 rfl (by decide) rfl ?_
          refine tm_goto (tgt := 2) dX12_leansOn_44 (by decide) ?_
          exact tm_sub [0, 1, 2, 3] rfl (ih _ (by omega) (i + 1) (by omega) (fun j a b => by
          by_cases e : j = i
          · subst e; omega
          · exact hj j a (by omega)) rfl)
        · refine tm_iconst dX12_leansOn_39 ?_
          exact tm_zret (v := 1) rfl (by decide) dX12_leansOn_40 (hr1 i (by omega) (by omega) (by assumption) (by assumption))
theorem dX12_leansOn_0 : decode cX12_leansOn 0 = .ok (.iconst 0, 1) := by decide +kernel
theorem dX12_leansOn_1 : decode cX12_leansOn 1 = .ok (.istore_n 3, 1) := by decide +kernel
theorem dX12_leansOn_47 : decode cX12_leansOn 47 = .ok (.iconst 0, 1) := by decide +kernel
theorem dX12_leansOn_48 : decode cX12_leansOn 48 = .ok (.ireturn, 1) := by decide +kernel
set_option maxRecDepth 20000 in
theorem c_X12_leansOn (d : Nat) {b : Nat} {σ : MS} {x : Int} {g : Int} (hx : 0 ≤ x ∧ x < 2860) (hR : RG σ) (hof : σ.2.1 3 x = 10 → 0 ≤ σ.2.1 5 x ∧ σ.2.1 5 x < 6) (hpar : PAR σ) (h_g : -2147483648 ≤ g ∧ g ≤ 2147483647) : Tm (d + 4) m_X12_leansOn 0 b σ [(0, .ref b), (1, .int (iI x)), (2, .int (iI g))] [] (fun ro σ2 => ∃ v : Int, ro = some (.int (iI v)) ∧ σ = σ2 ∧ ((v = 0 ∨ v = 1)) ∧ ((v = 1 ↔ LEAN σ x g))) := by
  refine tm_iconst dX12_leansOn_0 ?_
  refine tm_istore_n (L' := [(3, .int (iI 0)), (0, .ref b), (1, .int (iI x)), (2, .int (iI g))]) dX12_leansOn_1 rfl (by decide) rfl ?_
  refine tm_sub [0, 1, 2, 3] rfl (l_leansOn (d) (σ := σ) (x := x) (g := g) hx hR hof hpar h_g (fun i5 f4 => ?_) (fun i a b c e => ⟨_, rfl, rfl, Or.inr rfl, fun _ => ⟨i, a, b, c, e⟩, fun _ => rfl⟩) _ (0) (by omega) (fun j a b => by omega) rfl)
  show Tm _ _ 47 b σ [(3, .int (iI i5)), (0, .ref b), (1, .int (iI x)), (2, .int (iI g))] [] _
  refine tm_iconst dX12_leansOn_47 ?_
  exact tm_zret (v := 0) rfl (by decide) dX12_leansOn_48 (⟨_, rfl, rfl, Or.inl rfl, fun h => absurd h (by decide), fun ⟨i, a, b, c, e⟩ => absurd ⟨c, e⟩ (f4 i a b)⟩)
theorem fl12_32 : Cond.fieldLink RX12 32 (TX12 9).1 (TX12 9).2.1 (TX12 9).2.2.1 ∈ pWW := pw7 (List.mem_of_getElem? (i := 16) rfl) rfl
theorem ml12_203 : Cond.methodLink RX12 203 yX12_at ∈ pWW := pw8 (List.mem_of_getElem? (i := 209) rfl) rfl
theorem ml12_401 : Cond.methodLink RX12 401 yX12_isAct ∈ pWW := pw9 (List.mem_of_getElem? (i := 45) rfl) rfl
theorem dX12_acts_4 : decode cX12_acts 4 = .ok (.iload_n 3, 1) := by decide +kernel
theorem dX12_acts_5 : decode cX12_acts 5 = .ok (.aload_n 0, 1) := by decide +kernel
theorem dX12_acts_6 : decode cX12_acts 6 = .ok (.getfield 32, 3) := by decide +kernel
theorem dX12_acts_9 : decode cX12_acts 9 = .ok (.iload_n 1, 1) := by decide +kernel
theorem dX12_acts_10 : decode cX12_acts 10 = .ok (.iaload, 1) := by decide +kernel
theorem dX12_acts_11 : decode cX12_acts 11 = .ok (.if_icmp .ge 34, 3) := by decide +kernel
theorem dX12_acts_14 : decode cX12_acts 14 = .ok (.iload_n 2, 1) := by decide +kernel
theorem dX12_acts_15 : decode cX12_acts 15 = .ok (.aload_n 0, 1) := by decide +kernel
theorem dX12_acts_16 : decode cX12_acts 16 = .ok (.getfield 13, 3) := by decide +kernel
theorem dX12_acts_19 : decode cX12_acts 19 = .ok (.aload_n 0, 1) := by decide +kernel
theorem dX12_acts_20 : decode cX12_acts 20 = .ok (.iload_n 1, 1) := by decide +kernel
theorem dX12_acts_21 : decode cX12_acts 21 = .ok (.iload_n 3, 1) := by decide +kernel
theorem dX12_acts_22 : decode cX12_acts 22 = .ok (.invokevirtual 203, 3) := by decide +kernel
theorem dX12_acts_25 : decode cX12_acts 25 = .ok (.iaload, 1) := by decide +kernel
theorem dX12_acts_26 : decode cX12_acts 26 = .ok (.invokestatic 401, 3) := by decide +kernel
theorem dX12_acts_29 : decode cX12_acts 29 = .ok (.ifCond .eq 7, 3) := by decide +kernel
theorem dX12_acts_36 : decode cX12_acts 36 = .ok (.iconst 0, 1) := by decide +kernel
theorem dX12_acts_37 : decode cX12_acts 37 = .ok (.iadd, 1) := by decide +kernel
theorem dX12_acts_38 : decode cX12_acts 38 = .ok (.istore_n 2, 1) := by decide +kernel
theorem dX12_acts_39 : decode cX12_acts 39 = .ok (.iinc 3 1, 3) := by decide +kernel
theorem dX12_acts_42 : decode cX12_acts 42 = .ok (.goto (-38), 3) := by decide +kernel
theorem dX12_acts_32 : decode cX12_acts 32 = .ok (.iconst 1, 1) := by decide +kernel
theorem dX12_acts_33 : decode cX12_acts 33 = .ok (.goto 4, 3) := by decide +kernel
set_option maxRecDepth 20000 in
theorem l_acts (d : Nat) {b : Nat} {σ : MS} {r : Int} {post : Option Value → MS → Prop} (hr : 0 ≤ r ∧ r < 12) (hR : RG σ) (hit : ITM σ) (hx_45 : ∀ (n1 : Int) (k : Int) , (0 ≤ n1 ∧ n1 ≤ 220) → Tm (d + 3) m_X12_acts 45 b σ [(3, .int (iI k)), (2, .int (iI n1)), (0, .ref b), (1, .int (iI r))] [] post) : ∀ (n : Nat) (n1 : Int) (k : Int) , (0 ≤ n1 ∧ n1 ≤ k ∧ k ≤ 220) → (220 - k).toNat = n → Tm (d + 3) m_X12_acts 4 b σ [(3, .int (iI k)), (2, .int (iI n1)), (0, .ref b), (1, .int (iI r))] [] post := by
  intro n
  induction n using Nat.strongRecOn with
  | _ n ih =>
    intro n1 k h0 hm
    refine tm_iload_n dX12_acts_4 rfl 0 rfl ?_
    refine tm_aload_n dX12_acts_5 rfl 2 rfl ?_
    refine tm_get (k := 9) (v := .ref (b + 1 + 7)) lay_12 dX12_acts_6 (by decide) fl12_32 rfl ?_
    refine tm_iload_n dX12_acts_9 rfl 3 rfl ?_
    refine tm_iald (z := r) (v := σ.2.1 9 r) dX12_acts_10 (show mT[7]? = some (9, 0, 13) from rfl) (by omega) (by omega) (by decide) (rfl) ?_
    have g1 := RG.a hR 9 (r)
    have := hit (r) (by omega) (by omega)
    refine tm_icmp_ge (tgt := 45) dX12_acts_11 (by decide) ⟨by omega, by omega⟩ ⟨by omega, by omega⟩ (fun h2 => ?_) (fun h2 => ?_)
    · exact tm_sub [0, 1, 2, 3] rfl (hx_45 (n1) (k) (by omega))
    · refine tm_iload_n dX12_acts_14 rfl 1 rfl ?_
      refine tm_aload_n dX12_acts_15 rfl 2 rfl ?_
      refine tm_get (k := 3) (v := .ref (b + 1 + 1)) lay_12 dX12_acts_16 (by decide) fl12_13 rfl ?_
      refine tm_aload_n dX12_acts_19 rfl 2 rfl ?_
      refine tm_iload_n dX12_acts_20 rfl 3 rfl ?_
      refine tm_iload_n dX12_acts_21 rfl 0 rfl ?_
      refine tm_callV (M := m_X12_acts) (pc := 22) (ix := 203) (M' := m_X12_at) (As := [.int (iI r), .int (iI k)]) (rest := [.ref (b + 1 + 1), .int (iI n1)]) dX12_acts_22 ok_X12_at im_X12_at se_X12_at ml12_203 np_X12_at rfl rfl (Nat.le_of_ble_eq_true rfl) (Nat.le_of_ble_eq_true rfl) rfl (c_X12_at (d + 1) (σ := σ) (x := r) (k := k) ) (fun r3 σ4 hp => ?_)
      obtain ⟨v5, rfl, rfl, f6⟩ := hp
      subst f6
      show Tm _ _ 25 b σ [(3, .int (iI k)), (2, .int (iI n1)), (0, .ref b), (1, .int (iI r))] [.int (iI (220 * r + k)), .ref (b + 1 + 1), .int (iI n1)] _
      refine tm_iald (z := 220 * r + k) (v := σ.2.1 3 (220 * r + k)) dX12_acts_25 (show mT[1]? = some (3, 0, 2860) from rfl) (by omega) (by omega) (by decide) (rfl) ?_
      have g7 := RG.a hR 3 (220 * r + k)
      refine tm_callS (M := m_X12_acts) (pc := 26) (ix := 401) (M' := m_X12_isAct) (As := [.int (iI (σ.2.1 3 (220 * r + k)))]) (rest := [.int (iI n1)]) dX12_acts_26 ok_X12_isAct stt_X12_isAct ml12_401 np_X12_isAct rfl (Nat.le_of_ble_eq_true rfl) (Nat.le_of_ble_eq_true rfl) rfl (c_X12_isAct (d + 1) (σ := σ) (x := σ.2.1 3 (220 * r + k)) (by omega)) (fun r8 σ9 hp => ?_)
      obtain ⟨v10, rfl, rfl, f11, f12⟩ := hp
      show Tm _ _ 29 b σ [(3, .int (iI k)), (2, .int (iI n1)), (0, .ref b), (1, .int (iI r))] [.int (iI v10), .int (iI n1)] _
      refine tm_if_eq (tgt := 36) dX12_acts_29 (by decide) ⟨by omega, by omega⟩ (fun h13 => ?_) (fun h13 => ?_)
      · refine tm_iconst dX12_acts_36 ?_
        refine tm_iadd dX12_acts_37 ?_
        refine tm_istore_n (L' := [(2, .int (iI (n1 + 0))), (3, .int (iI k)), (0, .ref b), (1, .int (iI r))]) dX12_acts_38 rfl (by decide) rfl ?_
        refine tm_iinc (q0 := 1) (L' := [(3, .int (iI (k + 1))), (2, .int (iI (n1 + 0))), (0, .ref b), (1, .int (iI r))]) dX12_acts_39 rfl (by decide) rfl ?_
        refine tm_goto (tgt := 4) dX12_acts_42 (by decide) ?_
        exact tm_sub [0, 1, 2, 3] rfl (ih _ (by omega) (n1 + 0) (k + 1) (by omega) rfl)
      · refine tm_iconst dX12_acts_32 ?_
        refine tm_goto (tgt := 37) dX12_acts_33 (by decide) ?_
        refine tm_iadd dX12_acts_37 ?_
        refine tm_istore_n (L' := [(2, .int (iI (n1 + 1))), (3, .int (iI k)), (0, .ref b), (1, .int (iI r))]) dX12_acts_38 rfl (by decide) rfl ?_
        refine tm_iinc (q0 := 1) (L' := [(3, .int (iI (k + 1))), (2, .int (iI (n1 + 1))), (0, .ref b), (1, .int (iI r))]) dX12_acts_39 rfl (by decide) rfl ?_
        refine tm_goto (tgt := 4) dX12_acts_42 (by decide) ?_
        exact tm_sub [0, 1, 2, 3] rfl (ih _ (by omega) (n1 + 1) (k + 1) (by omega) rfl)
theorem dX12_acts_0 : decode cX12_acts 0 = .ok (.iconst 0, 1) := by decide +kernel
theorem dX12_acts_1 : decode cX12_acts 1 = .ok (.istore_n 2, 1) := by decide +kernel
theorem dX12_acts_2 : decode cX12_acts 2 = .ok (.iconst 0, 1) := by decide +kernel
theorem dX12_acts_3 : decode cX12_acts 3 = .ok (.istore_n 3, 1) := by decide +kernel
theorem dX12_acts_45 : decode cX12_acts 45 = .ok (.iload_n 2, 1) := by decide +kernel
theorem dX12_acts_46 : decode cX12_acts 46 = .ok (.ireturn, 1) := by decide +kernel
set_option maxRecDepth 20000 in
theorem c_X12_acts (d : Nat) {b : Nat} {σ : MS} {r : Int} (hr : 0 ≤ r ∧ r < 12) (hR : RG σ) (hit : ITM σ) : Tm (d + 3) m_X12_acts 0 b σ [(0, .ref b), (1, .int (iI r))] [] (fun ro σ2 => ∃ v : Int, ro = some (.int (iI v)) ∧ σ = σ2 ∧ (0 ≤ v ∧ v ≤ 220)) := by
  refine tm_iconst dX12_acts_0 ?_
  refine tm_istore_n (L' := [(2, .int (iI 0)), (0, .ref b), (1, .int (iI r))]) dX12_acts_1 rfl (by decide) rfl ?_
  refine tm_iconst dX12_acts_2 ?_
  refine tm_istore_n (L' := [(3, .int (iI 0)), (2, .int (iI 0)), (0, .ref b), (1, .int (iI r))]) dX12_acts_3 rfl (by decide) rfl ?_
  refine tm_sub [0, 1, 2, 3] rfl (l_acts (d) (σ := σ) (r := r) hr hR hit (fun n16 k7 f5 => ?_) _ (0) (0) (by omega) rfl)
  show Tm _ _ 45 b σ [(3, .int (iI k7)), (2, .int (iI n16)), (0, .ref b), (1, .int (iI r))] [] _
  refine tm_iload_n dX12_acts_45 rfl 1 rfl ?_
  exact tm_iret rfl dX12_acts_46 (⟨_, rfl, rfl, by omega⟩)
theorem dX12_hasCall_2 : decode cX12_hasCall 2 = .ok (.iload_n 2, 1) := by decide +kernel
theorem dX12_hasCall_3 : decode cX12_hasCall 3 = .ok (.aload_n 0, 1) := by decide +kernel
theorem dX12_hasCall_4 : decode cX12_hasCall 4 = .ok (.getfield 32, 3) := by decide +kernel
theorem dX12_hasCall_7 : decode cX12_hasCall 7 = .ok (.iload_n 1, 1) := by decide +kernel
theorem dX12_hasCall_8 : decode cX12_hasCall 8 = .ok (.iaload, 1) := by decide +kernel
theorem dX12_hasCall_9 : decode cX12_hasCall 9 = .ok (.if_icmp .ge 27, 3) := by decide +kernel
theorem dX12_hasCall_12 : decode cX12_hasCall 12 = .ok (.aload_n 0, 1) := by decide +kernel
theorem dX12_hasCall_13 : decode cX12_hasCall 13 = .ok (.getfield 13, 3) := by decide +kernel
theorem dX12_hasCall_16 : decode cX12_hasCall 16 = .ok (.aload_n 0, 1) := by decide +kernel
theorem dX12_hasCall_17 : decode cX12_hasCall 17 = .ok (.iload_n 1, 1) := by decide +kernel
theorem dX12_hasCall_18 : decode cX12_hasCall 18 = .ok (.iload_n 2, 1) := by decide +kernel
theorem dX12_hasCall_19 : decode cX12_hasCall 19 = .ok (.invokevirtual 203, 3) := by decide +kernel
theorem dX12_hasCall_22 : decode cX12_hasCall 22 = .ok (.iaload, 1) := by decide +kernel
theorem dX12_hasCall_23 : decode cX12_hasCall 23 = .ok (.bipush 10, 2) := by decide +kernel
theorem dX12_hasCall_25 : decode cX12_hasCall 25 = .ok (.if_icmp .ne 5, 3) := by decide +kernel
theorem dX12_hasCall_30 : decode cX12_hasCall 30 = .ok (.iinc 2 1, 3) := by decide +kernel
theorem dX12_hasCall_33 : decode cX12_hasCall 33 = .ok (.goto (-31), 3) := by decide +kernel
theorem dX12_hasCall_28 : decode cX12_hasCall 28 = .ok (.iconst 1, 1) := by decide +kernel
theorem dX12_hasCall_29 : decode cX12_hasCall 29 = .ok (.ireturn, 1) := by decide +kernel
set_option maxRecDepth 20000 in
theorem l_hasCall (d : Nat) {b : Nat} {σ : MS} {r : Int} {post : Option Value → MS → Prop} (hr : 0 ≤ r ∧ r < 12) (hR : RG σ) (hit : ITM σ) (hx_36 : ∀ (k : Int) , (∀ j, 0 ≤ j → j < σ.2.1 9 r → ¬ σ.2.1 3 (220 * r + j) = 10) → Tm (d + 3) m_X12_hasCall 36 b σ [(2, .int (iI k)), (0, .ref b), (1, .int (iI r))] [] post) (hr1 : post (some (.int (iI 1))) σ) : ∀ (n : Nat) (k : Int) , (0 ≤ k ∧ k ≤ 220) → (∀ j, 0 ≤ j → j < k → ¬ σ.2.1 3 (220 * r + j) = 10) → (220 - k).toNat = n → Tm (d + 3) m_X12_hasCall 2 b σ [(2, .int (iI k)), (0, .ref b), (1, .int (iI r))] [] post := by
  intro n
  induction n using Nat.strongRecOn with
  | _ n ih =>
    intro k h0 hj hm
    refine tm_iload_n dX12_hasCall_2 rfl 0 rfl ?_
    refine tm_aload_n dX12_hasCall_3 rfl 1 rfl ?_
    refine tm_get (k := 9) (v := .ref (b + 1 + 7)) lay_12 dX12_hasCall_4 (by decide) fl12_32 rfl ?_
    refine tm_iload_n dX12_hasCall_7 rfl 2 rfl ?_
    refine tm_iald (z := r) (v := σ.2.1 9 r) dX12_hasCall_8 (show mT[7]? = some (9, 0, 13) from rfl) (by omega) (by omega) (by decide) (rfl) ?_
    have g1 := RG.a hR 9 (r)
    have := hit (r) (by omega) (by omega)
    refine tm_icmp_ge (tgt := 36) dX12_hasCall_9 (by decide) ⟨by omega, by omega⟩ ⟨by omega, by omega⟩ (fun h2 => ?_) (fun h2 => ?_)
    · exact tm_sub [0, 1, 2] rfl (hx_36 (k) (fun j a b => hj j a (by omega)))
    · refine tm_aload_n dX12_hasCall_12 rfl 1 rfl ?_
      refine tm_get (k := 3) (v := .ref (b + 1 + 1)) lay_12 dX12_hasCall_13 (by decide) fl12_13 rfl ?_
      refine tm_aload_n dX12_hasCall_16 rfl 1 rfl ?_
      refine tm_iload_n dX12_hasCall_17 rfl 2 rfl ?_
      refine tm_iload_n dX12_hasCall_18 rfl 0 rfl ?_
      refine tm_callV (M := m_X12_hasCall) (pc := 19) (ix := 203) (M' := m_X12_at) (As := [.int (iI r), .int (iI k)]) (rest := [.ref (b + 1 + 1)]) dX12_hasCall_19 ok_X12_at im_X12_at se_X12_at ml12_203 np_X12_at rfl rfl (Nat.le_of_ble_eq_true rfl) (Nat.le_of_ble_eq_true rfl) rfl (c_X12_at (d + 1) (σ := σ) (x := r) (k := k) ) (fun r3 σ4 hp => ?_)
      obtain ⟨v5, rfl, rfl, f6⟩ := hp
      subst f6
      show Tm _ _ 22 b σ [(2, .int (iI k)), (0, .ref b), (1, .int (iI r))] [.int (iI (220 * r + k)), .ref (b + 1 + 1)] _
      refine tm_iald (z := 220 * r + k) (v := σ.2.1 3 (220 * r + k)) dX12_hasCall_22 (show mT[1]? = some (3, 0, 2860) from rfl) (by omega) (by omega) (by decide) (rfl) ?_
      have g7 := RG.a hR 3 (220 * r + k)
      refine tm_bipush dX12_hasCall_23 (by decide) ?_
      refine tm_icmp_ne (tgt := 30) dX12_hasCall_25 (by decide) ⟨by omega, by omega⟩ ⟨by decide, by decide⟩ (fun h8 => ?_) (fun h8 => ?_)
      · refine tm_iinc (q0 := 0) (L' := [(2, .int (iI (k + 1))), (0, .ref b), (1, .int (iI r))]) dX12_hasCall_30 rfl (by decide) rfl ?_
        refine tm_goto (tgt := 2) dX12_hasCall_33 (by decide) ?_
        exact tm_sub [0, 1, 2] rfl (ih _ (by omega) (k + 1) (by omega) (fun j a b => by
          by_cases e : j = k
          · subst e; omega
          · exact hj j a (by omega)) rfl)
      · refine tm_iconst dX12_hasCall_28 ?_
        exact tm_zret (v := 1) rfl (by decide) dX12_hasCall_29 (hr1)
theorem dX12_hasCall_0 : decode cX12_hasCall 0 = .ok (.iconst 0, 1) := by decide +kernel
theorem dX12_hasCall_1 : decode cX12_hasCall 1 = .ok (.istore_n 2, 1) := by decide +kernel
theorem dX12_hasCall_36 : decode cX12_hasCall 36 = .ok (.iconst 0, 1) := by decide +kernel
theorem dX12_hasCall_37 : decode cX12_hasCall 37 = .ok (.ireturn, 1) := by decide +kernel
set_option maxRecDepth 20000 in
theorem c_X12_hasCall (d : Nat) {b : Nat} {σ : MS} {r : Int} (hr : 0 ≤ r ∧ r < 12) (hR : RG σ) (hit : ITM σ) : Tm (d + 3) m_X12_hasCall 0 b σ [(0, .ref b), (1, .int (iI r))] [] (fun ro σ2 => ∃ v : Int, ro = some (.int (iI v)) ∧ σ = σ2 ∧ ((v = 0 ∨ v = 1)) ∧ ((v = 0 → ∀ j, 0 ≤ j → j < σ.2.1 9 r → ¬ σ.2.1 3 (220 * r + j) = 10))) := by
  refine tm_iconst dX12_hasCall_0 ?_
  refine tm_istore_n (L' := [(2, .int (iI 0)), (0, .ref b), (1, .int (iI r))]) dX12_hasCall_1 rfl (by decide) rfl ?_
  refine tm_sub [0, 1, 2] rfl (l_hasCall (d) (σ := σ) (r := r) hr hR hit (fun k5 f4 => ?_) ⟨_, rfl, rfl, Or.inr rfl, fun h => absurd h (by decide)⟩ _ (0) (by omega) (fun j a b => by omega) rfl)
  show Tm _ _ 36 b σ [(2, .int (iI k5)), (0, .ref b), (1, .int (iI r))] [] _
  refine tm_iconst dX12_hasCall_36 ?_
  exact tm_zret (v := 0) rfl (by decide) dX12_hasCall_37 (⟨_, rfl, rfl, Or.inl rfl, fun _ => f4⟩)
theorem fl12_223 : Cond.fieldLink RX12 223 (TX12 23).1 (TX12 23).2.1 (TX12 23).2.2.1 ∈ pWW := pw7 (List.mem_of_getElem? (i := 30) rfl) rfl
theorem dX12_isSign_0 : decode cX12_isSign 0 = .ok (.aload_n 0, 1) := by decide +kernel
theorem dX12_isSign_1 : decode cX12_isSign 1 = .ok (.getfield 226, 3) := by decide +kernel
theorem dX12_isSign_4 : decode cX12_isSign 4 = .ok (.iconst 4, 1) := by decide +kernel
theorem dX12_isSign_5 : decode cX12_isSign 5 = .ok (.if_icmp .ne 15, 3) := by decide +kernel
theorem dX12_isSign_20 : decode cX12_isSign 20 = .ok (.iconst 0, 1) := by decide +kernel
theorem dX12_isSign_21 : decode cX12_isSign 21 = .ok (.ireturn, 1) := by decide +kernel
theorem dX12_isSign_8 : decode cX12_isSign 8 = .ok (.aload_n 0, 1) := by decide +kernel
theorem dX12_isSign_9 : decode cX12_isSign 9 = .ok (.getfield 223, 3) := by decide +kernel
theorem dX12_isSign_12 : decode cX12_isSign 12 = .ok (.iload_n 1, 1) := by decide +kernel
theorem dX12_isSign_13 : decode cX12_isSign 13 = .ok (.if_icmp .ne 7, 3) := by decide +kernel
theorem dX12_isSign_16 : decode cX12_isSign 16 = .ok (.iconst 1, 1) := by decide +kernel
theorem dX12_isSign_17 : decode cX12_isSign 17 = .ok (.goto 4, 3) := by decide +kernel
set_option maxRecDepth 20000 in
theorem c_X12_isSign (d : Nat) {b : Nat} {σ : MS} {c : Int} (hR : RG σ) (h_c : -2147483648 ≤ c ∧ c ≤ 2147483647) : Tm (d + 1) m_X12_isSign 0 b σ [(0, .ref b), (1, .int (iI c))] [] (fun ro σ2 => ∃ v : Int, ro = some (.int (iI v)) ∧ σ = σ2 ∧ ((v = 0 ∨ v = 1)) ∧ ((v = 1 ↔ σ.1 22 = 4 ∧ σ.1 23 = c))) := by
  refine tm_aload_n dX12_isSign_0 rfl 0 rfl ?_
  refine tm_getS (k := 22) (t := σ.1 22) dX12_isSign_1 (by decide) fl12_226 rfl (rfl) ?_
  have g1 := RG.s hR 22
  refine tm_iconst dX12_isSign_4 ?_
  refine tm_icmp_ne (tgt := 20) dX12_isSign_5 (by decide) ⟨by omega, by omega⟩ ⟨by decide, by decide⟩ (fun h2 => ?_) (fun h2 => ?_)
  · refine tm_iconst dX12_isSign_20 ?_
    exact tm_zret (v := 0) rfl (by decide) dX12_isSign_21 (⟨_, rfl, rfl, by omega, by omega⟩)
  · refine tm_aload_n dX12_isSign_8 rfl 0 rfl ?_
    refine tm_getS (k := 23) (t := σ.1 23) dX12_isSign_9 (by decide) fl12_223 rfl (rfl) ?_
    have g3 := RG.s hR 23
    refine tm_iload_n dX12_isSign_12 rfl 1 rfl ?_
    refine tm_icmp_ne (tgt := 20) dX12_isSign_13 (by decide) ⟨by omega, by omega⟩ ⟨by omega, by omega⟩ (fun h4 => ?_) (fun h4 => ?_)
    · refine tm_iconst dX12_isSign_20 ?_
      exact tm_zret (v := 0) rfl (by decide) dX12_isSign_21 (⟨_, rfl, rfl, by omega, by omega⟩)
    · refine tm_iconst dX12_isSign_16 ?_
      refine tm_goto (tgt := 21) dX12_isSign_17 (by decide) ?_
      exact tm_zret (v := 1) rfl (by decide) dX12_isSign_21 (⟨_, rfl, rfl, by omega, by omega⟩)
theorem fl12_219 : Cond.fieldLink RX12 219 (TX12 24).1 (TX12 24).2.1 (TX12 24).2.2.1 ∈ pWW := pw7 (List.mem_of_getElem? (i := 31) rfl) rfl
theorem dX12_isWord_0 : decode cX12_isWord 0 = .ok (.aload_n 0, 1) := by decide +kernel
theorem dX12_isWord_1 : decode cX12_isWord 1 = .ok (.getfield 226, 3) := by decide +kernel
theorem dX12_isWord_4 : decode cX12_isWord 4 = .ok (.iconst 2, 1) := by decide +kernel
theorem dX12_isWord_5 : decode cX12_isWord 5 = .ok (.if_icmp .ne 16, 3) := by decide +kernel
theorem dX12_isWord_21 : decode cX12_isWord 21 = .ok (.iconst 0, 1) := by decide +kernel
theorem dX12_isWord_22 : decode cX12_isWord 22 = .ok (.ireturn, 1) := by decide +kernel
theorem dX12_isWord_8 : decode cX12_isWord 8 = .ok (.aload_n 0, 1) := by decide +kernel
theorem dX12_isWord_9 : decode cX12_isWord 9 = .ok (.getfield 219, 3) := by decide +kernel
theorem dX12_isWord_12 : decode cX12_isWord 12 = .ok (.lload_n 1, 1) := by decide +kernel
theorem dX12_isWord_13 : decode cX12_isWord 13 = .ok (.lcmp, 1) := by decide +kernel
theorem dX12_isWord_14 : decode cX12_isWord 14 = .ok (.ifCond .ne 7, 3) := by decide +kernel
theorem dX12_isWord_17 : decode cX12_isWord 17 = .ok (.iconst 1, 1) := by decide +kernel
theorem dX12_isWord_18 : decode cX12_isWord 18 = .ok (.goto 4, 3) := by decide +kernel
set_option maxRecDepth 20000 in
theorem c_X12_isWord (d : Nat) {b : Nat} {σ : MS} {w : Int64} (hR : RG σ) : Tm (d + 1) m_X12_isWord 0 b σ [(0, .ref b), (1, .long (w))] [] (fun ro σ2 => ∃ v : Int, ro = some (.int (iI v)) ∧ σ = σ2 ∧ ((v = 0 ∨ v = 1)) ∧ ((v = 1 ↔ σ.1 22 = 2 ∧ σ.2.2 24 0 = w))) := by
  refine tm_aload_n dX12_isWord_0 rfl 0 rfl ?_
  refine tm_getS (k := 22) (t := σ.1 22) dX12_isWord_1 (by decide) fl12_226 rfl (rfl) ?_
  have g1 := RG.s hR 22
  refine tm_iconst dX12_isWord_4 ?_
  refine tm_icmp_ne (tgt := 21) dX12_isWord_5 (by decide) ⟨by omega, by omega⟩ ⟨by decide, by decide⟩ (fun h2 => ?_) (fun h2 => ?_)
  · refine tm_iconst dX12_isWord_21 ?_
    exact tm_zret (v := 0) rfl (by decide) dX12_isWord_22 (⟨_, rfl, rfl, by omega, by simp [*]⟩)
  · refine tm_aload_n dX12_isWord_8 rfl 0 rfl ?_
    refine tm_getW (t := σ.2.2 24 0) dX12_isWord_9 fl12_219 (rfl) ?_
    refine tm_lload_n dX12_isWord_12 rfl 1 rfl ?_
    refine tm_lcmp dX12_isWord_13 ?_
    have g3 := lcI_b (σ.2.2 24 0) (w)
    refine tm_if_ne (tgt := 21) dX12_isWord_14 (by decide) ⟨by omega, by omega⟩ (fun h4 => ?_) (fun h4 => ?_)
    · have h4e : ¬ (σ.2.2 24 0) = (w) := fun q => h4 (lcI_0.mpr q)
      refine tm_iconst dX12_isWord_21 ?_
      exact tm_zret (v := 0) rfl (by decide) dX12_isWord_22 (⟨_, rfl, rfl, by omega, by simp [*]⟩)
    · have h4e := lcI_0.mp h4
      refine tm_iconst dX12_isWord_17 ?_
      refine tm_goto (tgt := 22) dX12_isWord_18 (by decide) ?_
      exact tm_zret (v := 1) rfl (by decide) dX12_isWord_22 (⟨_, rfl, rfl, by omega, by simp [*]⟩)
theorem cst12_242 : Cond.constantLong RX12 242 (7304564) ∈ pWW := pw8 (List.mem_of_getElem? (i := 156) rfl) rfl
theorem cst12_244 : Cond.constantLong RX12 244 (125780071117422) ∈ pWW := pw8 (List.mem_of_getElem? (i := 157) rfl) rfl
theorem cst12_246 : Cond.constantLong RX12 246 (26982) ∈ pWW := pw8 (List.mem_of_getElem? (i := 158) rfl) rfl
theorem cst12_248 : Cond.constantLong RX12 248 (1701606245) ∈ pWW := pw8 (List.mem_of_getElem? (i := 159) rfl) rfl
theorem cst12_250 : Cond.constantLong RX12 250 (512852847717) ∈ pWW := pw8 (List.mem_of_getElem? (i := 160) rfl) rfl
theorem dX12_isName_0 : decode cX12_isName 0 = .ok (.aload_n 0, 1) := by decide +kernel
theorem dX12_isName_1 : decode cX12_isName 1 = .ok (.getfield 226, 3) := by decide +kernel
theorem dX12_isName_4 : decode cX12_isName 4 = .ok (.iconst 2, 1) := by decide +kernel
theorem dX12_isName_5 : decode cX12_isName 5 = .ok (.if_icmp .ne 62, 3) := by decide +kernel
theorem dX12_isName_67 : decode cX12_isName 67 = .ok (.iconst 0, 1) := by decide +kernel
theorem dX12_isName_68 : decode cX12_isName 68 = .ok (.ireturn, 1) := by decide +kernel
theorem dX12_isName_8 : decode cX12_isName 8 = .ok (.aload_n 0, 1) := by decide +kernel
theorem dX12_isName_9 : decode cX12_isName 9 = .ok (.getfield 219, 3) := by decide +kernel
theorem dX12_isName_12 : decode cX12_isName 12 = .ok (.ldc2_w 242, 3) := by decide +kernel
theorem dX12_isName_15 : decode cX12_isName 15 = .ok (.lcmp, 1) := by decide +kernel
theorem dX12_isName_16 : decode cX12_isName 16 = .ok (.ifCond .eq 51, 3) := by decide +kernel
theorem dX12_isName_19 : decode cX12_isName 19 = .ok (.aload_n 0, 1) := by decide +kernel
theorem dX12_isName_20 : decode cX12_isName 20 = .ok (.getfield 219, 3) := by decide +kernel
theorem dX12_isName_23 : decode cX12_isName 23 = .ok (.ldc2_w 244, 3) := by decide +kernel
theorem dX12_isName_26 : decode cX12_isName 26 = .ok (.lcmp, 1) := by decide +kernel
theorem dX12_isName_27 : decode cX12_isName 27 = .ok (.ifCond .eq 40, 3) := by decide +kernel
theorem dX12_isName_30 : decode cX12_isName 30 = .ok (.aload_n 0, 1) := by decide +kernel
theorem dX12_isName_31 : decode cX12_isName 31 = .ok (.getfield 219, 3) := by decide +kernel
theorem dX12_isName_34 : decode cX12_isName 34 = .ok (.ldc2_w 246, 3) := by decide +kernel
theorem dX12_isName_37 : decode cX12_isName 37 = .ok (.lcmp, 1) := by decide +kernel
theorem dX12_isName_38 : decode cX12_isName 38 = .ok (.ifCond .eq 29, 3) := by decide +kernel
theorem dX12_isName_41 : decode cX12_isName 41 = .ok (.aload_n 0, 1) := by decide +kernel
theorem dX12_isName_42 : decode cX12_isName 42 = .ok (.getfield 219, 3) := by decide +kernel
theorem dX12_isName_45 : decode cX12_isName 45 = .ok (.ldc2_w 248, 3) := by decide +kernel
theorem dX12_isName_48 : decode cX12_isName 48 = .ok (.lcmp, 1) := by decide +kernel
theorem dX12_isName_49 : decode cX12_isName 49 = .ok (.ifCond .eq 18, 3) := by decide +kernel
theorem dX12_isName_52 : decode cX12_isName 52 = .ok (.aload_n 0, 1) := by decide +kernel
theorem dX12_isName_53 : decode cX12_isName 53 = .ok (.getfield 219, 3) := by decide +kernel
theorem dX12_isName_56 : decode cX12_isName 56 = .ok (.ldc2_w 250, 3) := by decide +kernel
theorem dX12_isName_59 : decode cX12_isName 59 = .ok (.lcmp, 1) := by decide +kernel
theorem dX12_isName_60 : decode cX12_isName 60 = .ok (.ifCond .eq 7, 3) := by decide +kernel
theorem dX12_isName_63 : decode cX12_isName 63 = .ok (.iconst 1, 1) := by decide +kernel
theorem dX12_isName_64 : decode cX12_isName 64 = .ok (.goto 4, 3) := by decide +kernel
set_option maxRecDepth 20000 in
theorem c_X12_isName (d : Nat) {b : Nat} {σ : MS} (hR : RG σ) : Tm (d + 1) m_X12_isName 0 b σ [(0, .ref b)] [] (fun ro σ2 => ∃ v : Int, ro = some (.int (iI v)) ∧ σ = σ2 ∧ ((v = 0 ∨ v = 1)) ∧ ((v = 1 ↔ NMW σ))) := by
  refine tm_aload_n dX12_isName_0 rfl 0 rfl ?_
  refine tm_getS (k := 22) (t := σ.1 22) dX12_isName_1 (by decide) fl12_226 rfl (rfl) ?_
  have g1 := RG.s hR 22
  refine tm_iconst dX12_isName_4 ?_
  refine tm_icmp_ne (tgt := 67) dX12_isName_5 (by decide) ⟨by omega, by omega⟩ ⟨by decide, by decide⟩ (fun h2 => ?_) (fun h2 => ?_)
  · refine tm_iconst dX12_isName_67 ?_
    exact tm_zret (v := 0) rfl (by decide) dX12_isName_68 (⟨_, rfl, rfl, by omega, by simp [NMW, *]⟩)
  · refine tm_aload_n dX12_isName_8 rfl 0 rfl ?_
    refine tm_getW (t := σ.2.2 24 0) dX12_isName_9 fl12_219 (rfl) ?_
    refine tm_ldc2 dX12_isName_12 cst12_242 ?_
    refine tm_lcmp dX12_isName_15 ?_
    have g3 := lcI_b (σ.2.2 24 0) (7304564)
    refine tm_if_eq (tgt := 67) dX12_isName_16 (by decide) ⟨by omega, by omega⟩ (fun h4 => ?_) (fun h4 => ?_)
    · have h4e := lcI_0.mp h4
      refine tm_iconst dX12_isName_67 ?_
      exact tm_zret (v := 0) rfl (by decide) dX12_isName_68 (⟨_, rfl, rfl, by omega, by simp [NMW, *]⟩)
    · have h4e : ¬ (σ.2.2 24 0) = (7304564) := fun q => h4 (lcI_0.mpr q)
      refine tm_aload_n dX12_isName_19 rfl 0 rfl ?_
      refine tm_getW (t := σ.2.2 24 0) dX12_isName_20 fl12_219 (rfl) ?_
      refine tm_ldc2 dX12_isName_23 cst12_244 ?_
      refine tm_lcmp dX12_isName_26 ?_
      have g5 := lcI_b (σ.2.2 24 0) (125780071117422)
      refine tm_if_eq (tgt := 67) dX12_isName_27 (by decide) ⟨by omega, by omega⟩ (fun h6 => ?_) (fun h6 => ?_)
      · have h6e := lcI_0.mp h6
        refine tm_iconst dX12_isName_67 ?_
        exact tm_zret (v := 0) rfl (by decide) dX12_isName_68 (⟨_, rfl, rfl, by omega, by simp [NMW, *]⟩)
      · have h6e : ¬ (σ.2.2 24 0) = (125780071117422) := fun q => h6 (lcI_0.mpr q)
        refine tm_aload_n dX12_isName_30 rfl 0 rfl ?_
        refine tm_getW (t := σ.2.2 24 0) dX12_isName_31 fl12_219 (rfl) ?_
        refine tm_ldc2 dX12_isName_34 cst12_246 ?_
        refine tm_lcmp dX12_isName_37 ?_
        have g7 := lcI_b (σ.2.2 24 0) (26982)
        refine tm_if_eq (tgt := 67) dX12_isName_38 (by decide) ⟨by omega, by omega⟩ (fun h8 => ?_) (fun h8 => ?_)
        · have h8e := lcI_0.mp h8
          refine tm_iconst dX12_isName_67 ?_
          exact tm_zret (v := 0) rfl (by decide) dX12_isName_68 (⟨_, rfl, rfl, by omega, by simp [NMW, *]⟩)
        · have h8e : ¬ (σ.2.2 24 0) = (26982) := fun q => h8 (lcI_0.mpr q)
          refine tm_aload_n dX12_isName_41 rfl 0 rfl ?_
          refine tm_getW (t := σ.2.2 24 0) dX12_isName_42 fl12_219 (rfl) ?_
          refine tm_ldc2 dX12_isName_45 cst12_248 ?_
          refine tm_lcmp dX12_isName_48 ?_
          have g9 := lcI_b (σ.2.2 24 0) (1701606245)
          refine tm_if_eq (tgt := 67) dX12_isName_49 (by decide) ⟨by omega, by omega⟩ (fun h10 => ?_) (fun h10 => ?_)
          · have h10e := lcI_0.mp h10
            refine tm_iconst dX12_isName_67 ?_
            exact tm_zret (v := 0) rfl (by decide) dX12_isName_68 (⟨_, rfl, rfl, by omega, by simp [NMW, *]⟩)
          · have h10e : ¬ (σ.2.2 24 0) = (1701606245) := fun q => h10 (lcI_0.mpr q)
            refine tm_aload_n dX12_isName_52 rfl 0 rfl ?_
            refine tm_getW (t := σ.2.2 24 0) dX12_isName_53 fl12_219 (rfl) ?_
            refine tm_ldc2 dX12_isName_56 cst12_250 ?_
            refine tm_lcmp dX12_isName_59 ?_
            have g11 := lcI_b (σ.2.2 24 0) (512852847717)
            refine tm_if_eq (tgt := 67) dX12_isName_60 (by decide) ⟨by omega, by omega⟩ (fun h12 => ?_) (fun h12 => ?_)
            · have h12e := lcI_0.mp h12
              refine tm_iconst dX12_isName_67 ?_
              exact tm_zret (v := 0) rfl (by decide) dX12_isName_68 (⟨_, rfl, rfl, by omega, by simp [NMW, *]⟩)
            · have h12e : ¬ (σ.2.2 24 0) = (512852847717) := fun q => h12 (lcI_0.mpr q)
              refine tm_iconst dX12_isName_63 ?_
              refine tm_goto (tgt := 68) dX12_isName_64 (by decide) ?_
              exact tm_zret (v := 1) rfl (by decide) dX12_isName_68 (⟨_, rfl, rfl, by omega, by simp [NMW, *]⟩)
theorem fl12_268 : Cond.fieldLink RX12 268 (TX12 30).1 (TX12 30).2.1 (TX12 30).2.2.1 ∈ pWW := pw7 (List.mem_of_getElem? (i := 37) rfl) rfl
theorem dX12_isKept_0 : decode cX12_isKept 0 = .ok (.aload_n 0, 1) := by decide +kernel
theorem dX12_isKept_1 : decode cX12_isKept 1 = .ok (.getfield 268, 3) := by decide +kernel
theorem dX12_isKept_4 : decode cX12_isKept 4 = .ok (.bipush 6, 2) := by decide +kernel
theorem dX12_isKept_6 : decode cX12_isKept 6 = .ok (.if_icmp .ge 7, 3) := by decide +kernel
theorem dX12_isKept_13 : decode cX12_isKept 13 = .ok (.iconst 0, 1) := by decide +kernel
theorem dX12_isKept_14 : decode cX12_isKept 14 = .ok (.ireturn, 1) := by decide +kernel
theorem dX12_isKept_9 : decode cX12_isKept 9 = .ok (.iconst 1, 1) := by decide +kernel
theorem dX12_isKept_10 : decode cX12_isKept 10 = .ok (.goto 4, 3) := by decide +kernel
set_option maxRecDepth 20000 in
theorem c_X12_isKept (d : Nat) {b : Nat} {σ : MS} (hR : RG σ) : Tm (d + 1) m_X12_isKept 0 b σ [(0, .ref b)] [] (fun ro σ2 => ∃ v : Int, ro = some (.int (iI v)) ∧ σ = σ2 ∧ ((v = 0 ∨ v = 1)) ∧ ((v = 1 ↔ σ.1 30 < 6))) := by
  refine tm_aload_n dX12_isKept_0 rfl 0 rfl ?_
  refine tm_getS (k := 30) (t := σ.1 30) dX12_isKept_1 (by decide) fl12_268 rfl (rfl) ?_
  have g1 := RG.s hR 30
  refine tm_bipush dX12_isKept_4 (by decide) ?_
  refine tm_icmp_ge (tgt := 13) dX12_isKept_6 (by decide) ⟨by omega, by omega⟩ ⟨by decide, by decide⟩ (fun h2 => ?_) (fun h2 => ?_)
  · refine tm_iconst dX12_isKept_13 ?_
    exact tm_zret (v := 0) rfl (by decide) dX12_isKept_14 (⟨_, rfl, rfl, by omega, by omega⟩)
  · refine tm_iconst dX12_isKept_9 ?_
    refine tm_goto (tgt := 14) dX12_isKept_10 (by decide) ?_
    exact tm_zret (v := 1) rfl (by decide) dX12_isKept_14 (⟨_, rfl, rfl, by omega, by omega⟩)
theorem fl12_285 : Cond.fieldLink RX12 285 (TX12 39).1 (TX12 39).2.1 (TX12 39).2.2.1 ∈ pWW := pw7 (List.mem_of_getElem? (i := 46) rfl) rfl
theorem fl12_288 : Cond.fieldLink RX12 288 (TX12 40).1 (TX12 40).2.1 (TX12 40).2.2.1 ∈ pWW := pw7 (List.mem_of_getElem? (i := 47) rfl) rfl
theorem dX12_give_0 : decode cX12_give 0 = .ok (.aload_n 0, 1) := by decide +kernel
theorem dX12_give_1 : decode cX12_give 1 = .ok (.iload_n 1, 1) := by decide +kernel
theorem dX12_give_2 : decode cX12_give 2 = .ok (.putfield 285, 3) := by decide +kernel
theorem dX12_give_5 : decode cX12_give 5 = .ok (.aload_n 0, 1) := by decide +kernel
theorem dX12_give_6 : decode cX12_give 6 = .ok (.iload_n 2, 1) := by decide +kernel
theorem dX12_give_7 : decode cX12_give 7 = .ok (.putfield 288, 3) := by decide +kernel
theorem dX12_give_10 : decode cX12_give 10 = .ok (.return_, 1) := by decide +kernel
set_option maxRecDepth 20000 in
theorem c_X12_give (d : Nat) {b : Nat} {σ : MS} {k : Int} {w : Int} : Tm (d + 1) m_X12_give 0 b σ [(0, .ref b), (1, .int (iI k)), (2, .int (iI w))] [] (fun ro σ2 => ro = none ∧ (σ2 = sS 40 w (sS 39 k σ))) := by
  refine tm_aload_n dX12_give_0 rfl 0 rfl ?_
  refine tm_iload_n dX12_give_1 rfl 1 rfl ?_
  refine tm_putS (k := 39) (v := k) lay_12 dX12_give_2 (by decide) fl12_285 rfl (tyX12_ok 39 (by decide)) rfl rfl rfl ?_
  refine tm_aload_n dX12_give_5 rfl 0 rfl ?_
  refine tm_iload_n dX12_give_6 rfl 2 rfl ?_
  refine tm_putS (k := 40) (v := w) lay_12 dX12_give_7 (by decide) fl12_288 rfl (tyX12_ok 40 (by decide)) rfl rfl rfl ?_
  exact tm_vret rfl dX12_give_10 (⟨rfl, rfl⟩)
theorem fl12_376 : Cond.fieldLink RX12 376 (TX12 43).1 (TX12 43).2.1 (TX12 43).2.2.1 ∈ pWW := pw7 (List.mem_of_getElem? (i := 50) rfl) rfl
theorem fl12_82 : Cond.fieldLink RX12 82 (TX12 44).1 (TX12 44).2.1 (TX12 44).2.2.1 ∈ pWW := pw7 (List.mem_of_getElem? (i := 51) rfl) rfl
theorem dX12_routineBy_2 : decode cX12_routineBy 2 = .ok (.iload_n 3, 1) := by decide +kernel
theorem dX12_routineBy_3 : decode cX12_routineBy 3 = .ok (.aload_n 0, 1) := by decide +kernel
theorem dX12_routineBy_4 : decode cX12_routineBy 4 = .ok (.getfield 376, 3) := by decide +kernel
theorem dX12_routineBy_7 : decode cX12_routineBy 7 = .ok (.if_icmp .ge 22, 3) := by decide +kernel
theorem dX12_routineBy_10 : decode cX12_routineBy 10 = .ok (.aload_n 0, 1) := by decide +kernel
theorem dX12_routineBy_11 : decode cX12_routineBy 11 = .ok (.getfield 82, 3) := by decide +kernel
theorem dX12_routineBy_14 : decode cX12_routineBy 14 = .ok (.iload_n 3, 1) := by decide +kernel
theorem dX12_routineBy_15 : decode cX12_routineBy 15 = .ok (.laload, 1) := by decide +kernel
theorem dX12_routineBy_16 : decode cX12_routineBy 16 = .ok (.lload_n 1, 1) := by decide +kernel
theorem dX12_routineBy_17 : decode cX12_routineBy 17 = .ok (.lcmp, 1) := by decide +kernel
theorem dX12_routineBy_18 : decode cX12_routineBy 18 = .ok (.ifCond .ne 5, 3) := by decide +kernel
theorem dX12_routineBy_23 : decode cX12_routineBy 23 = .ok (.iinc 3 1, 3) := by decide +kernel
theorem dX12_routineBy_26 : decode cX12_routineBy 26 = .ok (.goto (-24), 3) := by decide +kernel
theorem dX12_routineBy_21 : decode cX12_routineBy 21 = .ok (.iload_n 3, 1) := by decide +kernel
theorem dX12_routineBy_22 : decode cX12_routineBy 22 = .ok (.ireturn, 1) := by decide +kernel
set_option maxRecDepth 20000 in
theorem l_routineBy (d : Nat) {b : Nat} {σ : MS} {w : Int64} {post : Option Value → MS → Prop} (hR : RG σ) (ht : 0 ≤ σ.1 43 ∧ σ.1 43 ≤ 260) (hx_29 : ∀ (q : Int) , Tm (d + 1) m_X12_routineBy 29 b σ [(3, .int (iI q)), (0, .ref b), (1, .long (w))] [] post) (hr1 : ∀ q, 0 ≤ q → q < σ.1 43 → σ.2.2 44 q = w → post (some (.int (iI q))) σ) : ∀ (n : Nat) (q : Int) , (0 ≤ q ∧ q ≤ 260) → (260 - q).toNat = n → Tm (d + 1) m_X12_routineBy 2 b σ [(3, .int (iI q)), (0, .ref b), (1, .long (w))] [] post := by
  intro n
  induction n using Nat.strongRecOn with
  | _ n ih =>
    intro q h0 hm
    refine tm_iload_n dX12_routineBy_2 rfl 0 rfl ?_
    refine tm_aload_n dX12_routineBy_3 rfl 1 rfl ?_
    refine tm_getS (k := 43) (t := σ.1 43) dX12_routineBy_4 (by decide) fl12_376 rfl (rfl) ?_
    have g1 := RG.s hR 43
    refine tm_icmp_ge (tgt := 29) dX12_routineBy_7 (by decide) ⟨by omega, by omega⟩ ⟨by omega, by omega⟩ (fun h2 => ?_) (fun h2 => ?_)
    · exact tm_sub [0, 1, 2] rfl (hx_29 (q) )
    · refine tm_aload_n dX12_routineBy_10 rfl 1 rfl ?_
      refine tm_get (k := 44) (v := .ref (b + 1 + 22)) lay_12 dX12_routineBy_11 (by decide) fl12_82 rfl ?_
      refine tm_iload_n dX12_routineBy_14 rfl 0 rfl ?_
      refine tm_lald (z := q) (v := σ.2.2 44 q) dX12_routineBy_15 (show mT[22]? = some (44, 3, 260) from rfl) (by omega) (by omega) (by decide) (rfl) ?_
      refine tm_lload_n dX12_routineBy_16 rfl 2 rfl ?_
      refine tm_lcmp dX12_routineBy_17 ?_
      have g3 := lcI_b (σ.2.2 44 q) (w)
      refine tm_if_ne (tgt := 23) dX12_routineBy_18 (by decide) ⟨by omega, by omega⟩ (fun h4 => ?_) (fun h4 => ?_)
      · have h4e : ¬ (σ.2.2 44 q) = (w) := fun q => h4 (lcI_0.mpr q)
        refine tm_iinc (q0 := 0) (L' := [(3, .int (iI (q + 1))), (0, .ref b), (1, .long (w))]) dX12_routineBy_23 rfl (by decide) rfl ?_
        refine tm_goto (tgt := 2) dX12_routineBy_26 (by decide) ?_
        exact tm_sub [0, 1, 2] rfl (ih _ (by omega) (q + 1) (by omega) rfl)
      · have h4e := lcI_0.mp h4
        refine tm_iload_n dX12_routineBy_21 rfl 0 rfl ?_
        exact tm_iret rfl dX12_routineBy_22 (hr1 q (by omega) (by omega) (by assumption))
theorem dX12_routineBy_0 : decode cX12_routineBy 0 = .ok (.iconst 0, 1) := by decide +kernel
theorem dX12_routineBy_1 : decode cX12_routineBy 1 = .ok (.istore_n 3, 1) := by decide +kernel
theorem dX12_routineBy_29 : decode cX12_routineBy 29 = .ok (.iconst (-1), 1) := by decide +kernel
theorem dX12_routineBy_30 : decode cX12_routineBy 30 = .ok (.ireturn, 1) := by decide +kernel
set_option maxRecDepth 20000 in
theorem c_X12_routineBy (d : Nat) {b : Nat} {σ : MS} {w : Int64} (hR : RG σ) (ht : 0 ≤ σ.1 43 ∧ σ.1 43 ≤ 260) : Tm (d + 1) m_X12_routineBy 0 b σ [(0, .ref b), (1, .long (w))] [] (fun ro σ2 => ∃ v : Int, ro = some (.int (iI v)) ∧ σ = σ2 ∧ (-1 ≤ v ∧ v < σ.1 43)) := by
  refine tm_iconst dX12_routineBy_0 ?_
  refine tm_istore_n (L' := [(3, .int (iI 0)), (0, .ref b), (1, .long (w))]) dX12_routineBy_1 rfl (by decide) rfl ?_
  refine tm_sub [0, 1, 2] rfl (l_routineBy (d) (σ := σ) (w := w) hR ht (fun q4 => ?_) (fun q a c e => ⟨_, rfl, rfl, by omega⟩) _ (0) (by omega) rfl)
  show Tm _ _ 29 b σ [(3, .int (iI q4)), (0, .ref b), (1, .long (w))] [] _
  refine tm_iconst dX12_routineBy_29 ?_
  exact tm_iret rfl dX12_routineBy_30 (⟨_, rfl, rfl, by omega⟩)
theorem fl12_85 : Cond.fieldLink RX12 85 (TX12 45).1 (TX12 45).2.1 (TX12 45).2.2.1 ∈ pWW := pw7 (List.mem_of_getElem? (i := 52) rfl) rfl
theorem dX12_calledMany_0 : decode cX12_calledMany 0 = .ok (.aload_n 0, 1) := by decide +kernel
theorem dX12_calledMany_1 : decode cX12_calledMany 1 = .ok (.getfield 85, 3) := by decide +kernel
theorem dX12_calledMany_4 : decode cX12_calledMany 4 = .ok (.iload_n 1, 1) := by decide +kernel
theorem dX12_calledMany_5 : decode cX12_calledMany 5 = .ok (.iaload, 1) := by decide +kernel
theorem dX12_calledMany_6 : decode cX12_calledMany 6 = .ok (.ireturn, 1) := by decide +kernel
set_option maxRecDepth 20000 in
theorem c_X12_calledMany (d : Nat) {b : Nat} {σ : MS} {q : Int} (hq : 0 ≤ q ∧ q < 260) : Tm (d + 1) m_X12_calledMany 0 b σ [(0, .ref b), (1, .int (iI q))] [] (fun ro σ2 => ∃ v : Int, ro = some (.int (iI v)) ∧ σ = σ2 ∧ (v = σ.2.1 45 q)) := by
  refine tm_aload_n dX12_calledMany_0 rfl 0 rfl ?_
  refine tm_get (k := 45) (v := .ref (b + 1 + 23)) lay_12 dX12_calledMany_1 (by decide) fl12_85 rfl ?_
  refine tm_iload_n dX12_calledMany_4 rfl 1 rfl ?_
  refine tm_iald (z := q) (v := σ.2.1 45 q) dX12_calledMany_5 (show mT[23]? = some (45, 0, 260) from rfl) (by omega) (by omega) (by decide) (rfl) ?_
  exact tm_iret rfl dX12_calledMany_6 (⟨_, rfl, rfl, by omega⟩)
theorem fl12_391 : Cond.fieldLink RX12 391 (TX12 10).1 (TX12 10).2.1 (TX12 10).2.2.1 ∈ pWW := pw7 (List.mem_of_getElem? (i := 17) rfl) rfl
theorem dX12_isRoutine_0 : decode cX12_isRoutine 0 = .ok (.iload_n 1, 1) := by decide +kernel
theorem dX12_isRoutine_1 : decode cX12_isRoutine 1 = .ok (.iconst 0, 1) := by decide +kernel
theorem dX12_isRoutine_2 : decode cX12_isRoutine 2 = .ok (.aload_n 0, 1) := by decide +kernel
theorem dX12_isRoutine_3 : decode cX12_isRoutine 3 = .ok (.getfield 391, 3) := by decide +kernel
theorem dX12_isRoutine_6 : decode cX12_isRoutine 6 = .ok (.iconst 1, 1) := by decide +kernel
theorem dX12_isRoutine_7 : decode cX12_isRoutine 7 = .ok (.isub, 1) := by decide +kernel
theorem dX12_isRoutine_8 : decode cX12_isRoutine 8 = .ok (.invokestatic 188, 3) := by decide +kernel
theorem dX12_isRoutine_11 : decode cX12_isRoutine 11 = .ok (.ireturn, 1) := by decide +kernel
set_option maxRecDepth 20000 in
theorem c_X12_isRoutine (d : Nat) {b : Nat} {σ : MS} {x : Int} (hR : RG σ) (ht : 0 ≤ σ.1 10 ∧ σ.1 10 ≤ 6) (h_x : -2147483648 ≤ x ∧ x ≤ 2147483647) : Tm (d + 2) m_X12_isRoutine 0 b σ [(0, .ref b), (1, .int (iI x))] [] (fun ro σ2 => ∃ v : Int, ro = some (.int (iI v)) ∧ σ = σ2 ∧ ((v = 0 ∨ v = 1)) ∧ ((v = 1 ↔ 0 ≤ x ∧ x < σ.1 10))) := by
  refine tm_iload_n dX12_isRoutine_0 rfl 1 rfl ?_
  refine tm_iconst dX12_isRoutine_1 ?_
  refine tm_aload_n dX12_isRoutine_2 rfl 0 rfl ?_
  refine tm_getS (k := 10) (t := σ.1 10) dX12_isRoutine_3 (by decide) fl12_391 rfl (rfl) ?_
  have g1 := RG.s hR 10
  refine tm_iconst dX12_isRoutine_6 ?_
  refine tm_isub dX12_isRoutine_7 ?_
  refine tm_callS (M := m_X12_isRoutine) (pc := 8) (ix := 188) (M' := m_X12_in) (As := [.int (iI x), .int (iI 0), .int (iI ((σ.1 10) - 1))]) (rest := []) dX12_isRoutine_8 ok_X12_in stt_X12_in ml12_188 np_X12_in rfl (Nat.le_of_ble_eq_true rfl) (Nat.le_of_ble_eq_true rfl) rfl (c_X12_in (d) (σ := σ) (x := x) (lo := 0) (hi := (σ.1 10) - 1) (by omega) (by omega) (by omega)) (fun r2 σ3 hp => ?_)
  obtain ⟨v4, rfl, rfl, f5, f6⟩ := hp
  show Tm _ _ 11 b σ [(0, .ref b), (1, .int (iI x))] [.int (iI v4)] _
  exact tm_zret (v := v4) rfl (by omega) dX12_isRoutine_11 (⟨_, rfl, rfl, by omega, by omega⟩)
theorem fl12_56 : Cond.fieldLink RX12 56 (TX12 18).1 (TX12 18).2.1 (TX12 18).2.2.1 ∈ pWW := pw7 (List.mem_of_getElem? (i := 25) rfl) rfl
theorem dX12_paramAt_0 : decode cX12_paramAt 0 = .ok (.iload_n 1, 1) := by decide +kernel
theorem dX12_paramAt_1 : decode cX12_paramAt 1 = .ok (.iconst 2, 1) := by decide +kernel
theorem dX12_paramAt_2 : decode cX12_paramAt 2 = .ok (.if_icmp .ne 7, 3) := by decide +kernel
theorem dX12_paramAt_9 : decode cX12_paramAt 9 = .ok (.aload_n 0, 1) := by decide +kernel
theorem dX12_paramAt_10 : decode cX12_paramAt 10 = .ok (.getfield 56, 3) := by decide +kernel
theorem dX12_paramAt_13 : decode cX12_paramAt 13 = .ok (.sipush 144, 3) := by decide +kernel
theorem dX12_paramAt_16 : decode cX12_paramAt 16 = .ok (.iload_n 2, 1) := by decide +kernel
theorem dX12_paramAt_17 : decode cX12_paramAt 17 = .ok (.imul, 1) := by decide +kernel
theorem dX12_paramAt_18 : decode cX12_paramAt 18 = .ok (.iload_n 3, 1) := by decide +kernel
theorem dX12_paramAt_19 : decode cX12_paramAt 19 = .ok (.iadd, 1) := by decide +kernel
theorem dX12_paramAt_20 : decode cX12_paramAt 20 = .ok (.iaload, 1) := by decide +kernel
theorem dX12_paramAt_21 : decode cX12_paramAt 21 = .ok (.ireturn, 1) := by decide +kernel
theorem dX12_paramAt_5 : decode cX12_paramAt 5 = .ok (.iload_n 3, 1) := by decide +kernel
theorem dX12_paramAt_6 : decode cX12_paramAt 6 = .ok (.goto 15, 3) := by decide +kernel
set_option maxRecDepth 20000 in
theorem c_X12_paramAt (d : Nat) {b : Nat} {σ : MS} {m : Int} {x : Int} {n : Int} (hx : 0 ≤ 144 * x + n ∧ 144 * x + n < 864) (h_m : -2147483648 ≤ m ∧ m ≤ 2147483647) : Tm (d + 1) m_X12_paramAt 0 b σ [(0, .ref b), (1, .int (iI m)), (2, .int (iI x)), (3, .int (iI n))] [] (fun ro σ2 => ∃ v : Int, ro = some (.int (iI v)) ∧ σ = σ2 ∧ ((m = 2 → v = n)) ∧ ((m ≠ 2 → v = σ.2.1 18 (144 * x + n)))) := by
  refine tm_iload_n dX12_paramAt_0 rfl 1 rfl ?_
  refine tm_iconst dX12_paramAt_1 ?_
  refine tm_icmp_ne (tgt := 9) dX12_paramAt_2 (by decide) ⟨by omega, by omega⟩ ⟨by decide, by decide⟩ (fun h1 => ?_) (fun h1 => ?_)
  · refine tm_aload_n dX12_paramAt_9 rfl 0 rfl ?_
    refine tm_get (k := 18) (v := .ref (b + 1 + 15)) lay_12 dX12_paramAt_10 (by decide) fl12_56 rfl ?_
    refine tm_sipush dX12_paramAt_13 (by decide) ?_
    refine tm_iload_n dX12_paramAt_16 rfl 2 rfl ?_
    refine tm_imul dX12_paramAt_17 ?_
    refine tm_iload_n dX12_paramAt_18 rfl 3 rfl ?_
    refine tm_iadd dX12_paramAt_19 ?_
    refine tm_iald (z := (144 * x) + n) (v := σ.2.1 18 ((144 * x) + n)) dX12_paramAt_20 (show mT[15]? = some (18, 0, 864) from rfl) (by omega) (by omega) (by decide) (rfl) ?_
    exact tm_iret rfl dX12_paramAt_21 (⟨_, rfl, rfl, by omega, by omega⟩)
  · refine tm_iload_n dX12_paramAt_5 rfl 3 rfl ?_
    refine tm_goto (tgt := 21) dX12_paramAt_6 (by decide) ?_
    exact tm_iret rfl dX12_paramAt_21 (⟨_, rfl, rfl, by omega, by omega⟩)
theorem fl12_179 : Cond.fieldLink RX12 179 (TX12 82).1 (TX12 82).2.1 (TX12 82).2.2.1 ∈ pWW := pw7 (List.mem_of_getElem? (i := 87) rfl) rfl
theorem dX12_worth_0 : decode cX12_worth 0 = .ok (.iload_n 2, 1) := by decide +kernel
theorem dX12_worth_1 : decode cX12_worth 1 = .ok (.iconst 2, 1) := by decide +kernel
theorem dX12_worth_2 : decode cX12_worth 2 = .ok (.if_icmp .ne 18, 3) := by decide +kernel
theorem dX12_worth_20 : decode cX12_worth 20 = .ok (.iload_n 3, 1) := by decide +kernel
theorem dX12_worth_21 : decode cX12_worth 21 = .ok (.ireturn, 1) := by decide +kernel
theorem dX12_worth_5 : decode cX12_worth 5 = .ok (.aload_n 0, 1) := by decide +kernel
theorem dX12_worth_6 : decode cX12_worth 6 = .ok (.getfield 179, 3) := by decide +kernel
theorem dX12_worth_9 : decode cX12_worth 9 = .ok (.sipush 192, 3) := by decide +kernel
theorem dX12_worth_12 : decode cX12_worth 12 = .ok (.iload_n 1, 1) := by decide +kernel
theorem dX12_worth_13 : decode cX12_worth 13 = .ok (.imul, 1) := by decide +kernel
theorem dX12_worth_14 : decode cX12_worth 14 = .ok (.iload_n 3, 1) := by decide +kernel
theorem dX12_worth_15 : decode cX12_worth 15 = .ok (.iadd, 1) := by decide +kernel
theorem dX12_worth_16 : decode cX12_worth 16 = .ok (.iaload, 1) := by decide +kernel
theorem dX12_worth_17 : decode cX12_worth 17 = .ok (.goto 4, 3) := by decide +kernel
set_option maxRecDepth 20000 in
theorem c_X12_worth (d : Nat) {b : Nat} {σ : MS} {c : Int} {k : Int} {w : Int} (hk : k = 2 → 0 ≤ 192 * c + w ∧ 192 * c + w < 5184) (hR : RG σ) (h_k : -2147483648 ≤ k ∧ k ≤ 2147483647) (h_w : -2147483648 ≤ w ∧ w ≤ 2147483647) : Tm (d + 1) m_X12_worth 0 b σ [(0, .ref b), (1, .int (iI c)), (2, .int (iI k)), (3, .int (iI w))] [] (fun ro σ2 => ∃ v : Int, ro = some (.int (iI v)) ∧ σ = σ2 ∧ (-2147483648 ≤ v ∧ v ≤ 2147483647)) := by
  refine tm_iload_n dX12_worth_0 rfl 2 rfl ?_
  refine tm_iconst dX12_worth_1 ?_
  refine tm_icmp_ne (tgt := 20) dX12_worth_2 (by decide) ⟨by omega, by omega⟩ ⟨by decide, by decide⟩ (fun h1 => ?_) (fun h1 => ?_)
  · refine tm_iload_n dX12_worth_20 rfl 3 rfl ?_
    exact tm_iret rfl dX12_worth_21 (⟨_, rfl, rfl, by omega⟩)
  · refine tm_aload_n dX12_worth_5 rfl 0 rfl ?_
    refine tm_get (k := 82) (v := .ref (b + 1 + 53)) lay_12 dX12_worth_6 (by decide) fl12_179 rfl ?_
    refine tm_sipush dX12_worth_9 (by decide) ?_
    refine tm_iload_n dX12_worth_12 rfl 1 rfl ?_
    refine tm_imul dX12_worth_13 ?_
    refine tm_iload_n dX12_worth_14 rfl 3 rfl ?_
    refine tm_iadd dX12_worth_15 ?_
    refine tm_iald (z := (192 * c) + w) (v := σ.2.1 82 ((192 * c) + w)) dX12_worth_16 (show mT[53]? = some (82, 0, 5184) from rfl) (by omega) (by omega) (by decide) (rfl) ?_
    have g2 := RG.a hR 82 ((192 * c) + w)
    refine tm_goto (tgt := 21) dX12_worth_17 (by decide) ?_
    exact tm_iret rfl dX12_worth_21 (⟨_, rfl, rfl, by omega⟩)
