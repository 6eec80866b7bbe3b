def LEAN (σ : MS) (x g : Int) : Prop := ∃ i, 0 ≤ i ∧ i < nArgs σ x ∧ σ.2.1 7 (4 * x + i) = 2 ∧ σ.2.1 8 (4 * x + i) = g
def OKI (σ : MS) (F x : Int) : Prop :=
  (0 ≤ σ.2.1 3 x ∧ σ.2.1 3 x ≤ 15) ∧ ((σ.2.1 3 x ≤ 5 ∨ σ.2.1 3 x = 10) → 0 ≤ σ.2.1 4 x ∧ σ.2.1 4 x < 192) ∧ ((σ.2.1 3 x = 8 ∨ σ.2.1 3 x = 9 ∨ σ.2.1 3 x = 13) → 0 ≤ σ.2.1 4 x ∧ σ.2.1 4 x < 4096) ∧ ((σ.2.1 3 x = 14 ∨ σ.2.1 3 x = 15) → 0 ≤ σ.2.1 4 x ∧ σ.2.1 4 x < F) ∧ (σ.2.1 3 x = 12 → 0 ≤ σ.2.1 4 x ∧ σ.2.1 4 x < 12) ∧
  ((σ.2.1 3 x = 11 ∨ σ.2.1 3 x = 12) → 0 ≤ σ.2.1 5 x ∧ σ.2.1 5 x < F) ∧ (σ.2.1 3 x = 10 → 0 ≤ σ.2.1 5 x ∧ σ.2.1 5 x < 6) ∧ (∀ i, 0 ≤ i → i < 4 → (0 ≤ σ.2.1 7 (4 * x + i) ∧ σ.2.1 7 (4 * x + i) ≤ 2) ∧ (σ.2.1 7 (4 * x + i) = 2 → (0 ≤ σ.2.1 8 (4 * x + i) ∧ σ.2.1 8 (4 * x + i) < 192) ∧ i < nArgs σ x)) ∧ (σ.2.1 3 x = 12 → σ.2.1 6 x = 2 → σ.2.1 7 (4 * x + 0) = 2)
def ITM (σ : MS) : Prop := ∀ r, 0 ≤ r → r < 13 → 0 ≤ σ.2.1 9 r ∧ σ.2.1 9 r ≤ 220
/-- all items of a routine are well formed; F frames -/
def OKS (σ : MS) (F r : Int) : Prop := ∀ k, 0 ≤ k → k < σ.2.1 9 r → OKI σ F (220 * r + k)
/-- names of the frames of a routine -/
def OKF (σ : MS) (r : Int) : Prop := (1 ≤ σ.2.1 14 r ∧ σ.2.1 14 r ≤ 12) ∧ ∀ f, 0 ≤ f → f < σ.2.1 14 r → (0 ≤ σ.2.1 15 (12 * r + f) ∧ σ.2.1 15 (12 * r + f) < 6) ∧ ∀ n, 0 ≤ n → n < σ.2.1 12 (σ.2.1 15 (12 * r + f)) → 0 ≤ σ.2.1 18 (144 * r + 12 * f + n) ∧ σ.2.1 18 (144 * r + 12 * f + n) < 192
def NAM (σ : MS) : Prop := ∀ r, 0 ≤ r → r < 6 → 0 ≤ σ.2.1 12 r ∧ σ.2.1 12 r ≤ 12

theorem ml12_199 : Cond.methodLink RX12 199 yX12_args ∈ pWW := pw9 (List.mem_of_getElem? (i := 55) rfl) rfl
theorem dX12_leansOn_2 : decode cX12_leansOn 2 = .ok (.iload_n 3, 1) := by decide +kernel
theorem dX12_leansOn_3 : decode cX12_leansOn 3 = .ok (.aload_n 0, 1) := by decide +kernel
theorem dX12_leansOn_4 : decode cX12_leansOn 4 = .ok (.iload_n 1, 1) := by decide +kernel
theorem dX12_leansOn_5 : decode cX12_leansOn 5 = .ok (.invokevirtual 199, 3) := by decide +kernel
theorem dX12_leansOn_8 : decode cX12_leansOn 8 = .ok (.if_icmp .ge 39, 3) := by decide +kernel
theorem dX12_leansOn_11 : decode cX12_leansOn 11 = .ok (.aload_n 0, 1) := by decide +kernel
theorem dX12_leansOn_12 : decode cX12_leansOn 12 = .ok (.getfield 26, 3) := by decide +kernel
theorem dX12_leansOn_15 : decode cX12_leansOn 15 = .ok (.iconst 4, 1) := by decide +kernel
theorem dX12_leansOn_16 : decode cX12_leansOn 16 = .ok (.iload_n 1, 1) := by decide +kernel
theorem dX12_leansOn_17 : decode cX12_leansOn 17 = .ok (.imul, 1) := by decide +kernel
theorem dX12_leansOn_18 : decode cX12_leansOn 18 = .ok (.iload_n 3, 1) := by decide +kernel
theorem dX12_leansOn_19 : decode cX12_leansOn 19 = .ok (.iadd, 1) := by decide +kernel
theorem dX12_leansOn_20 : decode cX12_leansOn 20 = .ok (.iaload, 1) := by decide +kernel
theorem dX12_leansOn_21 : decode cX12_leansOn 21 = .ok (.iconst 2, 1) := by decide +kernel
theorem dX12_leansOn_22 : decode cX12_leansOn 22 = .ok (.if_icmp .ne 19, 3) := by decide +kernel
theorem dX12_leansOn_41 : decode cX12_leansOn 41 = .ok (.iinc 3 1, 3) := by decide +kernel
theorem dX12_leansOn_44 : decode cX12_leansOn 44 = .ok (.goto (-42), 3) := by decide +kernel
theorem dX12_leansOn_25 : decode cX12_leansOn 25 = .ok (.aload_n 0, 1) := by decide +kernel
theorem dX12_leansOn_26 : decode cX12_leansOn 26 = .ok (.getfield 29, 3) := by decide +kernel
theorem dX12_leansOn_29 : decode cX12_leansOn 29 = .ok (.iconst 4, 1) := by decide +kernel
theorem dX12_leansOn_30 : decode cX12_leansOn 30 = .ok (.iload_n 1, 1) := by decide +kernel
theorem dX12_leansOn_31 : decode cX12_leansOn 31 = .ok (.imul, 1) := by decide +kernel
theorem dX12_leansOn_32 : decode cX12_leansOn 32 = .ok (.iload_n 3, 1) := by decide +kernel
theorem dX12_leansOn_33 : decode cX12_leansOn 33 = .ok (.iadd, 1) := by decide +kernel
theorem dX12_leansOn_34 : decode cX12_leansOn 34 = .ok (.iaload, 1) := by decide +kernel
theorem dX12_leansOn_35 : decode cX12_leansOn 35 = .ok (.iload_n 2, 1) := by decide +kernel
theorem dX12_leansOn_36 : decode cX12_leansOn 36 = .ok (.if_icmp .ne 5, 3) := by decide +kernel
theorem dX12_leansOn_39 : decode cX12_leansOn 39 = .ok (.iconst 1, 1) := by decide +kernel
theorem dX12_leansOn_40 : decode cX12_leansOn 40 = .ok (.ireturn, 1) := by decide +kernel
set_option maxRecDepth 20000 in
theorem l_leansOn (d : Nat) {b : Nat} {σ : MS} {x : Int} {g : Int} {post : Option Value → MS → Prop} (hx : 0 ≤ x ∧ x < 2860) (hR : RG σ) (hof : σ.2.1 3 x = 10 → 0 ≤ σ.2.1 5 x ∧ σ.2.1 5 x < 6) (hpar : PAR σ) (h_g : -2147483648 ≤ g ∧ g ≤ 2147483647) (hx_47 : ∀ (i : Int) , (∀ j, 0 ≤ j → j < nArgs σ x → ¬ (σ.2.1 7 (4 * x + j) = 2 ∧ σ.2.1 8 (4 * x + j) = g)) → Tm (d + 4) m_X12_leansOn 47 b σ [(3, .int (iI i)), (0, .ref b), (1, .int (iI x)), (2, .int (iI g))] [] post) (hr1 : ∀ i, 0 ≤ i → i < nArgs σ x → σ.2.1 7 (4 * x + i) = 2 → σ.2.1 8 (4 * x + i) = g → post (some (.int (iI 1))) σ) : ∀ (n : Nat) (i : Int) , (0 ≤ i ∧ i ≤ 4) → (∀ j, 0 ≤ j → j < i → ¬ (σ.2.1 7 (4 * x + j) = 2 ∧ σ.2.1 8 (4 * x + j) = g)) → (4 - i).toNat = n → Tm (d + 4) m_X12_leansOn 2 b σ [(3, .int (iI i)), (0, .ref b), (1, .int (iI x)), (2, .int (iI g))] [] post := by
  intro n
  induction n using Nat.strongRecOn with
  | _ n ih =>
    intro i h0 hj hm
    refine tm_iload_n dX12_leansOn_2 rfl 0 rfl ?_
    refine tm_aload_n dX12_leansOn_3 rfl 1 rfl ?_
    refine tm_iload_n dX12_leansOn_4 rfl 2 rfl ?_
    refine tm_callV (M' := m_X12_args) (As := [.int (iI x)]) (rest := [.int (iI i)]) dX12_leansOn_5 ok_X12_args im_X12_args se_X12_args ml12_199 np_X12_args rfl rfl (Nat.le_of_ble_eq_true rfl) (Nat.le_of_ble_eq_true rfl) rfl (c_X12_args (d) (σ := σ) (x := x) hx hR hof hpar) (fun r1 σ2 hp => ?_)
    obtain ⟨v3, rfl, rfl, f4, f5⟩ := hp
    show Tm _ _ 8 b σ [(3, .int (iI i)), (0, .ref b), (1, .int (iI x)), (2, .int (iI g))] [.int (iI v3), .int (iI i)] _
    refine tm_icmp_ge (tgt := 47) dX12_leansOn_8 (by decide) ⟨by omega, by omega⟩ ⟨by omega, by omega⟩ (fun h6 => ?_) (fun h6 => ?_)
    · exact tm_sub [0, 1, 2, 3] rfl (hx_47 (i) (fun j a b => hj j a (by omega)))
    · refine tm_aload_n dX12_leansOn_11 rfl 1 rfl ?_
      refine tm_get (k := 7) (v := .ref (b + 1 + 5)) lay_12 dX12_leansOn_12 (by decide) fl12_26 rfl ?_
      refine tm_iconst dX12_leansOn_15 ?_
      refine tm_iload_n dX12_leansOn_16 rfl 2 rfl ?_
      refine tm_imul dX12_leansOn_17 ?_
      refine tm_iload_n dX12_leansOn_18 rfl 0 rfl ?_
      refine tm_iadd dX12_leansOn_19 ?_
      refine tm_iald (z := (4 * x) + i) (v := σ.2.1 7 ((4 * x) + i)) dX12_leansOn_20 (show mT[5]? = some (7, 0, 11440) from rfl) (by omega) (by omega) (by decide) (rfl) ?_
      have g7 := RG.a hR 7 ((4 * x) + i)
      refine tm_iconst dX12_leansOn_21 ?_
      refine tm_icmp_ne (tgt := 41) dX12_leansOn_22 (by decide) ⟨by omega, by omega⟩ ⟨by decide, by decide⟩ (fun h8 => ?_) (fun h8 => ?_)
      · refine tm_iinc (q0 := 0) (L' := [(3, .int (iI (i + 1))), (0, .ref b), (1, .int (iI x)), (2, .int (iI g))]) dX12_leansOn_41 rfl (by decide) rfl ?_
        refine tm_goto (tgt := 2) dX12_leansOn_44 (by decide) ?_
        exact tm_sub [0, 1, 2, 3] rfl (ih _ (by omega) (i + 1) (by omega) (fun j a b => by
          by_cases e : j = i
          · subst e; omega
          · exact hj j a (by omega)) rfl)
      · refine tm_aload_n dX12_leansOn_25 rfl 1 rfl ?_
        refine tm_get (k := 8) (v := .ref (b + 1 + 6)) lay_12 dX12_leansOn_26 (by decide) fl12_29 rfl ?_
        refine tm_iconst dX12_leansOn_29 ?_
        refine tm_iload_n dX12_leansOn_30 rfl 2 rfl ?_
        refine tm_imul dX12_leansOn_31 ?_
        refine tm_iload_n dX12_leansOn_32 rfl 0 rfl ?_
        refine tm_iadd dX12_leansOn_33 ?_
        refine tm_iald (z := (4 * x) + i) (v := σ.2.1 8 ((4 * x) + i)) dX12_leansOn_34 (show mT[6]? = some (8, 0, 11440) from rfl) (by omega) (by omega) (by decide) (rfl) ?_
        have g9 := RG.a hR 8 ((4 * x) + i)
        refine tm_iload_n dX12_leansOn_35 rfl 3 rfl ?_
        refine tm_icmp_ne (tgt := 41) dX12_leansOn_36 (by decide) ⟨by omega, by omega⟩ ⟨by omega, by omega⟩ (fun h10 => ?_) (fun h10 => ?_)
        · refine tm_iinc (q0 := 0) (L' := [(3, .int (iI (i + 1))), (0, .ref b), (1, .int (iI x)), (2, .int (iI g))]) dX12_leansOn_41 rfl (by decide) rfl ?_
          refine tm_goto (tgt := 2) dX12_leansOn_44 (by decide) ?_
          exact tm_sub [0, 1, 2, 3] rfl (ih _ (by omega) (i + 1) (by omega) (fun j a b => by
          by_cases e : j = i
          · subst e; omega
          · exact hj j a (by omega)) rfl)
        · refine tm_iconst dX12_leansOn_39 ?_
          exact tm_zret (v := 1) rfl (by decide) dX12_leansOn_40 (hr1 i (by omega) (by omega) (by assumption) (by assumption))
theorem dX12_leansOn_0 : decode cX12_leansOn 0 = .ok (.iconst 0, 1) := by decide +kernel
theorem dX12_leansOn_1 : decode cX12_leansOn 1 = .ok (.istore_n 3, 1) := by decide +kernel
theorem dX12_leansOn_47 : decode cX12_leansOn 47 = .ok (.iconst 0, 1) := by decide +kernel
theorem dX12_leansOn_48 : decode cX12_leansOn 48 = .ok (.ireturn, 1) := by decide +kernel
set_option maxRecDepth 20000 in
theorem c_X12_leansOn (d : Nat) {b : Nat} {σ : MS} {x : Int} {g : Int} (hx : 0 ≤ x ∧ x < 2860) (hR : RG σ) (hof : σ.2.1 3 x = 10 → 0 ≤ σ.2.1 5 x ∧ σ.2.1 5 x < 6) (hpar : PAR σ) (h_g : -2147483648 ≤ g ∧ g ≤ 2147483647) : Tm (d + 4) m_X12_leansOn 0 b σ [(0, .ref b), (1, .int (iI x)), (2, .int (iI g))] [] (fun ro σ2 => ∃ v : Int, ro = some (.int (iI v)) ∧ σ = σ2 ∧ (v = 0 ∨ v = 1) ∧ (v = 1 ↔ LEAN σ x g)) := by
  refine tm_iconst dX12_leansOn_0 ?_
  refine tm_istore_n (L' := [(3, .int (iI 0)), (0, .ref b), (1, .int (iI x)), (2, .int (iI g))]) dX12_leansOn_1 rfl (by decide) rfl ?_
  refine tm_sub [0, 1, 2, 3] rfl (l_leansOn (d) (σ := σ) (x := x) (g := g) hx hR hof hpar h_g (fun i5 f4 => ?_) (fun i a b c e => ⟨_, rfl, rfl, Or.inr rfl, fun _ => ⟨i, a, b, c, e⟩, fun _ => rfl⟩) _ (0) (by omega) (fun j a b => by omega) rfl)
  show Tm _ _ 47 b σ [(3, .int (iI i5)), (0, .ref b), (1, .int (iI x)), (2, .int (iI g))] [] _
  refine tm_iconst dX12_leansOn_47 ?_
  exact tm_zret (v := 0) rfl (by decide) dX12_leansOn_48 (⟨_, rfl, rfl, Or.inl rfl, fun h => absurd h (by decide), fun ⟨i, a, b, c, e⟩ => absurd ⟨c, e⟩ (f4 i a b)⟩)
theorem fl12_32 : Cond.fieldLink RX12 32 (TX12 9).1 (TX12 9).2.1 (TX12 9).2.2.1 ∈ pWW := pw7 (List.mem_of_getElem? (i := 16) rfl) rfl
theorem ml12_203 : Cond.methodLink RX12 203 yX12_at ∈ pWW := pw8 (List.mem_of_getElem? (i := 209) rfl) rfl
theorem ml12_401 : Cond.methodLink RX12 401 yX12_isAct ∈ pWW := pw9 (List.mem_of_getElem? (i := 45) rfl) rfl
theorem dX12_acts_4 : decode cX12_acts 4 = .ok (.iload_n 3, 1) := by decide +kernel
theorem dX12_acts_5 : decode cX12_acts 5 = .ok (.aload_n 0, 1) := by decide +kernel
theorem dX12_acts_6 : decode cX12_acts 6 = .ok (.getfield 32, 3) := by decide +kernel
theorem dX12_acts_9 : decode cX12_acts 9 = .ok (.iload_n 1, 1) := by decide +kernel
theorem dX12_acts_10 : decode cX12_acts 10 = .ok (.iaload, 1) := by decide +kernel
theorem dX12_acts_11 : decode cX12_acts 11 = .ok (.if_icmp .ge 34, 3) := by decide +kernel
theorem dX12_acts_14 : decode cX12_acts 14 = .ok (.iload_n 2, 1) := by decide +kernel
theorem dX12_acts_15 : decode cX12_acts 15 = .ok (.aload_n 0, 1) := by decide +kernel
theorem dX12_acts_16 : decode cX12_acts 16 = .ok (.getfield 13, 3) := by decide +kernel
theorem dX12_acts_19 : decode cX12_acts 19 = .ok (.aload_n 0, 1) := by decide +kernel
theorem dX12_acts_20 : decode cX12_acts 20 = .ok (.iload_n 1, 1) := by decide +kernel
theorem dX12_acts_21 : decode cX12_acts 21 = .ok (.iload_n 3, 1) := by decide +kernel
theorem dX12_acts_22 : decode cX12_acts 22 = .ok (.invokevirtual 203, 3) := by decide +kernel
theorem dX12_acts_25 : decode cX12_acts 25 = .ok (.iaload, 1) := by decide +kernel
theorem dX12_acts_26 : decode cX12_acts 26 = .ok (.invokestatic 401, 3) := by decide +kernel
theorem dX12_acts_29 : decode cX12_acts 29 = .ok (.ifCond .eq 7, 3) := by decide +kernel
theorem dX12_acts_36 : decode cX12_acts 36 = .ok (.iconst 0, 1) := by decide +kernel
theorem dX12_acts_37 : decode cX12_acts 37 = .ok (.iadd, 1) := by decide +kernel
theorem dX12_acts_38 : decode cX12_acts 38 = .ok (.istore_n 2, 1) := by decide +kernel
theorem dX12_acts_39 : decode cX12_acts 39 = .ok (.iinc 3 1, 3) := by decide +kernel
theorem dX12_acts_42 : decode cX12_acts 42 = .ok (.goto (-38), 3) := by decide +kernel
theorem dX12_acts_32 : decode cX12_acts 32 = .ok (.iconst 1, 1) := by decide +kernel
theorem dX12_acts_33 : decode cX12_acts 33 = .ok (.goto 4, 3) := by decide +kernel
set_option maxRecDepth 20000 in
theorem l_acts (d : Nat) {b : Nat} {σ : MS} {r : Int} {post : Option Value → MS → Prop} (hr : 0 ≤ r ∧ r < 12) (hR : RG σ) (hit : ITM σ) (hx_45 : ∀ (n1 : Int) (k : Int) , (0 ≤ n1 ∧ n1 ≤ 220) → Tm (d + 3) m_X12_acts 45 b σ [(3, .int (iI k)), (2, .int (iI n1)), (0, .ref b), (1, .int (iI r))] [] post) : ∀ (n : Nat) (n1 : Int) (k : Int) , (0 ≤ n1 ∧ n1 ≤ k ∧ k ≤ 220) → (220 - k).toNat = n → Tm (d + 3) m_X12_acts 4 b σ [(3, .int (iI k)), (2, .int (iI n1)), (0, .ref b), (1, .int (iI r))] [] post := by
  intro n
  induction n using Nat.strongRecOn with
  | _ n ih =>
    intro n1 k h0 hm
    refine tm_iload_n dX12_acts_4 rfl 0 rfl ?_
    refine tm_aload_n dX12_acts_5 rfl 2 rfl ?_
    refine tm_get (k := 9) (v := .ref (b + 1 + 7)) lay_12 dX12_acts_6 (by decide) fl12_32 rfl ?_
    refine tm_iload_n dX12_acts_9 rfl 3 rfl ?_
    refine tm_iald (z := r) (v := σ.2.1 9 r) dX12_acts_10 (show mT[7]? = some (9, 0, 13) from rfl) (by omega) (by omega) (by decide) (rfl) ?_
    have g1 := RG.a hR 9 (r)
    have := hit (r) (by omega) (by omega)
    refine tm_icmp_ge (tgt := 45) dX12_acts_11 (by decide) ⟨by omega, by omega⟩ ⟨by omega, by omega⟩ (fun h2 => ?_) (fun h2 => ?_)
    · exact tm_sub [0, 1, 2, 3] rfl (hx_45 (n1) (k) (by omega))
    · refine tm_iload_n dX12_acts_14 rfl 1 rfl ?_
      refine tm_aload_n dX12_acts_15 rfl 2 rfl ?_
      refine tm_get (k := 3) (v := .ref (b + 1 + 1)) lay_12 dX12_acts_16 (by decide) fl12_13 rfl ?_
      refine tm_aload_n dX12_acts_19 rfl 2 rfl ?_
      refine tm_iload_n dX12_acts_20 rfl 3 rfl ?_
      refine tm_iload_n dX12_acts_21 rfl 0 rfl ?_
      refine tm_callV (M' := m_X12_at) (As := [.int (iI r), .int (iI k)]) (rest := [.ref (b + 1 + 1), .int (iI n1)]) dX12_acts_22 ok_X12_at im_X12_at se_X12_at ml12_203 np_X12_at rfl rfl (Nat.le_of_ble_eq_true rfl) (Nat.le_of_ble_eq_true rfl) rfl (c_X12_at (d + 1) (σ := σ) (x := r) (k := k) ) (fun r3 σ4 hp => ?_)
      obtain ⟨v5, rfl, rfl, f6⟩ := hp
      subst f6
      show Tm _ _ 25 b σ [(3, .int (iI k)), (2, .int (iI n1)), (0, .ref b), (1, .int (iI r))] [.int (iI (220 * r + k)), .ref (b + 1 + 1), .int (iI n1)] _
      refine tm_iald (z := 220 * r + k) (v := σ.2.1 3 (220 * r + k)) dX12_acts_25 (show mT[1]? = some (3, 0, 2860) from rfl) (by omega) (by omega) (by decide) (rfl) ?_
      have g7 := RG.a hR 3 (220 * r + k)
      refine tm_callS (M' := m_X12_isAct) (As := [.int (iI (σ.2.1 3 (220 * r + k)))]) (rest := [.int (iI n1)]) dX12_acts_26 ok_X12_isAct stt_X12_isAct ml12_401 np_X12_isAct rfl (Nat.le_of_ble_eq_true rfl) (Nat.le_of_ble_eq_true rfl) rfl (c_X12_isAct (d + 1) (σ := σ) (x := σ.2.1 3 (220 * r + k)) (by omega)) (fun r8 σ9 hp => ?_)
      obtain ⟨v10, rfl, rfl, f11, f12⟩ := hp
      show Tm _ _ 29 b σ [(3, .int (iI k)), (2, .int (iI n1)), (0, .ref b), (1, .int (iI r))] [.int (iI v10), .int (iI n1)] _
      refine tm_if_eq (tgt := 36) dX12_acts_29 (by decide) ⟨by omega, by omega⟩ (fun h13 => ?_) (fun h13 => ?_)
      · refine tm_iconst dX12_acts_36 ?_
        refine tm_iadd dX12_acts_37 ?_
        refine tm_istore_n (L' := [(2, .int (iI (n1 + 0))), (3, .int (iI k)), (0, .ref b), (1, .int (iI r))]) dX12_acts_38 rfl (by decide) rfl ?_
        refine tm_iinc (q0 := 1) (L' := [(3, .int (iI (k + 1))), (2, .int (iI (n1 + 0))), (0, .ref b), (1, .int (iI r))]) dX12_acts_39 rfl (by decide) rfl ?_
        refine tm_goto (tgt := 4) dX12_acts_42 (by decide) ?_
        exact tm_sub [0, 1, 2, 3] rfl (ih _ (by omega) (n1 + 0) (k + 1) (by omega) rfl)
      · refine tm_iconst dX12_acts_32 ?_
        refine tm_goto (tgt := 37) dX12_acts_33 (by decide) ?_
        refine tm_iadd dX12_acts_37 ?_
        refine tm_istore_n (L' := [(2, .int (iI (n1 + 1))), (3, .int (iI k)), (0, .ref b), (1, .int (iI r))]) dX12_acts_38 rfl (by decide) rfl ?_
        refine tm_iinc (q0 := 1) (L' := [(3, .int (iI (k + 1))), (2, .int (iI (n1 + 1))), (0, .ref b), (1, .int (iI r))]) dX12_acts_39 rfl (by decide) rfl ?_
        refine tm_goto (tgt := 4) dX12_acts_42 (by decide) ?_
        exact tm_sub [0, 1, 2, 3] rfl (ih _ (by omega) (n1 + 1) (k + 1) (by omega) rfl)
theorem dX12_acts_0 : decode cX12_acts 0 = .ok (.iconst 0, 1) := by decide +kernel
theorem dX12_acts_1 : decode cX12_acts 1 = .ok (.istore_n 2, 1) := by decide +kernel
theorem dX12_acts_2 : decode cX12_acts 2 = .ok (.iconst 0, 1) := by decide +kernel
theorem dX12_acts_3 : decode cX12_acts 3 = .ok (.istore_n 3, 1) := by decide +kernel
theorem dX12_acts_45 : decode cX12_acts 45 = .ok (.iload_n 2, 1) := by decide +kernel
theorem dX12_acts_46 : decode cX12_acts 46 = .ok (.ireturn, 1) := by decide +kernel
set_option maxRecDepth 20000 in
theorem c_X12_acts (d : Nat) {b : Nat} {σ : MS} {r : Int} (hr : 0 ≤ r ∧ r < 12) (hR : RG σ) (hit : ITM σ) : Tm (d + 3) m_X12_acts 0 b σ [(0, .ref b), (1, .int (iI r))] [] (fun ro σ2 => ∃ v : Int, ro = some (.int (iI v)) ∧ σ = σ2 ∧ 0 ≤ v ∧ v ≤ 220) := by
  refine tm_iconst dX12_acts_0 ?_
  refine tm_istore_n (L' := [(2, .int (iI 0)), (0, .ref b), (1, .int (iI r))]) dX12_acts_1 rfl (by decide) rfl ?_
  refine tm_iconst dX12_acts_2 ?_
  refine tm_istore_n (L' := [(3, .int (iI 0)), (2, .int (iI 0)), (0, .ref b), (1, .int (iI r))]) dX12_acts_3 rfl (by decide) rfl ?_
  refine tm_sub [0, 1, 2, 3] rfl (l_acts (d) (σ := σ) (r := r) hr hR hit (fun n16 k7 f5 => ?_) _ (0) (0) (by omega) rfl)
  show Tm _ _ 45 b σ [(3, .int (iI k7)), (2, .int (iI n16)), (0, .ref b), (1, .int (iI r))] [] _
  refine tm_iload_n dX12_acts_45 rfl 1 rfl ?_
  exact tm_iret rfl dX12_acts_46 (⟨_, rfl, rfl, by omega⟩)
theorem dX12_hasCall_2 : decode cX12_hasCall 2 = .ok (.iload_n 2, 1) := by decide +kernel
theorem dX12_hasCall_3 : decode cX12_hasCall 3 = .ok (.aload_n 0, 1) := by decide +kernel
theorem dX12_hasCall_4 : decode cX12_hasCall 4 = .ok (.getfield 32, 3) := by decide +kernel
theorem dX12_hasCall_7 : decode cX12_hasCall 7 = .ok (.iload_n 1, 1) := by decide +kernel
theorem dX12_hasCall_8 : decode cX12_hasCall 8 = .ok (.iaload, 1) := by decide +kernel
theorem dX12_hasCall_9 : decode cX12_hasCall 9 = .ok (.if_icmp .ge 27, 3) := by decide +kernel
theorem dX12_hasCall_12 : decode cX12_hasCall 12 = .ok (.aload_n 0, 1) := by decide +kernel
theorem dX12_hasCall_13 : decode cX12_hasCall 13 = .ok (.getfield 13, 3) := by decide +kernel
theorem dX12_hasCall_16 : decode cX12_hasCall 16 = .ok (.aload_n 0, 1) := by decide +kernel
theorem dX12_hasCall_17 : decode cX12_hasCall 17 = .ok (.iload_n 1, 1) := by decide +kernel
theorem dX12_hasCall_18 : decode cX12_hasCall 18 = .ok (.iload_n 2, 1) := by decide +kernel
theorem dX12_hasCall_19 : decode cX12_hasCall 19 = .ok (.invokevirtual 203, 3) := by decide +kernel
theorem dX12_hasCall_22 : decode cX12_hasCall 22 = .ok (.iaload, 1) := by decide +kernel
theorem dX12_hasCall_23 : decode cX12_hasCall 23 = .ok (.bipush 10, 2) := by decide +kernel
theorem dX12_hasCall_25 : decode cX12_hasCall 25 = .ok (.if_icmp .ne 5, 3) := by decide +kernel
theorem dX12_hasCall_30 : decode cX12_hasCall 30 = .ok (.iinc 2 1, 3) := by decide +kernel
theorem dX12_hasCall_33 : decode cX12_hasCall 33 = .ok (.goto (-31), 3) := by decide +kernel
theorem dX12_hasCall_28 : decode cX12_hasCall 28 = .ok (.iconst 1, 1) := by decide +kernel
theorem dX12_hasCall_29 : decode cX12_hasCall 29 = .ok (.ireturn, 1) := by decide +kernel
set_option maxRecDepth 20000 in
theorem l_hasCall (d : Nat) {b : Nat} {σ : MS} {r : Int} {post : Option Value → MS → Prop} (hr : 0 ≤ r ∧ r < 12) (hR : RG σ) (hit : ITM σ) (hx_36 : ∀ (k : Int) , (∀ j, 0 ≤ j → j < σ.2.1 9 r → ¬ σ.2.1 3 (220 * r + j) = 10) → Tm (d + 3) m_X12_hasCall 36 b σ [(2, .int (iI k)), (0, .ref b), (1, .int (iI r))] [] post) (hr1 : post (some (.int (iI 1))) σ) : ∀ (n : Nat) (k : Int) , (0 ≤ k ∧ k ≤ 220) → (∀ j, 0 ≤ j → j < k → ¬ σ.2.1 3 (220 * r + j) = 10) → (220 - k).toNat = n → Tm (d + 3) m_X12_hasCall 2 b σ [(2, .int (iI k)), (0, .ref b), (1, .int (iI r))] [] post := by
  intro n
  induction n using Nat.strongRecOn with
  | _ n ih =>
    intro k h0 hj hm
    refine tm_iload_n dX12_hasCall_2 rfl 0 rfl ?_
    refine tm_aload_n dX12_hasCall_3 rfl 1 rfl ?_
    refine tm_get (k := 9) (v := .ref (b + 1 + 7)) lay_12 dX12_hasCall_4 (by decide) fl12_32 rfl ?_
    refine tm_iload_n dX12_hasCall_7 rfl 2 rfl ?_
    refine tm_iald (z := r) (v := σ.2.1 9 r) dX12_hasCall_8 (show mT[7]? = some (9, 0, 13) from rfl) (by omega) (by omega) (by decide) (rfl) ?_
    have g1 := RG.a hR 9 (r)
    have := hit (r) (by omega) (by omega)
    refine tm_icmp_ge (tgt := 36) dX12_hasCall_9 (by decide) ⟨by omega, by omega⟩ ⟨by omega, by omega⟩ (fun h2 => ?_) (fun h2 => ?_)
    · exact tm_sub [0, 1, 2] rfl (hx_36 (k) (fun j a b => hj j a (by omega)))
    · refine tm_aload_n dX12_hasCall_12 rfl 1 rfl ?_
      refine tm_get (k := 3) (v := .ref (b + 1 + 1)) lay_12 dX12_hasCall_13 (by decide) fl12_13 rfl ?_
      refine tm_aload_n dX12_hasCall_16 rfl 1 rfl ?_
      refine tm_iload_n dX12_hasCall_17 rfl 2 rfl ?_
      refine tm_iload_n dX12_hasCall_18 rfl 0 rfl ?_
      refine tm_callV (M' := m_X12_at) (As := [.int (iI r), .int (iI k)]) (rest := [.ref (b + 1 + 1)]) dX12_hasCall_19 ok_X12_at im_X12_at se_X12_at ml12_203 np_X12_at rfl rfl (Nat.le_of_ble_eq_true rfl) (Nat.le_of_ble_eq_true rfl) rfl (c_X12_at (d + 1) (σ := σ) (x := r) (k := k) ) (fun r3 σ4 hp => ?_)
      obtain ⟨v5, rfl, rfl, f6⟩ := hp
      subst f6
      show Tm _ _ 22 b σ [(2, .int (iI k)), (0, .ref b), (1, .int (iI r))] [.int (iI (220 * r + k)), .ref (b + 1 + 1)] _
      refine tm_iald (z := 220 * r + k) (v := σ.2.1 3 (220 * r + k)) dX12_hasCall_22 (show mT[1]? = some (3, 0, 2860) from rfl) (by omega) (by omega) (by decide) (rfl) ?_
      have g7 := RG.a hR 3 (220 * r + k)
      refine tm_bipush dX12_hasCall_23 (by decide) ?_
      refine tm_icmp_ne (tgt := 30) dX12_hasCall_25 (by decide) ⟨by omega, by omega⟩ ⟨by decide, by decide⟩ (fun h8 => ?_) (fun h8 => ?_)
      · refine tm_iinc (q0 := 0) (L' := [(2, .int (iI (k + 1))), (0, .ref b), (1, .int (iI r))]) dX12_hasCall_30 rfl (by decide) rfl ?_
        refine tm_goto (tgt := 2) dX12_hasCall_33 (by decide) ?_
        exact tm_sub [0, 1, 2] rfl (ih _ (by omega) (k + 1) (by omega) (fun j a b => by
          by_cases e : j = k
          · subst e; omega
          · exact hj j a (by omega)) rfl)
      · refine tm_iconst dX12_hasCall_28 ?_
        exact tm_zret (v := 1) rfl (by decide) dX12_hasCall_29 (hr1)
theorem dX12_hasCall_0 : decode cX12_hasCall 0 = .ok (.iconst 0, 1) := by decide +kernel
theorem dX12_hasCall_1 : decode cX12_hasCall 1 = .ok (.istore_n 2, 1) := by decide +kernel
theorem dX12_hasCall_36 : decode cX12_hasCall 36 = .ok (.iconst 0, 1) := by decide +kernel
theorem dX12_hasCall_37 : decode cX12_hasCall 37 = .ok (.ireturn, 1) := by decide +kernel
set_option maxRecDepth 20000 in
theorem c_X12_hasCall (d : Nat) {b : Nat} {σ : MS} {r : Int} (hr : 0 ≤ r ∧ r < 12) (hR : RG σ) (hit : ITM σ) : Tm (d + 3) m_X12_hasCall 0 b σ [(0, .ref b), (1, .int (iI r))] [] (fun ro σ2 => ∃ v : Int, ro = some (.int (iI v)) ∧ σ = σ2 ∧ (v = 0 ∨ v = 1) ∧ (v = 0 → ∀ j, 0 ≤ j → j < σ.2.1 9 r → ¬ σ.2.1 3 (220 * r + j) = 10)) := by
  refine tm_iconst dX12_hasCall_0 ?_
  refine tm_istore_n (L' := [(2, .int (iI 0)), (0, .ref b), (1, .int (iI r))]) dX12_hasCall_1 rfl (by decide) rfl ?_
  refine tm_sub [0, 1, 2] rfl (l_hasCall (d) (σ := σ) (r := r) hr hR hit (fun k5 f4 => ?_) ⟨_, rfl, rfl, Or.inr rfl, fun h => absurd h (by decide)⟩ _ (0) (by omega) (fun j a b => by omega) rfl)
  show Tm _ _ 36 b σ [(2, .int (iI k5)), (0, .ref b), (1, .int (iI r))] [] _
  refine tm_iconst dX12_hasCall_36 ?_
  exact tm_zret (v := 0) rfl (by decide) dX12_hasCall_37 (⟨_, rfl, rfl, Or.inl rfl, fun _ => f4⟩)
