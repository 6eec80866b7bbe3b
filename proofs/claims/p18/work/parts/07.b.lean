section
def LAB (σ : MS) : Prop := ∀ l, 0 ≤ σ.2.1 46 l ∧ σ.2.1 46 l ≤ 219
theorem LAB.fr {ss ks js : List Nat} {σ τ : MS} (h : LAB σ) (f : Fr ss ks js σ τ) (hk : 46 ∉ ks) : LAB τ := fun l => by rw [f.2.1 46 hk]; exact h l
theorem LAB.A {σ : MS} (h : LAB σ) {z v : Int} (hv : 0 ≤ v ∧ v ≤ 219) : LAB (sA 46 z v σ) := fun l => by
  simp only [sA, if_true]
  by_cases e : l = z
  · rw [if_pos e]; exact hv
  · rw [if_neg e]; exact h l
theorem ITM.fr {ss ks js : List Nat} {σ τ : MS} (h : ITM σ) (f : Fr ss ks js σ τ) (hk : 9 ∉ ks) : ITM τ := fun l => by rw [f.2.1 9 hk]; exact h l
theorem PAR.fr {ss ks js : List Nat} {σ τ : MS} (h : PAR σ) (f : Fr ss ks js σ τ) (hk : 11 ∉ ks) : PAR τ := fun l => by rw [f.2.1 11 hk]; exact h l
theorem NAM.fr {ss ks js : List Nat} {σ τ : MS} (h : NAM σ) (f : Fr ss ks js σ τ) (hk : 12 ∉ ks) : NAM τ := fun l => by rw [f.2.1 12 hk]; exact h l
def LBR (σ : MS) (r : Int) : Prop := ∀ k, 0 ≤ k → k < σ.2.1 9 r → σ.2.1 3 (220 * r + k) = 13 → 0 ≤ σ.2.1 4 (220 * r + k) ∧ σ.2.1 4 (220 * r + k) < 4096
def LFN (σ τ : MS) (r n : Int) : Prop := ∀ k, 0 ≤ k → k < n → σ.2.1 3 (220 * r + k) = 13 → 0 ≤ τ.2.1 46 (σ.2.1 4 (220 * r + k)) ∧ τ.2.1 46 (σ.2.1 4 (220 * r + k)) < n ∧ σ.2.1 3 (220 * r + τ.2.1 46 (σ.2.1 4 (220 * r + k))) = 13 ∧ σ.2.1 4 (220 * r + τ.2.1 46 (σ.2.1 4 (220 * r + k))) = σ.2.1 4 (220 * r + k)
theorem LFN.skip {σ τ : MS} {r k : Int} (h : LFN σ τ r k) (hk : ¬ σ.2.1 3 (220 * r + k) = 13) : LFN σ τ r (k + 1) := fun j a c e => by
  by_cases q : j = k
  · subst q; exact absurd e hk
  · obtain ⟨x1, x2, x3⟩ := h j a (by omega) e; exact ⟨x1, by omega, x3⟩
theorem LFN.put {σ τ : MS} {r k : Int} (h : LFN σ τ r k) (h0 : 0 ≤ k) (hk : σ.2.1 3 (220 * r + k) = 13) : LFN σ (sA 46 (σ.2.1 4 (220 * r + k)) k τ) r (k + 1) := fun j a c e => by
  simp only [sA, if_true]
  by_cases q : σ.2.1 4 (220 * r + j) = σ.2.1 4 (220 * r + k)
  · rw [if_pos q]; exact ⟨h0, by omega, hk, q.symm⟩
  · rw [if_neg q]
    by_cases q2 : j = k
    · subst q2; exact absurd rfl q
    · obtain ⟨x1, x2, x3⟩ := h j a (by omega) e; exact ⟨x1, by omega, x3⟩

theorem dX12_worked_0 : decode cX12_worked 0 = .ok (.iload_n 0, 1) := by decide +kernel
theorem dX12_worked_1 : decode cX12_worked 1 = .ok (.tableswitch 54 1 4 #[31, 35, 39, 43], 31) := by decide +kernel
theorem dX12_worked_55 : decode cX12_worked 55 = .ok (.iload_n 1, 1) := by decide +kernel
theorem dX12_worked_56 : decode cX12_worked 56 = .ok (.iload_n 2, 1) := by decide +kernel
theorem dX12_worked_57 : decode cX12_worked 57 = .ok (.if_icmp .ge 7, 3) := by decide +kernel
theorem dX12_worked_64 : decode cX12_worked 64 = .ok (.iconst 0, 1) := by decide +kernel
theorem dX12_worked_65 : decode cX12_worked 65 = .ok (.ireturn, 1) := by decide +kernel
theorem dX12_worked_60 : decode cX12_worked 60 = .ok (.iconst 1, 1) := by decide +kernel
theorem dX12_worked_61 : decode cX12_worked 61 = .ok (.goto 4, 3) := by decide +kernel
theorem dX12_worked_32 : decode cX12_worked 32 = .ok (.iload_n 1, 1) := by decide +kernel
theorem dX12_worked_33 : decode cX12_worked 33 = .ok (.iload_n 2, 1) := by decide +kernel
theorem dX12_worked_34 : decode cX12_worked 34 = .ok (.iadd, 1) := by decide +kernel
theorem dX12_worked_35 : decode cX12_worked 35 = .ok (.ireturn, 1) := by decide +kernel
theorem dX12_worked_36 : decode cX12_worked 36 = .ok (.iload_n 1, 1) := by decide +kernel
theorem dX12_worked_37 : decode cX12_worked 37 = .ok (.iload_n 2, 1) := by decide +kernel
theorem dX12_worked_38 : decode cX12_worked 38 = .ok (.isub, 1) := by decide +kernel
theorem dX12_worked_39 : decode cX12_worked 39 = .ok (.ireturn, 1) := by decide +kernel
theorem dX12_worked_40 : decode cX12_worked 40 = .ok (.iload_n 1, 1) := by decide +kernel
theorem dX12_worked_41 : decode cX12_worked 41 = .ok (.iload_n 2, 1) := by decide +kernel
theorem dX12_worked_42 : decode cX12_worked 42 = .ok (.imul, 1) := by decide +kernel
theorem dX12_worked_43 : decode cX12_worked 43 = .ok (.ireturn, 1) := by decide +kernel
theorem dX12_worked_44 : decode cX12_worked 44 = .ok (.iload_n 1, 1) := by decide +kernel
theorem dX12_worked_45 : decode cX12_worked 45 = .ok (.iload_n 2, 1) := by decide +kernel
theorem dX12_worked_46 : decode cX12_worked 46 = .ok (.if_icmp .ne 7, 3) := by decide +kernel
theorem dX12_worked_53 : decode cX12_worked 53 = .ok (.iconst 0, 1) := by decide +kernel
theorem dX12_worked_54 : decode cX12_worked 54 = .ok (.ireturn, 1) := by decide +kernel
theorem dX12_worked_49 : decode cX12_worked 49 = .ok (.iconst 1, 1) := by decide +kernel
theorem dX12_worked_50 : decode cX12_worked 50 = .ok (.goto 4, 3) := by decide +kernel
set_option maxRecDepth 20000 in
theorem c_X12_worked (d : Nat) {b : Nat} {σ : MS} {k : Int} {x : Int} {y : Int} (h_k : -2147483648 ≤ k ∧ k ≤ 2147483647) (h_x : -2147483648 ≤ x ∧ x ≤ 2147483647) (h_y : -2147483648 ≤ y ∧ y ≤ 2147483647) : Tm (d + 1) m_X12_worked 0 b σ [(0, .int (iI k)), (1, .int (iI x)), (2, .int (iI y))] [] (fun ro σ2 => ∃ v : Int, ro = some (.int (iI v)) ∧ σ = σ2 ∧ (-2147483648 ≤ v ∧ v ≤ 2147483647)) := by
  refine tm_iload_n dX12_worked_0 rfl 0 rfl ?_
  by_cases h1 : k < 1 ∨ 4 < k
  · refine tm_tableOut (tgt := 55) dX12_worked_1 ⟨by omega, by omega⟩ h1 (by decide) ?_
    refine tm_iload_n dX12_worked_55 rfl 1 rfl ?_
    refine tm_iload_n dX12_worked_56 rfl 2 rfl ?_
    refine tm_icmp_ge (tgt := 64) dX12_worked_57 (by decide) ⟨by omega, by omega⟩ ⟨by omega, by omega⟩ (fun h2 => ?_) (fun h2 => ?_)
    · refine tm_iconst dX12_worked_64 ?_
      exact tm_iret rfl dX12_worked_65 (⟨_, rfl, rfl, by decide⟩)
    · refine tm_iconst dX12_worked_60 ?_
      refine tm_goto (tgt := 65) dX12_worked_61 (by decide) ?_
      exact tm_iret rfl dX12_worked_65 (⟨_, rfl, rfl, by decide⟩)
  · have h1c : k = 1 ∨ k = 2 ∨ k = 3 ∨ k = 4 := by omega
    rcases h1c with h1v | h1v | h1v | h1v
    · refine tm_tableIn (tgt := 32) dX12_worked_1 ⟨by omega, by omega⟩ (by omega) (by omega) (show _ = some (31) by rw [h1v]; rfl) (by decide) ?_
      refine tm_iload_n dX12_worked_32 rfl 1 rfl ?_
      refine tm_iload_n dX12_worked_33 rfl 2 rfl ?_
      refine tm_iadd dX12_worked_34 ?_
      exact tm_iret rfl dX12_worked_35 (⟨_, congrArg (fun q => some (Value.int q)) (iI_self _).symm, rfl, inR_toInt _⟩)
    · refine tm_tableIn (tgt := 36) dX12_worked_1 ⟨by omega, by omega⟩ (by omega) (by omega) (show _ = some (35) by rw [h1v]; rfl) (by decide) ?_
      refine tm_iload_n dX12_worked_36 rfl 1 rfl ?_
      refine tm_iload_n dX12_worked_37 rfl 2 rfl ?_
      refine tm_isub dX12_worked_38 ?_
      exact tm_iret rfl dX12_worked_39 (⟨_, congrArg (fun q => some (Value.int q)) (iI_self _).symm, rfl, inR_toInt _⟩)
    · refine tm_tableIn (tgt := 40) dX12_worked_1 ⟨by omega, by omega⟩ (by omega) (by omega) (show _ = some (39) by rw [h1v]; rfl) (by decide) ?_
      refine tm_iload_n dX12_worked_40 rfl 1 rfl ?_
      refine tm_iload_n dX12_worked_41 rfl 2 rfl ?_
      refine tm_imul dX12_worked_42 ?_
      exact tm_iret rfl dX12_worked_43 (⟨_, congrArg (fun q => some (Value.int q)) (iI_self _).symm, rfl, inR_toInt _⟩)
    · refine tm_tableIn (tgt := 44) dX12_worked_1 ⟨by omega, by omega⟩ (by omega) (by omega) (show _ = some (43) by rw [h1v]; rfl) (by decide) ?_
      refine tm_iload_n dX12_worked_44 rfl 1 rfl ?_
      refine tm_iload_n dX12_worked_45 rfl 2 rfl ?_
      refine tm_icmp_ne (tgt := 53) dX12_worked_46 (by decide) ⟨by omega, by omega⟩ ⟨by omega, by omega⟩ (fun h3 => ?_) (fun h3 => ?_)
      · refine tm_iconst dX12_worked_53 ?_
        exact tm_iret rfl dX12_worked_54 (⟨_, rfl, rfl, by decide⟩)
      · refine tm_iconst dX12_worked_49 ?_
        refine tm_goto (tgt := 54) dX12_worked_50 (by decide) ?_
        exact tm_iret rfl dX12_worked_54 (⟨_, rfl, rfl, by decide⟩)
theorem dX12_isParam_2 : decode cX12_isParam 2 = .ok (.iload_n 3, 1) := by decide +kernel
theorem dX12_isParam_3 : decode cX12_isParam 3 = .ok (.aload_n 0, 1) := by decide +kernel
theorem dX12_isParam_4 : decode cX12_isParam 4 = .ok (.getfield 35, 3) := by decide +kernel
theorem dX12_isParam_7 : decode cX12_isParam 7 = .ok (.iload_n 1, 1) := by decide +kernel
theorem dX12_isParam_8 : decode cX12_isParam 8 = .ok (.iaload, 1) := by decide +kernel
theorem dX12_isParam_9 : decode cX12_isParam 9 = .ok (.if_icmp .ge 27, 3) := by decide +kernel
theorem dX12_isParam_12 : decode cX12_isParam 12 = .ok (.aload_n 0, 1) := by decide +kernel
theorem dX12_isParam_13 : decode cX12_isParam 13 = .ok (.getfield 56, 3) := by decide +kernel
theorem dX12_isParam_16 : decode cX12_isParam 16 = .ok (.sipush 144, 3) := by decide +kernel
theorem dX12_isParam_19 : decode cX12_isParam 19 = .ok (.iload_n 1, 1) := by decide +kernel
theorem dX12_isParam_20 : decode cX12_isParam 20 = .ok (.imul, 1) := by decide +kernel
theorem dX12_isParam_21 : decode cX12_isParam 21 = .ok (.iload_n 3, 1) := by decide +kernel
theorem dX12_isParam_22 : decode cX12_isParam 22 = .ok (.iadd, 1) := by decide +kernel
theorem dX12_isParam_23 : decode cX12_isParam 23 = .ok (.iaload, 1) := by decide +kernel
theorem dX12_isParam_24 : decode cX12_isParam 24 = .ok (.iload_n 2, 1) := by decide +kernel
theorem dX12_isParam_25 : decode cX12_isParam 25 = .ok (.if_icmp .ne 5, 3) := by decide +kernel
theorem dX12_isParam_30 : decode cX12_isParam 30 = .ok (.iinc 3 1, 3) := by decide +kernel
theorem dX12_isParam_33 : decode cX12_isParam 33 = .ok (.goto (-31), 3) := by decide +kernel
theorem dX12_isParam_28 : decode cX12_isParam 28 = .ok (.iconst 1, 1) := by decide +kernel
theorem dX12_isParam_29 : decode cX12_isParam 29 = .ok (.ireturn, 1) := by decide +kernel
set_option maxRecDepth 20000 in
theorem l_isParam (d : Nat) {b : Nat} {σ : MS} {r : Int} {g : Int} {post : Option Value → MS → Prop} (hr : 0 ≤ r ∧ r < 6) (hR : RG σ) (hpar : PAR σ) (h_g : -2147483648 ≤ g ∧ g ≤ 2147483647) (hx_36 : ∀ (n1 : Int) , (∀ j, 0 ≤ j → j < σ.2.1 11 r → ¬ σ.2.1 18 (144 * r + j) = g) → Tm (d + 1) m_X12_isParam 36 b σ [(3, .int (iI n1)), (0, .ref b), (1, .int (iI r)), (2, .int (iI g))] [] post) (hr1 : ∀ j, 0 ≤ j → j < σ.2.1 11 r → σ.2.1 18 (144 * r + j) = g → post (some (.int (iI 1))) σ) : ∀ (n : Nat) (n1 : Int) , (0 ≤ n1 ∧ n1 ≤ 4) → (∀ j, 0 ≤ j → j < n1 → ¬ σ.2.1 18 (144 * r + j) = g) → (4 - n1).toNat = n → Tm (d + 1) m_X12_isParam 2 b σ [(3, .int (iI n1)), (0, .ref b), (1, .int (iI r)), (2, .int (iI g))] [] post := by
  intro n
  induction n using Nat.strongRecOn with
  | _ n ih =>
    intro n1 h0 hj hm
    refine tm_iload_n dX12_isParam_2 rfl 0 rfl ?_
    refine tm_aload_n dX12_isParam_3 rfl 1 rfl ?_
    refine tm_get (k := 11) (v := .ref (b + 1 + 8)) lay_12 dX12_isParam_4 (by decide) fl12_35 rfl ?_
    refine tm_iload_n dX12_isParam_7 rfl 2 rfl ?_
    refine tm_iald (z := r) (v := σ.2.1 11 r) dX12_isParam_8 (show mT[8]? = some (11, 0, 6) from rfl) (by omega) (by omega) (by decide) (rfl) ?_
    have g1 := RG.a hR 11 (r)
    have := hpar (r) (by omega) (by omega)
    refine tm_icmp_ge (tgt := 36) dX12_isParam_9 (by decide) ⟨by omega, by omega⟩ ⟨by omega, by omega⟩ (fun h2 => ?_) (fun h2 => ?_)
    · exact tm_sub [0, 1, 2, 3] rfl (hx_36 (n1) (fun j a b => hj j a (by omega)))
    · refine tm_aload_n dX12_isParam_12 rfl 1 rfl ?_
      refine tm_get (k := 18) (v := .ref (b + 1 + 15)) lay_12 dX12_isParam_13 (by decide) fl12_56 rfl ?_
      refine tm_sipush dX12_isParam_16 (by decide) ?_
      refine tm_iload_n dX12_isParam_19 rfl 2 rfl ?_
      refine tm_imul dX12_isParam_20 ?_
      refine tm_iload_n dX12_isParam_21 rfl 0 rfl ?_
      refine tm_iadd dX12_isParam_22 ?_
      refine tm_iald (z := (144 * r) + n1) (v := σ.2.1 18 ((144 * r) + n1)) dX12_isParam_23 (show mT[15]? = some (18, 0, 864) from rfl) (by omega) (by omega) (by decide) (rfl) ?_
      have g3 := RG.a hR 18 ((144 * r) + n1)
      refine tm_iload_n dX12_isParam_24 rfl 3 rfl ?_
      refine tm_icmp_ne (tgt := 30) dX12_isParam_25 (by decide) ⟨by omega, by omega⟩ ⟨by omega, by omega⟩ (fun h4 => ?_) (fun h4 => ?_)
      · refine tm_iinc (q0 := 0) (L' := [(3, .int (iI (n1 + 1))), (0, .ref b), (1, .int (iI r)), (2, .int (iI g))]) dX12_isParam_30 rfl (by decide) rfl ?_
        refine tm_goto (tgt := 2) dX12_isParam_33 (by decide) ?_
        exact tm_sub [0, 1, 2, 3] rfl (ih _ (by omega) (n1 + 1) (by omega) (fun j a b => by
          by_cases e : j = n1
          · subst e; omega
          · exact hj j a (by omega)) rfl)
      · refine tm_iconst dX12_isParam_28 ?_
        exact tm_zret (v := 1) rfl (by decide) dX12_isParam_29 (hr1 n1 (by omega) (by omega) (by assumption))
theorem dX12_isParam_0 : decode cX12_isParam 0 = .ok (.iconst 0, 1) := by decide +kernel
theorem dX12_isParam_1 : decode cX12_isParam 1 = .ok (.istore_n 3, 1) := by decide +kernel
theorem dX12_isParam_36 : decode cX12_isParam 36 = .ok (.iconst 0, 1) := by decide +kernel
theorem dX12_isParam_37 : decode cX12_isParam 37 = .ok (.ireturn, 1) := by decide +kernel
set_option maxRecDepth 20000 in
theorem c_X12_isParam (d : Nat) {b : Nat} {σ : MS} {r : Int} {g : Int} (hr : 0 ≤ r ∧ r < 6) (hR : RG σ) (hpar : PAR σ) (h_g : -2147483648 ≤ g ∧ g ≤ 2147483647) : Tm (d + 1) m_X12_isParam 0 b σ [(0, .ref b), (1, .int (iI r)), (2, .int (iI g))] [] (fun ro σ2 => ∃ v : Int, ro = some (.int (iI v)) ∧ σ = σ2 ∧ ((v = 0 ∨ v = 1)) ∧ ((v = 1 ↔ ∃ j, 0 ≤ j ∧ j < σ.2.1 11 r ∧ σ.2.1 18 (144 * r + j) = g))) := by
  refine tm_iconst dX12_isParam_0 ?_
  refine tm_istore_n (L' := [(3, .int (iI 0)), (0, .ref b), (1, .int (iI r)), (2, .int (iI g))]) dX12_isParam_1 rfl (by decide) rfl ?_
  refine tm_sub [0, 1, 2, 3] rfl (l_isParam (d) (σ := σ) (r := r) (g := g) hr hR hpar (by omega) (fun n15 f4 => ?_) (fun i a b c => ⟨_, rfl, rfl, Or.inr rfl, fun _ => ⟨i, a, b, c⟩, fun _ => rfl⟩) _ (0) (by omega) (fun j a b => by omega) rfl)
  show Tm _ _ 36 b σ [(3, .int (iI n15)), (0, .ref b), (1, .int (iI r)), (2, .int (iI g))] [] _
  refine tm_iconst dX12_isParam_36 ?_
  exact tm_zret (v := 0) rfl (by decide) dX12_isParam_37 (⟨_, rfl, rfl, Or.inl rfl, fun h => absurd h (by decide), fun ⟨i, a, b, c⟩ => absurd c (f4 i a b)⟩)
theorem ml12_436 : Cond.methodLink RX12 436 yX12_writesTo ∈ pWW := pw9 (List.mem_of_getElem? (i := 137) rfl) rfl
theorem dX12_written_6 : decode cX12_written 6 = .ok (.iload 6, 2) := by decide +kernel
theorem dX12_written_8 : decode cX12_written 8 = .ok (.iload_n 3, 1) := by decide +kernel
theorem dX12_written_9 : decode cX12_written 9 = .ok (.if_icmp .gt 35, 3) := by decide +kernel
theorem dX12_written_12 : decode cX12_written 12 = .ok (.iload 5, 2) := by decide +kernel
theorem dX12_written_14 : decode cX12_written 14 = .ok (.aload_n 0, 1) := by decide +kernel
theorem dX12_written_15 : decode cX12_written 15 = .ok (.aload_n 0, 1) := by decide +kernel
theorem dX12_written_16 : decode cX12_written 16 = .ok (.iload_n 1, 1) := by decide +kernel
theorem dX12_written_17 : decode cX12_written 17 = .ok (.iload 6, 2) := by decide +kernel
theorem dX12_written_19 : decode cX12_written 19 = .ok (.invokevirtual 203, 3) := by decide +kernel
theorem dX12_written_22 : decode cX12_written 22 = .ok (.iload 4, 2) := by decide +kernel
theorem dX12_written_24 : decode cX12_written 24 = .ok (.invokevirtual 436, 3) := by decide +kernel
theorem dX12_written_27 : decode cX12_written 27 = .ok (.ifCond .eq 7, 3) := by decide +kernel
theorem dX12_written_34 : decode cX12_written 34 = .ok (.iconst 0, 1) := by decide +kernel
theorem dX12_written_35 : decode cX12_written 35 = .ok (.iadd, 1) := by decide +kernel
theorem dX12_written_36 : decode cX12_written 36 = .ok (.istore 5, 2) := by decide +kernel
theorem dX12_written_38 : decode cX12_written 38 = .ok (.iinc 6 1, 3) := by decide +kernel
theorem dX12_written_41 : decode cX12_written 41 = .ok (.goto (-35), 3) := by decide +kernel
theorem dX12_written_30 : decode cX12_written 30 = .ok (.iconst 1, 1) := by decide +kernel
theorem dX12_written_31 : decode cX12_written 31 = .ok (.goto 4, 3) := by decide +kernel
set_option maxRecDepth 20000 in
theorem l_written (d : Nat) {b : Nat} {σ : MS} {r : Int} {fr : Int} {to : Int} {g : Int} {post : Option Value → MS → Prop} (hr : 0 ≤ r ∧ r < 12) (hR : RG σ) (hto : -1 ≤ to ∧ to < 220) (h_g : -2147483648 ≤ g ∧ g ≤ 2147483647) (hx_44 : ∀ (n1 : Int) (k : Int) , (0 ≤ n1 ∧ n1 ≤ 221) → Tm (d + 3) m_X12_written 44 b σ [(6, .int (iI k)), (5, .int (iI n1)), (0, .ref b), (1, .int (iI r)), (2, .int (iI fr)), (3, .int (iI to)), (4, .int (iI g))] [] post) : ∀ (n : Nat) (n1 : Int) (k : Int) , (0 ≤ n1 ∧ n1 ≤ k ∧ k ≤ 221) → (221 - k).toNat = n → Tm (d + 3) m_X12_written 6 b σ [(6, .int (iI k)), (5, .int (iI n1)), (0, .ref b), (1, .int (iI r)), (2, .int (iI fr)), (3, .int (iI to)), (4, .int (iI g))] [] post := by
  intro n
  induction n using Nat.strongRecOn with
  | _ n ih =>
    intro n1 k h0 hm
    refine tm_iload dX12_written_6 0 rfl ?_
    refine tm_iload_n dX12_written_8 rfl 5 rfl ?_
    refine tm_icmp_gt (tgt := 44) dX12_written_9 (by decide) ⟨by omega, by omega⟩ ⟨by omega, by omega⟩ (fun h1 => ?_) (fun h1 => ?_)
    · exact tm_sub [0, 1, 2, 3, 4, 5, 6] rfl (hx_44 (n1) (k) (by omega))
    · refine tm_iload dX12_written_12 1 rfl ?_
      refine tm_aload_n dX12_written_14 rfl 2 rfl ?_
      refine tm_aload_n dX12_written_15 rfl 2 rfl ?_
      refine tm_iload_n dX12_written_16 rfl 3 rfl ?_
      refine tm_iload dX12_written_17 0 rfl ?_
      refine tm_callV (M := m_X12_written) (pc := 19) (ix := 203) (M' := m_X12_at) (As := [.int (iI r), .int (iI k)]) (rest := [.ref b, .int (iI n1)]) dX12_written_19 ok_X12_at im_X12_at se_X12_at ml12_203 np_X12_at rfl rfl (Nat.le_of_ble_eq_true rfl) (Nat.le_of_ble_eq_true rfl) rfl (c_X12_at (d + 1) (σ := σ) (x := r) (k := k) ) (fun r2 σ3 hp => ?_)
      obtain ⟨v4, rfl, rfl, f5⟩ := hp
      subst f5
      show Tm _ _ 22 b σ [(6, .int (iI k)), (5, .int (iI n1)), (0, .ref b), (1, .int (iI r)), (2, .int (iI fr)), (3, .int (iI to)), (4, .int (iI g))] [.int (iI (220 * r + k)), .ref b, .int (iI n1)] _
      refine tm_iload dX12_written_22 6 rfl ?_
      refine tm_callV (M := m_X12_written) (pc := 24) (ix := 436) (M' := m_X12_writesTo) (As := [.int (iI (220 * r + k)), .int (iI g)]) (rest := [.int (iI n1)]) dX12_written_24 ok_X12_writesTo im_X12_writesTo se_X12_writesTo ml12_436 np_X12_writesTo rfl rfl (Nat.le_of_ble_eq_true rfl) (Nat.le_of_ble_eq_true rfl) rfl (c_X12_writesTo (d) (σ := σ) (x := 220 * r + k) (g := g) (by omega) hR (by omega)) (fun r6 σ7 hp => ?_)
      obtain ⟨v8, rfl, rfl, f9, f10⟩ := hp
      show Tm _ _ 27 b σ [(6, .int (iI k)), (5, .int (iI n1)), (0, .ref b), (1, .int (iI r)), (2, .int (iI fr)), (3, .int (iI to)), (4, .int (iI g))] [.int (iI v8), .int (iI n1)] _
      refine tm_if_eq (tgt := 34) dX12_written_27 (by decide) ⟨by omega, by omega⟩ (fun h11 => ?_) (fun h11 => ?_)
      · refine tm_iconst dX12_written_34 ?_
        refine tm_iadd dX12_written_35 ?_
        refine tm_istore (L' := [(5, .int (iI (n1 + 0))), (6, .int (iI k)), (0, .ref b), (1, .int (iI r)), (2, .int (iI fr)), (3, .int (iI to)), (4, .int (iI g))]) dX12_written_36 (by decide) rfl ?_
        refine tm_iinc (q0 := 1) (L' := [(6, .int (iI (k + 1))), (5, .int (iI (n1 + 0))), (0, .ref b), (1, .int (iI r)), (2, .int (iI fr)), (3, .int (iI to)), (4, .int (iI g))]) dX12_written_38 rfl (by decide) rfl ?_
        refine tm_goto (tgt := 6) dX12_written_41 (by decide) ?_
        exact tm_sub [0, 1, 2, 3, 4, 5, 6] rfl (ih _ (by omega) (n1 + 0) (k + 1) (by omega) rfl)
      · refine tm_iconst dX12_written_30 ?_
        refine tm_goto (tgt := 35) dX12_written_31 (by decide) ?_
        refine tm_iadd dX12_written_35 ?_
        refine tm_istore (L' := [(5, .int (iI (n1 + 1))), (6, .int (iI k)), (0, .ref b), (1, .int (iI r)), (2, .int (iI fr)), (3, .int (iI to)), (4, .int (iI g))]) dX12_written_36 (by decide) rfl ?_
        refine tm_iinc (q0 := 1) (L' := [(6, .int (iI (k + 1))), (5, .int (iI (n1 + 1))), (0, .ref b), (1, .int (iI r)), (2, .int (iI fr)), (3, .int (iI to)), (4, .int (iI g))]) dX12_written_38 rfl (by decide) rfl ?_
        refine tm_goto (tgt := 6) dX12_written_41 (by decide) ?_
        exact tm_sub [0, 1, 2, 3, 4, 5, 6] rfl (ih _ (by omega) (n1 + 1) (k + 1) (by omega) rfl)
theorem dX12_written_0 : decode cX12_written 0 = .ok (.iconst 0, 1) := by decide +kernel
theorem dX12_written_1 : decode cX12_written 1 = .ok (.istore 5, 2) := by decide +kernel
theorem dX12_written_3 : decode cX12_written 3 = .ok (.iload_n 2, 1) := by decide +kernel
theorem dX12_written_4 : decode cX12_written 4 = .ok (.istore 6, 2) := by decide +kernel
theorem dX12_written_44 : decode cX12_written 44 = .ok (.iload 5, 2) := by decide +kernel
theorem dX12_written_46 : decode cX12_written 46 = .ok (.ireturn, 1) := by decide +kernel
set_option maxRecDepth 20000 in
theorem c_X12_written (d : Nat) {b : Nat} {σ : MS} {r : Int} {fr : Int} {to : Int} {g : Int} (hr : 0 ≤ r ∧ r < 12) (hR : RG σ) (hto : -1 ≤ to ∧ to < 220) (hfr : 0 ≤ fr ∧ fr ≤ 221) (h_g : -2147483648 ≤ g ∧ g ≤ 2147483647) : Tm (d + 3) m_X12_written 0 b σ [(0, .ref b), (1, .int (iI r)), (2, .int (iI fr)), (3, .int (iI to)), (4, .int (iI g))] [] (fun ro σ2 => ∃ v : Int, ro = some (.int (iI v)) ∧ σ = σ2 ∧ (0 ≤ v ∧ v ≤ 221)) := by
  refine tm_iconst dX12_written_0 ?_
  refine tm_istore (L' := [(5, .int (iI 0)), (0, .ref b), (1, .int (iI r)), (2, .int (iI fr)), (3, .int (iI to)), (4, .int (iI g))]) dX12_written_1 (by decide) rfl ?_
  refine tm_iload_n dX12_written_3 rfl 3 rfl ?_
  refine tm_istore (L' := [(6, .int (iI fr)), (5, .int (iI 0)), (0, .ref b), (1, .int (iI r)), (2, .int (iI fr)), (3, .int (iI to)), (4, .int (iI g))]) dX12_written_4 (by decide) rfl ?_
  refine tm_sub [0, 1, 2, 3, 4, 5, 6] rfl (l_written (d) (σ := σ) (r := r) (fr := fr) (to := to) (g := g) (by omega) hR (by omega) (by omega) (fun n16 k7 f5 => ?_) _ (0) (fr) (by omega) rfl)
  show Tm _ _ 44 b σ [(6, .int (iI k7)), (5, .int (iI n16)), (0, .ref b), (1, .int (iI r)), (2, .int (iI fr)), (3, .int (iI to)), (4, .int (iI g))] [] _
  refine tm_iload dX12_written_44 1 rfl ?_
  exact tm_iret rfl dX12_written_46 (⟨_, rfl, rfl, by omega⟩)
theorem fl12_88 : Cond.fieldLink RX12 88 (TX12 46).1 (TX12 46).2.1 (TX12 46).2.2.1 ∈ pWW := pw7 (List.mem_of_getElem? (i := 53) rfl) rfl
theorem dX12_findLabels_2 : decode cX12_findLabels 2 = .ok (.iload_n 2, 1) := by decide +kernel
theorem dX12_findLabels_3 : decode cX12_findLabels 3 = .ok (.aload_n 0, 1) := by decide +kernel
theorem dX12_findLabels_4 : decode cX12_findLabels 4 = .ok (.getfield 32, 3) := by decide +kernel
theorem dX12_findLabels_7 : decode cX12_findLabels 7 = .ok (.iload_n 1, 1) := by decide +kernel
theorem dX12_findLabels_8 : decode cX12_findLabels 8 = .ok (.iaload, 1) := by decide +kernel
theorem dX12_findLabels_9 : decode cX12_findLabels 9 = .ok (.if_icmp .ge 42, 3) := by decide +kernel
theorem dX12_findLabels_12 : decode cX12_findLabels 12 = .ok (.aload_n 0, 1) := by decide +kernel
theorem dX12_findLabels_13 : decode cX12_findLabels 13 = .ok (.getfield 13, 3) := by decide +kernel
theorem dX12_findLabels_16 : decode cX12_findLabels 16 = .ok (.aload_n 0, 1) := by decide +kernel
theorem dX12_findLabels_17 : decode cX12_findLabels 17 = .ok (.iload_n 1, 1) := by decide +kernel
theorem dX12_findLabels_18 : decode cX12_findLabels 18 = .ok (.iload_n 2, 1) := by decide +kernel
theorem dX12_findLabels_19 : decode cX12_findLabels 19 = .ok (.invokevirtual 203, 3) := by decide +kernel
theorem dX12_findLabels_22 : decode cX12_findLabels 22 = .ok (.iaload, 1) := by decide +kernel
theorem dX12_findLabels_23 : decode cX12_findLabels 23 = .ok (.bipush 13, 2) := by decide +kernel
theorem dX12_findLabels_25 : decode cX12_findLabels 25 = .ok (.if_icmp .ne 20, 3) := by decide +kernel
theorem dX12_findLabels_45 : decode cX12_findLabels 45 = .ok (.iinc 2 1, 3) := by decide +kernel
theorem dX12_findLabels_48 : decode cX12_findLabels 48 = .ok (.goto (-46), 3) := by decide +kernel
theorem dX12_findLabels_28 : decode cX12_findLabels 28 = .ok (.aload_n 0, 1) := by decide +kernel
theorem dX12_findLabels_29 : decode cX12_findLabels 29 = .ok (.getfield 88, 3) := by decide +kernel
theorem dX12_findLabels_32 : decode cX12_findLabels 32 = .ok (.aload_n 0, 1) := by decide +kernel
theorem dX12_findLabels_33 : decode cX12_findLabels 33 = .ok (.getfield 17, 3) := by decide +kernel
theorem dX12_findLabels_36 : decode cX12_findLabels 36 = .ok (.aload_n 0, 1) := by decide +kernel
theorem dX12_findLabels_37 : decode cX12_findLabels 37 = .ok (.iload_n 1, 1) := by decide +kernel
theorem dX12_findLabels_38 : decode cX12_findLabels 38 = .ok (.iload_n 2, 1) := by decide +kernel
theorem dX12_findLabels_39 : decode cX12_findLabels 39 = .ok (.invokevirtual 203, 3) := by decide +kernel
theorem dX12_findLabels_42 : decode cX12_findLabels 42 = .ok (.iaload, 1) := by decide +kernel
theorem dX12_findLabels_43 : decode cX12_findLabels 43 = .ok (.iload_n 2, 1) := by decide +kernel
theorem dX12_findLabels_44 : decode cX12_findLabels 44 = .ok (.iastore, 1) := by decide +kernel
set_option maxRecDepth 20000 in
theorem l_findLabels (d : Nat) {b : Nat} {σ0 : MS} {r : Int} {post : Option Value → MS → Prop} (hr : 0 ≤ r ∧ r < 12) (hR0 : RG σ0) (hit : ITM σ0) (hlb : LBR σ0 r) (hx_51 : ∀ (k : Int) (σ : MS) , (Fr [] [46] [] σ0 σ) → (RG σ) → (LAB σ) → (LFN σ0 σ r (σ0.2.1 9 r)) → Tm (d + 2) m_X12_findLabels 51 b σ [(2, .int (iI k)), (0, .ref b), (1, .int (iI r))] [] post) : ∀ (n : Nat) (k : Int) (σ : MS) , (Fr [] [46] [] σ0 σ) → (RG σ) → (0 ≤ k ∧ k ≤ σ0.2.1 9 r) → (LAB σ) → (LFN σ0 σ r k) → (220 - k).toNat = n → Tm (d + 2) m_X12_findLabels 2 b σ [(2, .int (iI k)), (0, .ref b), (1, .int (iI r))] [] post := by
  intro n
  induction n using Nat.strongRecOn with
  | _ n ih =>
    intro k σ hF hR h0 hl hn hm
    refine tm_iload_n dX12_findLabels_2 rfl 0 rfl ?_
    refine tm_aload_n dX12_findLabels_3 rfl 1 rfl ?_
    refine tm_get (k := 9) (v := .ref (b + 1 + 7)) lay_12 dX12_findLabels_4 (by decide) fl12_32 rfl ?_
    refine tm_iload_n dX12_findLabels_7 rfl 2 rfl ?_
    refine tm_iald (z := r) (v := σ0.2.1 9 r) dX12_findLabels_8 (show mT[7]? = some (9, 0, 13) from rfl) (by omega) (by omega) (by decide) (ra_F hF (by decide) (rfl)) ?_
    have g1 := RG.a hR0 9 (r)
    have := hit (r) (by omega) (by omega)
    refine tm_icmp_ge (tgt := 51) dX12_findLabels_9 (by decide) ⟨by omega, by omega⟩ ⟨by omega, by omega⟩ (fun h2 => ?_) (fun h2 => ?_)
    · exact tm_sub [0, 1, 2] rfl (hx_51 (k) σ (Fr.rfl.trans (Fr.sub hF (by decide) (by decide) (by decide))) hR hl (by rw [show σ0.2.1 9 r = k by omega]; exact hn))
    · refine tm_aload_n dX12_findLabels_12 rfl 1 rfl ?_
      refine tm_get (k := 3) (v := .ref (b + 1 + 1)) lay_12 dX12_findLabels_13 (by decide) fl12_13 rfl ?_
      refine tm_aload_n dX12_findLabels_16 rfl 1 rfl ?_
      refine tm_iload_n dX12_findLabels_17 rfl 2 rfl ?_
      refine tm_iload_n dX12_findLabels_18 rfl 0 rfl ?_
      refine tm_callV (M := m_X12_findLabels) (pc := 19) (ix := 203) (M' := m_X12_at) (As := [.int (iI r), .int (iI k)]) (rest := [.ref (b + 1 + 1)]) dX12_findLabels_19 ok_X12_at im_X12_at se_X12_at ml12_203 np_X12_at rfl rfl (Nat.le_of_ble_eq_true rfl) (Nat.le_of_ble_eq_true rfl) rfl (c_X12_at (d) (σ := σ) (x := r) (k := k) ) (fun r3 σ4 hp => ?_)
      obtain ⟨v5, rfl, rfl, f6⟩ := hp
      subst f6
      show Tm _ _ 22 b σ [(2, .int (iI k)), (0, .ref b), (1, .int (iI r))] [.int (iI (220 * r + k)), .ref (b + 1 + 1)] _
      refine tm_iald (z := 220 * r + k) (v := σ0.2.1 3 (220 * r + k)) dX12_findLabels_22 (show mT[1]? = some (3, 0, 2860) from rfl) (by omega) (by omega) (by decide) (ra_F hF (by decide) (rfl)) ?_
      have g7 := RG.a hR0 3 (220 * r + k)
      refine tm_bipush dX12_findLabels_23 (by decide) ?_
      refine tm_icmp_ne (tgt := 45) dX12_findLabels_25 (by decide) ⟨by omega, by omega⟩ ⟨by decide, by decide⟩ (fun h8 => ?_) (fun h8 => ?_)
      · refine tm_iinc (q0 := 0) (L' := [(2, .int (iI (k + 1))), (0, .ref b), (1, .int (iI r))]) dX12_findLabels_45 rfl (by decide) rfl ?_
        refine tm_goto (tgt := 2) dX12_findLabels_48 (by decide) ?_
        exact tm_sub [0, 1, 2] rfl (ih _ (by omega) (k + 1) σ (Fr.rfl.trans (Fr.sub hF (by decide) (by decide) (by decide))) hR (by omega) (by first | exact hl | exact hl.A (by omega)) (by first | exact hn.skip (by assumption) | exact hn.put (by omega) (by assumption)) rfl)
      · have hlk := hlb k (by omega) (by omega) (by assumption)
        refine tm_aload_n dX12_findLabels_28 rfl 1 rfl ?_
        refine tm_get (k := 46) (v := .ref (b + 1 + 24)) lay_12 dX12_findLabels_29 (by decide) fl12_88 rfl ?_
        refine tm_aload_n dX12_findLabels_32 rfl 1 rfl ?_
        refine tm_get (k := 4) (v := .ref (b + 1 + 2)) lay_12 dX12_findLabels_33 (by decide) fl12_17 rfl ?_
        refine tm_aload_n dX12_findLabels_36 rfl 1 rfl ?_
        refine tm_iload_n dX12_findLabels_37 rfl 2 rfl ?_
        refine tm_iload_n dX12_findLabels_38 rfl 0 rfl ?_
        refine tm_callV (M := m_X12_findLabels) (pc := 39) (ix := 203) (M' := m_X12_at) (As := [.int (iI r), .int (iI k)]) (rest := [.ref (b + 1 + 2), .ref (b + 1 + 24)]) dX12_findLabels_39 ok_X12_at im_X12_at se_X12_at ml12_203 np_X12_at rfl rfl (Nat.le_of_ble_eq_true rfl) (Nat.le_of_ble_eq_true rfl) rfl (c_X12_at (d) (σ := σ) (x := r) (k := k) ) (fun r9 σ10 hp => ?_)
        obtain ⟨v11, rfl, rfl, f12⟩ := hp
        subst f12
        show Tm _ _ 42 b σ [(2, .int (iI k)), (0, .ref b), (1, .int (iI r))] [.int (iI (220 * r + k)), .ref (b + 1 + 2), .ref (b + 1 + 24)] _
        refine tm_iald (z := 220 * r + k) (v := σ0.2.1 4 (220 * r + k)) dX12_findLabels_42 (show mT[2]? = some (4, 0, 2860) from rfl) (by omega) (by omega) (by decide) (ra_F hF (by decide) (rfl)) ?_
        have g13 := RG.a hR0 4 (220 * r + k)
        refine tm_iload_n dX12_findLabels_43 rfl 0 rfl ?_
        refine tm_iast (z := σ0.2.1 4 (220 * r + k)) (v := k) dX12_findLabels_44 (show mT[24]? = some (46, 0, 4096) from rfl) (by omega) (by omega) (by decide) ?_
        refine tm_iinc (q0 := 0) (L' := [(2, .int (iI (k + 1))), (0, .ref b), (1, .int (iI r))]) dX12_findLabels_45 rfl (by decide) rfl ?_
        refine tm_goto (tgt := 2) dX12_findLabels_48 (by decide) ?_
        exact tm_sub [0, 1, 2] rfl (ih _ (by omega) (k + 1) (sA 46 (σ0.2.1 4 (220 * r + k)) (k) σ) ((Fr.rfl.trans (Fr.sub hF (by decide) (by decide) (by decide))).A (by decide)) (hR.A (by omega)) (by omega) (by first | exact hl | exact hl.A (by omega)) (by first | exact hn.skip (by assumption) | exact hn.put (by omega) (by assumption)) rfl)
theorem dX12_findLabels_0 : decode cX12_findLabels 0 = .ok (.iconst 0, 1) := by decide +kernel
theorem dX12_findLabels_1 : decode cX12_findLabels 1 = .ok (.istore_n 2, 1) := by decide +kernel
theorem dX12_findLabels_51 : decode cX12_findLabels 51 = .ok (.return_, 1) := by decide +kernel
set_option maxRecDepth 20000 in
theorem c_X12_findLabels (d : Nat) {b : Nat} {σ : MS} {r : Int} (hr : 0 ≤ r ∧ r < 12) (hR : RG σ) (hit : ITM σ) (hlb : LBR σ r) (hl : LAB σ) : Tm (d + 2) m_X12_findLabels 0 b σ [(0, .ref b), (1, .int (iI r))] [] (fun ro σ2 => ro = none ∧ (Fr [] [46] [] σ σ2) ∧ (RG σ2) ∧ (LAB σ2) ∧ (LFN σ σ2 r (σ.2.1 9 r))) := by
  refine tm_iconst dX12_findLabels_0 ?_
  refine tm_istore_n (L' := [(2, .int (iI 0)), (0, .ref b), (1, .int (iI r))]) dX12_findLabels_1 rfl (by decide) rfl ?_
  refine tm_sub [0, 1, 2] rfl (l_findLabels (d) (σ0 := σ) (r := r) hr hR hit hlb (fun k7 σ8 F3 R4 f5 f6 => ?_) _ (0) σ Fr.rfl hR (by have := hit r (by omega) (by omega); omega) hl (fun j a c => by omega) rfl)
  show Tm _ _ 51 b σ8 [(2, .int (iI k7)), (0, .ref b), (1, .int (iI r))] [] _
  exact tm_vret rfl dX12_findLabels_51 (⟨rfl, (Fr.rfl.trans (Fr.sub F3 (by decide) (by decide) (by decide))), R4, f5, f6⟩)
theorem dX12_goesOn_0 : decode cX12_goesOn 0 = .ok (.aload_n 0, 1) := by decide +kernel
theorem dX12_goesOn_1 : decode cX12_goesOn 1 = .ok (.iload_n 1, 1) := by decide +kernel
theorem dX12_goesOn_2 : decode cX12_goesOn 2 = .ok (.iload_n 2, 1) := by decide +kernel
theorem dX12_goesOn_3 : decode cX12_goesOn 3 = .ok (.invokevirtual 203, 3) := by decide +kernel
theorem dX12_goesOn_6 : decode cX12_goesOn 6 = .ok (.istore 4, 2) := by decide +kernel
theorem dX12_goesOn_8 : decode cX12_goesOn 8 = .ok (.iload_n 3, 1) := by decide +kernel
theorem dX12_goesOn_9 : decode cX12_goesOn 9 = .ok (.iconst 1, 1) := by decide +kernel
theorem dX12_goesOn_10 : decode cX12_goesOn 10 = .ok (.if_icmp .ne 44, 3) := by decide +kernel
theorem dX12_goesOn_54 : decode cX12_goesOn 54 = .ok (.aload_n 0, 1) := by decide +kernel
theorem dX12_goesOn_55 : decode cX12_goesOn 55 = .ok (.getfield 13, 3) := by decide +kernel
theorem dX12_goesOn_58 : decode cX12_goesOn 58 = .ok (.iload 4, 2) := by decide +kernel
theorem dX12_goesOn_60 : decode cX12_goesOn 60 = .ok (.iaload, 1) := by decide +kernel
theorem dX12_goesOn_61 : decode cX12_goesOn 61 = .ok (.bipush 8, 2) := by decide +kernel
theorem dX12_goesOn_63 : decode cX12_goesOn 63 = .ok (.if_icmp .eq 15, 3) := by decide +kernel
theorem dX12_goesOn_78 : decode cX12_goesOn 78 = .ok (.iconst (-1), 1) := by decide +kernel
theorem dX12_goesOn_79 : decode cX12_goesOn 79 = .ok (.goto 6, 3) := by decide +kernel
theorem dX12_goesOn_85 : decode cX12_goesOn 85 = .ok (.ireturn, 1) := by decide +kernel
theorem dX12_goesOn_66 : decode cX12_goesOn 66 = .ok (.aload_n 0, 1) := by decide +kernel
theorem dX12_goesOn_67 : decode cX12_goesOn 67 = .ok (.getfield 13, 3) := by decide +kernel
theorem dX12_goesOn_70 : decode cX12_goesOn 70 = .ok (.iload 4, 2) := by decide +kernel
theorem dX12_goesOn_72 : decode cX12_goesOn 72 = .ok (.iaload, 1) := by decide +kernel
theorem dX12_goesOn_73 : decode cX12_goesOn 73 = .ok (.bipush 7, 2) := by decide +kernel
theorem dX12_goesOn_75 : decode cX12_goesOn 75 = .ok (.if_icmp .ne 7, 3) := by decide +kernel
theorem dX12_goesOn_82 : decode cX12_goesOn 82 = .ok (.iload_n 2, 1) := by decide +kernel
theorem dX12_goesOn_83 : decode cX12_goesOn 83 = .ok (.iconst 1, 1) := by decide +kernel
theorem dX12_goesOn_84 : decode cX12_goesOn 84 = .ok (.iadd, 1) := by decide +kernel
theorem dX12_goesOn_13 : decode cX12_goesOn 13 = .ok (.aload_n 0, 1) := by decide +kernel
theorem dX12_goesOn_14 : decode cX12_goesOn 14 = .ok (.getfield 13, 3) := by decide +kernel
theorem dX12_goesOn_17 : decode cX12_goesOn 17 = .ok (.iload 4, 2) := by decide +kernel
theorem dX12_goesOn_19 : decode cX12_goesOn 19 = .ok (.iaload, 1) := by decide +kernel
theorem dX12_goesOn_20 : decode cX12_goesOn 20 = .ok (.bipush 8, 2) := by decide +kernel
theorem dX12_goesOn_22 : decode cX12_goesOn 22 = .ok (.if_icmp .eq 15, 3) := by decide +kernel
theorem dX12_goesOn_37 : decode cX12_goesOn 37 = .ok (.aload_n 0, 1) := by decide +kernel
theorem dX12_goesOn_38 : decode cX12_goesOn 38 = .ok (.getfield 88, 3) := by decide +kernel
theorem dX12_goesOn_41 : decode cX12_goesOn 41 = .ok (.aload_n 0, 1) := by decide +kernel
theorem dX12_goesOn_42 : decode cX12_goesOn 42 = .ok (.getfield 17, 3) := by decide +kernel
theorem dX12_goesOn_45 : decode cX12_goesOn 45 = .ok (.iload 4, 2) := by decide +kernel
theorem dX12_goesOn_47 : decode cX12_goesOn 47 = .ok (.iaload, 1) := by decide +kernel
theorem dX12_goesOn_48 : decode cX12_goesOn 48 = .ok (.iaload, 1) := by decide +kernel
theorem dX12_goesOn_49 : decode cX12_goesOn 49 = .ok (.goto 4, 3) := by decide +kernel
theorem dX12_goesOn_53 : decode cX12_goesOn 53 = .ok (.ireturn, 1) := by decide +kernel
theorem dX12_goesOn_25 : decode cX12_goesOn 25 = .ok (.aload_n 0, 1) := by decide +kernel
theorem dX12_goesOn_26 : decode cX12_goesOn 26 = .ok (.getfield 13, 3) := by decide +kernel
theorem dX12_goesOn_29 : decode cX12_goesOn 29 = .ok (.iload 4, 2) := by decide +kernel
theorem dX12_goesOn_31 : decode cX12_goesOn 31 = .ok (.iaload, 1) := by decide +kernel
theorem dX12_goesOn_32 : decode cX12_goesOn 32 = .ok (.bipush 9, 2) := by decide +kernel
theorem dX12_goesOn_34 : decode cX12_goesOn 34 = .ok (.if_icmp .ne 18, 3) := by decide +kernel
theorem dX12_goesOn_52 : decode cX12_goesOn 52 = .ok (.iconst (-1), 1) := by decide +kernel
set_option maxRecDepth 20000 in
theorem c_X12_goesOn (d : Nat) {b : Nat} {σ : MS} {r : Int} {k : Int} {how : Int} (hr : 0 ≤ r ∧ r < 12) (hR : RG σ) (hk : 0 ≤ k ∧ k < 220) (hd : (σ.2.1 3 (220 * r + k) = 8 ∨ σ.2.1 3 (220 * r + k) = 9) → 0 ≤ σ.2.1 4 (220 * r + k) ∧ σ.2.1 4 (220 * r + k) < 4096) (h_how : -2147483648 ≤ how ∧ how ≤ 2147483647) : Tm (d + 2) m_X12_goesOn 0 b σ [(0, .ref b), (1, .int (iI r)), (2, .int (iI k)), (3, .int (iI how))] [] (fun ro σ2 => ∃ v : Int, ro = some (.int (iI v)) ∧ σ = σ2 ∧ ((how = 1 → (σ.2.1 3 (220 * r + k) = 8 ∨ σ.2.1 3 (220 * r + k) = 9) → v = σ.2.1 46 (σ.2.1 4 (220 * r + k)))) ∧ ((how = 1 → ¬ (σ.2.1 3 (220 * r + k) = 8 ∨ σ.2.1 3 (220 * r + k) = 9) → v = -1)) ∧ ((how ≠ 1 → (σ.2.1 3 (220 * r + k) = 8 ∨ σ.2.1 3 (220 * r + k) = 7) → v = -1)) ∧ ((how ≠ 1 → ¬ (σ.2.1 3 (220 * r + k) = 8 ∨ σ.2.1 3 (220 * r + k) = 7) → v = k + 1))) := by
  refine tm_aload_n dX12_goesOn_0 rfl 0 rfl ?_
  refine tm_iload_n dX12_goesOn_1 rfl 1 rfl ?_
  refine tm_iload_n dX12_goesOn_2 rfl 2 rfl ?_
  refine tm_callV (M := m_X12_goesOn) (pc := 3) (ix := 203) (M' := m_X12_at) (As := [.int (iI r), .int (iI k)]) (rest := []) dX12_goesOn_3 ok_X12_at im_X12_at se_X12_at ml12_203 np_X12_at rfl rfl (Nat.le_of_ble_eq_true rfl) (Nat.le_of_ble_eq_true rfl) rfl (c_X12_at (d) (σ := σ) (x := r) (k := k) ) (fun r1 σ2 hp => ?_)
  obtain ⟨v3, rfl, rfl, f4⟩ := hp
  subst f4
  show Tm _ _ 6 b σ [(0, .ref b), (1, .int (iI r)), (2, .int (iI k)), (3, .int (iI how))] [.int (iI (220 * r + k))] _
  refine tm_istore (L' := [(4, .int (iI (220 * r + k))), (0, .ref b), (1, .int (iI r)), (2, .int (iI k)), (3, .int (iI how))]) dX12_goesOn_6 (by decide) rfl ?_
  refine tm_iload_n dX12_goesOn_8 rfl 4 rfl ?_
  refine tm_iconst dX12_goesOn_9 ?_
  refine tm_icmp_ne (tgt := 54) dX12_goesOn_10 (by decide) ⟨by omega, by omega⟩ ⟨by decide, by decide⟩ (fun h5 => ?_) (fun h5 => ?_)
  · refine tm_aload_n dX12_goesOn_54 rfl 1 rfl ?_
    refine tm_get (k := 3) (v := .ref (b + 1 + 1)) lay_12 dX12_goesOn_55 (by decide) fl12_13 rfl ?_
    refine tm_iload dX12_goesOn_58 0 rfl ?_
    refine tm_iald (z := 220 * r + k) (v := σ.2.1 3 (220 * r + k)) dX12_goesOn_60 (show mT[1]? = some (3, 0, 2860) from rfl) (by omega) (by omega) (by decide) (rfl) ?_
    have g6 := RG.a hR 3 (220 * r + k)
    refine tm_bipush dX12_goesOn_61 (by decide) ?_
    refine tm_icmp_eq (tgt := 78) dX12_goesOn_63 (by decide) ⟨by omega, by omega⟩ ⟨by decide, by decide⟩ (fun h7 => ?_) (fun h7 => ?_)
    · refine tm_iconst dX12_goesOn_78 ?_
      refine tm_goto (tgt := 85) dX12_goesOn_79 (by decide) ?_
      exact tm_iret rfl dX12_goesOn_85 (⟨_, rfl, rfl, by omega, by omega, by omega, by omega⟩)
    · refine tm_aload_n dX12_goesOn_66 rfl 1 rfl ?_
      refine tm_get (k := 3) (v := .ref (b + 1 + 1)) lay_12 dX12_goesOn_67 (by decide) fl12_13 rfl ?_
      refine tm_iload dX12_goesOn_70 0 rfl ?_
      refine tm_iald (z := 220 * r + k) (v := σ.2.1 3 (220 * r + k)) dX12_goesOn_72 (show mT[1]? = some (3, 0, 2860) from rfl) (by omega) (by omega) (by decide) (rfl) ?_
      have g8 := RG.a hR 3 (220 * r + k)
      refine tm_bipush dX12_goesOn_73 (by decide) ?_
      refine tm_icmp_ne (tgt := 82) dX12_goesOn_75 (by decide) ⟨by omega, by omega⟩ ⟨by decide, by decide⟩ (fun h9 => ?_) (fun h9 => ?_)
      · refine tm_iload_n dX12_goesOn_82 rfl 3 rfl ?_
        refine tm_iconst dX12_goesOn_83 ?_
        refine tm_iadd dX12_goesOn_84 ?_
        exact tm_iret rfl dX12_goesOn_85 (⟨_, rfl, rfl, by omega, by omega, by omega, by omega⟩)
      · refine tm_iconst dX12_goesOn_78 ?_
        refine tm_goto (tgt := 85) dX12_goesOn_79 (by decide) ?_
        exact tm_iret rfl dX12_goesOn_85 (⟨_, rfl, rfl, by omega, by omega, by omega, by omega⟩)
  · refine tm_aload_n dX12_goesOn_13 rfl 1 rfl ?_
    refine tm_get (k := 3) (v := .ref (b + 1 + 1)) lay_12 dX12_goesOn_14 (by decide) fl12_13 rfl ?_
    refine tm_iload dX12_goesOn_17 0 rfl ?_
    refine tm_iald (z := 220 * r + k) (v := σ.2.1 3 (220 * r + k)) dX12_goesOn_19 (show mT[1]? = some (3, 0, 2860) from rfl) (by omega) (by omega) (by decide) (rfl) ?_
    have g10 := RG.a hR 3 (220 * r + k)
    refine tm_bipush dX12_goesOn_20 (by decide) ?_
    refine tm_icmp_eq (tgt := 37) dX12_goesOn_22 (by decide) ⟨by omega, by omega⟩ ⟨by decide, by decide⟩ (fun h11 => ?_) (fun h11 => ?_)
    · refine tm_aload_n dX12_goesOn_37 rfl 1 rfl ?_
      refine tm_get (k := 46) (v := .ref (b + 1 + 24)) lay_12 dX12_goesOn_38 (by decide) fl12_88 rfl ?_
      refine tm_aload_n dX12_goesOn_41 rfl 1 rfl ?_
      refine tm_get (k := 4) (v := .ref (b + 1 + 2)) lay_12 dX12_goesOn_42 (by decide) fl12_17 rfl ?_
      refine tm_iload dX12_goesOn_45 0 rfl ?_
      refine tm_iald (z := 220 * r + k) (v := σ.2.1 4 (220 * r + k)) dX12_goesOn_47 (show mT[2]? = some (4, 0, 2860) from rfl) (by omega) (by omega) (by decide) (rfl) ?_
      have g12 := RG.a hR 4 (220 * r + k)
      refine tm_iald (z := σ.2.1 4 (220 * r + k)) (v := σ.2.1 46 (σ.2.1 4 (220 * r + k))) dX12_goesOn_48 (show mT[24]? = some (46, 0, 4096) from rfl) (by omega) (by omega) (by decide) (rfl) ?_
      have g13 := RG.a hR 46 (σ.2.1 4 (220 * r + k))
      refine tm_goto (tgt := 53) dX12_goesOn_49 (by decide) ?_
      exact tm_iret rfl dX12_goesOn_53 (⟨_, rfl, rfl, by omega, by omega, by omega, by omega⟩)
    · refine tm_aload_n dX12_goesOn_25 rfl 1 rfl ?_
      refine tm_get (k := 3) (v := .ref (b + 1 + 1)) lay_12 dX12_goesOn_26 (by decide) fl12_13 rfl ?_
      refine tm_iload dX12_goesOn_29 0 rfl ?_
      refine tm_iald (z := 220 * r + k) (v := σ.2.1 3 (220 * r + k)) dX12_goesOn_31 (show mT[1]? = some (3, 0, 2860) from rfl) (by omega) (by omega) (by decide) (rfl) ?_
      have g14 := RG.a hR 3 (220 * r + k)
      refine tm_bipush dX12_goesOn_32 (by decide) ?_
      refine tm_icmp_ne (tgt := 52) dX12_goesOn_34 (by decide) ⟨by omega, by omega⟩ ⟨by decide, by decide⟩ (fun h15 => ?_) (fun h15 => ?_)
      · refine tm_iconst dX12_goesOn_52 ?_
        exact tm_iret rfl dX12_goesOn_53 (⟨_, rfl, rfl, by omega, by omega, by omega, by omega⟩)
      · refine tm_aload_n dX12_goesOn_37 rfl 1 rfl ?_
        refine tm_get (k := 46) (v := .ref (b + 1 + 24)) lay_12 dX12_goesOn_38 (by decide) fl12_88 rfl ?_
        refine tm_aload_n dX12_goesOn_41 rfl 1 rfl ?_
        refine tm_get (k := 4) (v := .ref (b + 1 + 2)) lay_12 dX12_goesOn_42 (by decide) fl12_17 rfl ?_
        refine tm_iload dX12_goesOn_45 0 rfl ?_
        refine tm_iald (z := 220 * r + k) (v := σ.2.1 4 (220 * r + k)) dX12_goesOn_47 (show mT[2]? = some (4, 0, 2860) from rfl) (by omega) (by omega) (by decide) (rfl) ?_
        have g16 := RG.a hR 4 (220 * r + k)
        refine tm_iald (z := σ.2.1 4 (220 * r + k)) (v := σ.2.1 46 (σ.2.1 4 (220 * r + k))) dX12_goesOn_48 (show mT[24]? = some (46, 0, 4096) from rfl) (by omega) (by omega) (by decide) (rfl) ?_
        have g17 := RG.a hR 46 (σ.2.1 4 (220 * r + k))
        refine tm_goto (tgt := 53) dX12_goesOn_49 (by decide) ?_
        exact tm_iret rfl dX12_goesOn_53 (⟨_, rfl, rfl, by omega, by omega, by omega, by omega⟩)
theorem dX12_labelIn_2 : decode cX12_labelIn 2 = .ok (.iload_n 3, 1) := by decide +kernel
theorem dX12_labelIn_3 : decode cX12_labelIn 3 = .ok (.aload_n 0, 1) := by decide +kernel
theorem dX12_labelIn_4 : decode cX12_labelIn 4 = .ok (.getfield 32, 3) := by decide +kernel
theorem dX12_labelIn_7 : decode cX12_labelIn 7 = .ok (.iload_n 1, 1) := by decide +kernel
theorem dX12_labelIn_8 : decode cX12_labelIn 8 = .ok (.iaload, 1) := by decide +kernel
theorem dX12_labelIn_9 : decode cX12_labelIn 9 = .ok (.if_icmp .ge 42, 3) := by decide +kernel
theorem dX12_labelIn_12 : decode cX12_labelIn 12 = .ok (.aload_n 0, 1) := by decide +kernel
theorem dX12_labelIn_13 : decode cX12_labelIn 13 = .ok (.getfield 13, 3) := by decide +kernel
theorem dX12_labelIn_16 : decode cX12_labelIn 16 = .ok (.aload_n 0, 1) := by decide +kernel
theorem dX12_labelIn_17 : decode cX12_labelIn 17 = .ok (.iload_n 1, 1) := by decide +kernel
theorem dX12_labelIn_18 : decode cX12_labelIn 18 = .ok (.iload_n 3, 1) := by decide +kernel
theorem dX12_labelIn_19 : decode cX12_labelIn 19 = .ok (.invokevirtual 203, 3) := by decide +kernel
theorem dX12_labelIn_22 : decode cX12_labelIn 22 = .ok (.iaload, 1) := by decide +kernel
theorem dX12_labelIn_23 : decode cX12_labelIn 23 = .ok (.bipush 13, 2) := by decide +kernel
theorem dX12_labelIn_25 : decode cX12_labelIn 25 = .ok (.if_icmp .ne 20, 3) := by decide +kernel
theorem dX12_labelIn_45 : decode cX12_labelIn 45 = .ok (.iinc 3 1, 3) := by decide +kernel
theorem dX12_labelIn_48 : decode cX12_labelIn 48 = .ok (.goto (-46), 3) := by decide +kernel
theorem dX12_labelIn_28 : decode cX12_labelIn 28 = .ok (.aload_n 0, 1) := by decide +kernel
theorem dX12_labelIn_29 : decode cX12_labelIn 29 = .ok (.getfield 17, 3) := by decide +kernel
theorem dX12_labelIn_32 : decode cX12_labelIn 32 = .ok (.aload_n 0, 1) := by decide +kernel
theorem dX12_labelIn_33 : decode cX12_labelIn 33 = .ok (.iload_n 1, 1) := by decide +kernel
theorem dX12_labelIn_34 : decode cX12_labelIn 34 = .ok (.iload_n 3, 1) := by decide +kernel
theorem dX12_labelIn_35 : decode cX12_labelIn 35 = .ok (.invokevirtual 203, 3) := by decide +kernel
theorem dX12_labelIn_38 : decode cX12_labelIn 38 = .ok (.iaload, 1) := by decide +kernel
theorem dX12_labelIn_39 : decode cX12_labelIn 39 = .ok (.iload_n 2, 1) := by decide +kernel
theorem dX12_labelIn_40 : decode cX12_labelIn 40 = .ok (.if_icmp .ne 5, 3) := by decide +kernel
theorem dX12_labelIn_43 : decode cX12_labelIn 43 = .ok (.iload_n 3, 1) := by decide +kernel
theorem dX12_labelIn_44 : decode cX12_labelIn 44 = .ok (.ireturn, 1) := by decide +kernel
set_option maxRecDepth 20000 in
theorem l_labelIn (d : Nat) {b : Nat} {σ : MS} {r : Int} {l : Int} {post : Option Value → MS → Prop} (hr : 0 ≤ r ∧ r < 12) (hR : RG σ) (hit : ITM σ) (h_l : -2147483648 ≤ l ∧ l ≤ 2147483647) (hx_51 : ∀ (k : Int) , (∀ j, 0 ≤ j → j < σ.2.1 9 r → ¬ (σ.2.1 3 (220 * r + j) = 13 ∧ σ.2.1 4 (220 * r + j) = l)) → Tm (d + 2) m_X12_labelIn 51 b σ [(3, .int (iI k)), (0, .ref b), (1, .int (iI r)), (2, .int (iI l))] [] post) (hr1 : ∀ j, 0 ≤ j → j < σ.2.1 9 r → σ.2.1 3 (220 * r + j) = 13 → σ.2.1 4 (220 * r + j) = l → post (some (.int (iI j))) σ) : ∀ (n : Nat) (k : Int) , (0 ≤ k ∧ k ≤ 220) → (∀ j, 0 ≤ j → j < k → ¬ (σ.2.1 3 (220 * r + j) = 13 ∧ σ.2.1 4 (220 * r + j) = l)) → (220 - k).toNat = n → Tm (d + 2) m_X12_labelIn 2 b σ [(3, .int (iI k)), (0, .ref b), (1, .int (iI r)), (2, .int (iI l))] [] post := by
  intro n
  induction n using Nat.strongRecOn with
  | _ n ih =>
    intro k h0 hj hm
    refine tm_iload_n dX12_labelIn_2 rfl 0 rfl ?_
    refine tm_aload_n dX12_labelIn_3 rfl 1 rfl ?_
    refine tm_get (k := 9) (v := .ref (b + 1 + 7)) lay_12 dX12_labelIn_4 (by decide) fl12_32 rfl ?_
    refine tm_iload_n dX12_labelIn_7 rfl 2 rfl ?_
    refine tm_iald (z := r) (v := σ.2.1 9 r) dX12_labelIn_8 (show mT[7]? = some (9, 0, 13) from rfl) (by omega) (by omega) (by decide) (rfl) ?_
    have g1 := RG.a hR 9 (r)
    have := hit (r) (by omega) (by omega)
    refine tm_icmp_ge (tgt := 51) dX12_labelIn_9 (by decide) ⟨by omega, by omega⟩ ⟨by omega, by omega⟩ (fun h2 => ?_) (fun h2 => ?_)
    · exact tm_sub [0, 1, 2, 3] rfl (hx_51 (k) (fun j a b => hj j a (by omega)))
    · refine tm_aload_n dX12_labelIn_12 rfl 1 rfl ?_
      refine tm_get (k := 3) (v := .ref (b + 1 + 1)) lay_12 dX12_labelIn_13 (by decide) fl12_13 rfl ?_
      refine tm_aload_n dX12_labelIn_16 rfl 1 rfl ?_
      refine tm_iload_n dX12_labelIn_17 rfl 2 rfl ?_
      refine tm_iload_n dX12_labelIn_18 rfl 0 rfl ?_
      refine tm_callV (M := m_X12_labelIn) (pc := 19) (ix := 203) (M' := m_X12_at) (As := [.int (iI r), .int (iI k)]) (rest := [.ref (b + 1 + 1)]) dX12_labelIn_19 ok_X12_at im_X12_at se_X12_at ml12_203 np_X12_at rfl rfl (Nat.le_of_ble_eq_true rfl) (Nat.le_of_ble_eq_true rfl) rfl (c_X12_at (d) (σ := σ) (x := r) (k := k) ) (fun r3 σ4 hp => ?_)
      obtain ⟨v5, rfl, rfl, f6⟩ := hp
      subst f6
      show Tm _ _ 22 b σ [(3, .int (iI k)), (0, .ref b), (1, .int (iI r)), (2, .int (iI l))] [.int (iI (220 * r + k)), .ref (b + 1 + 1)] _
      refine tm_iald (z := 220 * r + k) (v := σ.2.1 3 (220 * r + k)) dX12_labelIn_22 (show mT[1]? = some (3, 0, 2860) from rfl) (by omega) (by omega) (by decide) (rfl) ?_
      have g7 := RG.a hR 3 (220 * r + k)
      refine tm_bipush dX12_labelIn_23 (by decide) ?_
      refine tm_icmp_ne (tgt := 45) dX12_labelIn_25 (by decide) ⟨by omega, by omega⟩ ⟨by decide, by decide⟩ (fun h8 => ?_) (fun h8 => ?_)
      · refine tm_iinc (q0 := 0) (L' := [(3, .int (iI (k + 1))), (0, .ref b), (1, .int (iI r)), (2, .int (iI l))]) dX12_labelIn_45 rfl (by decide) rfl ?_
        refine tm_goto (tgt := 2) dX12_labelIn_48 (by decide) ?_
        exact tm_sub [0, 1, 2, 3] rfl (ih _ (by omega) (k + 1) (by omega) (fun j a b => by
          by_cases e : j = k
          · subst e; omega
          · exact hj j a (by omega)) rfl)
      · refine tm_aload_n dX12_labelIn_28 rfl 1 rfl ?_
        refine tm_get (k := 4) (v := .ref (b + 1 + 2)) lay_12 dX12_labelIn_29 (by decide) fl12_17 rfl ?_
        refine tm_aload_n dX12_labelIn_32 rfl 1 rfl ?_
        refine tm_iload_n dX12_labelIn_33 rfl 2 rfl ?_
        refine tm_iload_n dX12_labelIn_34 rfl 0 rfl ?_
        refine tm_callV (M := m_X12_labelIn) (pc := 35) (ix := 203) (M' := m_X12_at) (As := [.int (iI r), .int (iI k)]) (rest := [.ref (b + 1 + 2)]) dX12_labelIn_35 ok_X12_at im_X12_at se_X12_at ml12_203 np_X12_at rfl rfl (Nat.le_of_ble_eq_true rfl) (Nat.le_of_ble_eq_true rfl) rfl (c_X12_at (d) (σ := σ) (x := r) (k := k) ) (fun r9 σ10 hp => ?_)
        obtain ⟨v11, rfl, rfl, f12⟩ := hp
        subst f12
        show Tm _ _ 38 b σ [(3, .int (iI k)), (0, .ref b), (1, .int (iI r)), (2, .int (iI l))] [.int (iI (220 * r + k)), .ref (b + 1 + 2)] _
        refine tm_iald (z := 220 * r + k) (v := σ.2.1 4 (220 * r + k)) dX12_labelIn_38 (show mT[2]? = some (4, 0, 2860) from rfl) (by omega) (by omega) (by decide) (rfl) ?_
        have g13 := RG.a hR 4 (220 * r + k)
        refine tm_iload_n dX12_labelIn_39 rfl 3 rfl ?_
        refine tm_icmp_ne (tgt := 45) dX12_labelIn_40 (by decide) ⟨by omega, by omega⟩ ⟨by omega, by omega⟩ (fun h14 => ?_) (fun h14 => ?_)
        · refine tm_iinc (q0 := 0) (L' := [(3, .int (iI (k + 1))), (0, .ref b), (1, .int (iI r)), (2, .int (iI l))]) dX12_labelIn_45 rfl (by decide) rfl ?_
          refine tm_goto (tgt := 2) dX12_labelIn_48 (by decide) ?_
          exact tm_sub [0, 1, 2, 3] rfl (ih _ (by omega) (k + 1) (by omega) (fun j a b => by
          by_cases e : j = k
          · subst e; omega
          · exact hj j a (by omega)) rfl)
        · refine tm_iload_n dX12_labelIn_43 rfl 0 rfl ?_
          exact tm_iret rfl dX12_labelIn_44 (hr1 k (by omega) (by omega) (by assumption) (by assumption))
theorem dX12_labelIn_0 : decode cX12_labelIn 0 = .ok (.iconst 0, 1) := by decide +kernel
theorem dX12_labelIn_1 : decode cX12_labelIn 1 = .ok (.istore_n 3, 1) := by decide +kernel
theorem dX12_labelIn_51 : decode cX12_labelIn 51 = .ok (.iconst 0, 1) := by decide +kernel
theorem dX12_labelIn_52 : decode cX12_labelIn 52 = .ok (.ireturn, 1) := by decide +kernel
set_option maxRecDepth 20000 in
theorem c_X12_labelIn (d : Nat) {b : Nat} {σ : MS} {r : Int} {l : Int} (hr : 0 ≤ r ∧ r < 12) (hR : RG σ) (hit : ITM σ) (hex : ∃ j, 0 ≤ j ∧ j < σ.2.1 9 r ∧ σ.2.1 3 (220 * r + j) = 13 ∧ σ.2.1 4 (220 * r + j) = l) (h_l : -2147483648 ≤ l ∧ l ≤ 2147483647) : Tm (d + 2) m_X12_labelIn 0 b σ [(0, .ref b), (1, .int (iI r)), (2, .int (iI l))] [] (fun ro σ2 => ∃ v : Int, ro = some (.int (iI v)) ∧ σ = σ2 ∧ (0 ≤ v ∧ v < σ.2.1 9 r) ∧ (σ.2.1 3 (220 * r + v) = 13 ∧ σ.2.1 4 (220 * r + v) = l)) := by
  refine tm_iconst dX12_labelIn_0 ?_
  refine tm_istore_n (L' := [(3, .int (iI 0)), (0, .ref b), (1, .int (iI r)), (2, .int (iI l))]) dX12_labelIn_1 rfl (by decide) rfl ?_
  refine tm_sub [0, 1, 2, 3] rfl (l_labelIn (d) (σ := σ) (r := r) (l := l) hr hR hit (by omega) (fun k5 f4 => ?_) (fun j a b c e => ⟨_, rfl, rfl, ⟨a, b⟩, c, e⟩) _ (0) (by omega) (fun j a b => by omega) rfl)
  show Tm _ _ 51 b σ [(3, .int (iI k5)), (0, .ref b), (1, .int (iI r)), (2, .int (iI l))] [] _
  refine tm_iconst dX12_labelIn_51 ?_
  exact tm_iret rfl dX12_labelIn_52 (by obtain ⟨j, a, b, c, e⟩ := hex; exact absurd ⟨c, e⟩ (f4 j a b))
end
section
def JMP (σ : MS) (r : Int) : Prop := ∀ k, 0 ≤ k → k < σ.2.1 9 r → (σ.2.1 3 (220 * r + k) = 8 ∨ σ.2.1 3 (220 * r + k) = 9 ∨ σ.2.1 3 (220 * r + k) = 13) → 0 ≤ σ.2.1 4 (220 * r + k) ∧ σ.2.1 4 (220 * r + k) < 4096
theorem JMP.lbr {σ : MS} {r : Int} (h : JMP σ r) : LBR σ r := fun k a b c => h k a b (Or.inr (Or.inr c))
theorem OKS.jmp {σ : MS} {F r : Int} (h : OKS σ F r) : JMP σ r := fun k a b c => (h k a b).2.2.1 c
theorem OKS.of {σ : MS} {F r : Int} (h : OKS σ F r) {k : Int} (a : 0 ≤ k) (b : k < σ.2.1 9 r) : σ.2.1 3 (220 * r + k) = 10 → 0 ≤ σ.2.1 5 (220 * r + k) ∧ σ.2.1 5 (220 * r + k) < 6 := (h k a b).2.2.2.2.2.2.1
theorem OKS.kind {σ : MS} {F r : Int} (h : OKS σ F r) {k : Int} (a : 0 ≤ k) (b : k < σ.2.1 9 r) : 0 ≤ σ.2.1 3 (220 * r + k) ∧ σ.2.1 3 (220 * r + k) ≤ 15 := (h k a b).1
theorem OKS.dest {σ : MS} {F r : Int} (h : OKS σ F r) {k : Int} (a : 0 ≤ k) (b : k < σ.2.1 9 r) : (σ.2.1 3 (220 * r + k) ≤ 5 ∨ σ.2.1 3 (220 * r + k) = 10) → 0 ≤ σ.2.1 4 (220 * r + k) ∧ σ.2.1 4 (220 * r + k) < 192 := (h k a b).2.1
theorem OKS.arg {σ : MS} {F r : Int} (h : OKS σ F r) {k : Int} (a : 0 ≤ k) (b : k < σ.2.1 9 r) {i : Int} (c : 0 ≤ i) (e : i < 4) : (0 ≤ σ.2.1 7 (4 * (220 * r + k) + i) ∧ σ.2.1 7 (4 * (220 * r + k) + i) ≤ 2) ∧ (σ.2.1 7 (4 * (220 * r + k) + i) = 2 → (0 ≤ σ.2.1 8 (4 * (220 * r + k) + i) ∧ σ.2.1 8 (4 * (220 * r + k) + i) < 192) ∧ i < nArgs σ (220 * r + k)) := (h k a b).2.2.2.2.2.2.2.1 i c e
def RGI (σ : MS) (r m n : Int) : Prop := ∀ k, 0 ≤ k → k < n → ((σ.2.1 3 (220 * r + k) ≤ 5 ∨ σ.2.1 3 (220 * r + k) = 10) → σ.2.1 4 (220 * r + k) < m) ∧ ∀ i, 0 ≤ i → i < nArgs σ (220 * r + k) → σ.2.1 7 (4 * (220 * r + k) + i) = 2 → σ.2.1 8 (4 * (220 * r + k) + i) < m
def RGN (σ : MS) (r m F : Int) : Prop := ∀ f, 0 ≤ f → f < F → ∀ n, 0 ≤ n → n < σ.2.1 12 (σ.2.1 15 (12 * r + f)) → σ.2.1 18 (144 * r + 12 * f + n) < m
theorem RGN.up {σ : MS} {r m m2 F : Int} (h : RGN σ r m F) (hm : m ≤ m2) : RGN σ r m2 F := fun f a b n c e => Int.lt_of_lt_of_le (h f a b n c e) hm
theorem RGI.up {σ : MS} {r m m2 F : Int} (h : RGI σ r m F) (hm : m ≤ m2) : RGI σ r m2 F := fun k a b => ⟨fun c => Int.lt_of_lt_of_le ((h k a b).1 c) hm, fun i c e g => Int.lt_of_lt_of_le ((h k a b).2 i c e g) hm⟩

theorem fl12_38 : Cond.fieldLink RX12 38 (TX12 12).1 (TX12 12).2.1 (TX12 12).2.2.1 ∈ pWW := pw7 (List.mem_of_getElem? (i := 19) rfl) rfl
theorem fl12_47 : Cond.fieldLink RX12 47 (TX12 15).1 (TX12 15).2.1 (TX12 15).2.2.1 ∈ pWW := pw7 (List.mem_of_getElem? (i := 22) rfl) rfl
theorem dX12_registers_17 : decode cX12_registers 17 = .ok (.iload 4, 2) := by decide +kernel
theorem dX12_registers_19 : decode cX12_registers 19 = .ok (.aload_n 0, 1) := by decide +kernel
theorem dX12_registers_20 : decode cX12_registers 20 = .ok (.getfield 38, 3) := by decide +kernel
theorem dX12_registers_23 : decode cX12_registers 23 = .ok (.aload_n 0, 1) := by decide +kernel
theorem dX12_registers_24 : decode cX12_registers 24 = .ok (.getfield 47, 3) := by decide +kernel
theorem dX12_registers_27 : decode cX12_registers 27 = .ok (.bipush 12, 2) := by decide +kernel
theorem dX12_registers_29 : decode cX12_registers 29 = .ok (.iload_n 1, 1) := by decide +kernel
theorem dX12_registers_30 : decode cX12_registers 30 = .ok (.imul, 1) := by decide +kernel
theorem dX12_registers_31 : decode cX12_registers 31 = .ok (.iload_n 3, 1) := by decide +kernel
theorem dX12_registers_32 : decode cX12_registers 32 = .ok (.iadd, 1) := by decide +kernel
theorem dX12_registers_33 : decode cX12_registers 33 = .ok (.iaload, 1) := by decide +kernel
theorem dX12_registers_34 : decode cX12_registers 34 = .ok (.iaload, 1) := by decide +kernel
theorem dX12_registers_35 : decode cX12_registers 35 = .ok (.if_icmp .ge 44, 3) := by decide +kernel
theorem dX12_registers_38 : decode cX12_registers 38 = .ok (.aload_n 0, 1) := by decide +kernel
theorem dX12_registers_39 : decode cX12_registers 39 = .ok (.getfield 56, 3) := by decide +kernel
theorem dX12_registers_42 : decode cX12_registers 42 = .ok (.sipush 144, 3) := by decide +kernel
theorem dX12_registers_45 : decode cX12_registers 45 = .ok (.iload_n 1, 1) := by decide +kernel
theorem dX12_registers_46 : decode cX12_registers 46 = .ok (.imul, 1) := by decide +kernel
theorem dX12_registers_47 : decode cX12_registers 47 = .ok (.bipush 12, 2) := by decide +kernel
theorem dX12_registers_49 : decode cX12_registers 49 = .ok (.iload_n 3, 1) := by decide +kernel
theorem dX12_registers_50 : decode cX12_registers 50 = .ok (.imul, 1) := by decide +kernel
theorem dX12_registers_51 : decode cX12_registers 51 = .ok (.iadd, 1) := by decide +kernel
theorem dX12_registers_52 : decode cX12_registers 52 = .ok (.iload 4, 2) := by decide +kernel
theorem dX12_registers_54 : decode cX12_registers 54 = .ok (.iadd, 1) := by decide +kernel
theorem dX12_registers_55 : decode cX12_registers 55 = .ok (.iaload, 1) := by decide +kernel
theorem dX12_registers_56 : decode cX12_registers 56 = .ok (.istore 5, 2) := by decide +kernel
theorem dX12_registers_58 : decode cX12_registers 58 = .ok (.iload 5, 2) := by decide +kernel
theorem dX12_registers_60 : decode cX12_registers 60 = .ok (.iload_n 2, 1) := by decide +kernel
theorem dX12_registers_61 : decode cX12_registers 61 = .ok (.if_icmp .lt 10, 3) := by decide +kernel
theorem dX12_registers_71 : decode cX12_registers 71 = .ok (.iload_n 2, 1) := by decide +kernel
theorem dX12_registers_72 : decode cX12_registers 72 = .ok (.istore_n 2, 1) := by decide +kernel
theorem dX12_registers_73 : decode cX12_registers 73 = .ok (.iinc 4 1, 3) := by decide +kernel
theorem dX12_registers_76 : decode cX12_registers 76 = .ok (.goto (-59), 3) := by decide +kernel
theorem dX12_registers_64 : decode cX12_registers 64 = .ok (.iload 5, 2) := by decide +kernel
theorem dX12_registers_66 : decode cX12_registers 66 = .ok (.iconst 1, 1) := by decide +kernel
theorem dX12_registers_67 : decode cX12_registers 67 = .ok (.iadd, 1) := by decide +kernel
theorem dX12_registers_68 : decode cX12_registers 68 = .ok (.goto 4, 3) := by decide +kernel
set_option maxRecDepth 20000 in
theorem l_regs2 (d : Nat) {b : Nat} {σ : MS} {r : Int} {f : Int} {post : Option Value → MS → Prop} (hr : 0 ≤ r ∧ r < 6) (hR : RG σ) (hof : OKF σ r) (hnam : NAM σ) (hf : 0 ≤ f ∧ f < σ.2.1 14 r) (hx_79 : ∀ (m : Int) (n1 : Int) , (0 ≤ m ∧ m ≤ 192) → (RGN σ r m (f + 1)) → Tm (d + 1) m_X12_registers 79 b σ [(4, .int (iI n1)), (3, .int (iI f)), (2, .int (iI m)), (0, .ref b), (1, .int (iI r))] [] post) : ∀ (n : Nat) (m : Int) (n1 : Int) , (0 ≤ m ∧ m ≤ 192 ∧ 0 ≤ n1 ∧ n1 ≤ 12) → (RGN σ r m f) → (∀ j, 0 ≤ j → j < n1 → σ.2.1 18 (144 * r + 12 * f + j) < m) → (12 - n1).toNat = n → Tm (d + 1) m_X12_registers 17 b σ [(4, .int (iI n1)), (3, .int (iI f)), (2, .int (iI m)), (0, .ref b), (1, .int (iI r))] [] post := by
  intro n
  induction n using Nat.strongRecOn with
  | _ n ih =>
    intro m n1 h0 hg hj hm
    have q1 := hof.1
    have q2 := (hof.2 f (by omega) (by omega)).1
    have q3 := hnam _ q2.1 q2.2
    refine tm_iload dX12_registers_17 0 rfl ?_
    refine tm_aload_n dX12_registers_19 rfl 3 rfl ?_
    refine tm_get (k := 12) (v := .ref (b + 1 + 9)) lay_12 dX12_registers_20 (by decide) fl12_38 rfl ?_
    refine tm_aload_n dX12_registers_23 rfl 3 rfl ?_
    refine tm_get (k := 15) (v := .ref (b + 1 + 12)) lay_12 dX12_registers_24 (by decide) fl12_47 rfl ?_
    refine tm_bipush dX12_registers_27 (by decide) ?_
    refine tm_iload_n dX12_registers_29 rfl 4 rfl ?_
    refine tm_imul dX12_registers_30 ?_
    refine tm_iload_n dX12_registers_31 rfl 1 rfl ?_
    refine tm_iadd dX12_registers_32 ?_
    refine tm_iald (z := (12 * r) + f) (v := σ.2.1 15 ((12 * r) + f)) dX12_registers_33 (show mT[12]? = some (15, 0, 72) from rfl) (by omega) (by omega) (by decide) (rfl) ?_
    have g1 := RG.a hR 15 ((12 * r) + f)
    refine tm_iald (z := σ.2.1 15 ((12 * r) + f)) (v := σ.2.1 12 (σ.2.1 15 ((12 * r) + f))) dX12_registers_34 (show mT[9]? = some (12, 0, 6) from rfl) (by omega) (by omega) (by decide) (rfl) ?_
    have g2 := RG.a hR 12 (σ.2.1 15 ((12 * r) + f))
    refine tm_icmp_ge (tgt := 79) dX12_registers_35 (by decide) ⟨by omega, by omega⟩ ⟨by omega, by omega⟩ (fun h3 => ?_) (fun h3 => ?_)
    · exact tm_sub [0, 1, 2, 3, 4] rfl (hx_79 (m) (n1) (by omega) (fun g a c n e i => by
        by_cases q : g = f
        · subst q; exact hj n e (by omega)
        · exact hg g a (by omega) n e i))
    · have q4 := (hof.2 f (by omega) (by omega)).2 n1 (by omega) (by omega)
      refine tm_aload_n dX12_registers_38 rfl 3 rfl ?_
      refine tm_get (k := 18) (v := .ref (b + 1 + 15)) lay_12 dX12_registers_39 (by decide) fl12_56 rfl ?_
      refine tm_sipush dX12_registers_42 (by decide) ?_
      refine tm_iload_n dX12_registers_45 rfl 4 rfl ?_
      refine tm_imul dX12_registers_46 ?_
      refine tm_bipush dX12_registers_47 (by decide) ?_
      refine tm_iload_n dX12_registers_49 rfl 1 rfl ?_
      refine tm_imul dX12_registers_50 ?_
      refine tm_iadd dX12_registers_51 ?_
      refine tm_iload dX12_registers_52 0 rfl ?_
      refine tm_iadd dX12_registers_54 ?_
      refine tm_iald (z := ((144 * r) + (12 * f)) + n1) (v := σ.2.1 18 (((144 * r) + (12 * f)) + n1)) dX12_registers_55 (show mT[15]? = some (18, 0, 864) from rfl) (by omega) (by omega) (by decide) (rfl) ?_
      have g4 := RG.a hR 18 (((144 * r) + (12 * f)) + n1)
      refine tm_istore (L' := [(5, .int (iI (σ.2.1 18 (((144 * r) + (12 * f)) + n1)))), (4, .int (iI n1)), (3, .int (iI f)), (2, .int (iI m)), (0, .ref b), (1, .int (iI r))]) dX12_registers_56 (by decide) rfl ?_
      refine tm_iload dX12_registers_58 0 rfl ?_
      refine tm_iload_n dX12_registers_60 rfl 3 rfl ?_
      refine tm_icmp_lt (tgt := 71) dX12_registers_61 (by decide) ⟨by omega, by omega⟩ ⟨by omega, by omega⟩ (fun h5 => ?_) (fun h5 => ?_)
      · refine tm_iload_n dX12_registers_71 rfl 3 rfl ?_
        refine tm_istore_n (L' := [(2, .int (iI m)), (5, .int (iI (σ.2.1 18 (((144 * r) + (12 * f)) + n1)))), (4, .int (iI n1)), (3, .int (iI f)), (0, .ref b), (1, .int (iI r))]) dX12_registers_72 rfl (by decide) rfl ?_
        refine tm_iinc (q0 := 2) (L' := [(4, .int (iI (n1 + 1))), (2, .int (iI m)), (5, .int (iI (σ.2.1 18 (((144 * r) + (12 * f)) + n1)))), (3, .int (iI f)), (0, .ref b), (1, .int (iI r))]) dX12_registers_73 rfl (by decide) rfl ?_
        refine tm_goto (tgt := 17) dX12_registers_76 (by decide) ?_
        exact tm_sub [0, 3, 1, 4, 5] rfl (ih _ (by omega) (m) (n1 + 1) (by omega) (hg.up (by omega)) (fun j a c => by
          by_cases e : j = n1
          · subst e; omega
          · have := hj j a (by omega); omega) rfl)
      · refine tm_iload dX12_registers_64 0 rfl ?_
        refine tm_iconst dX12_registers_66 ?_
        refine tm_iadd dX12_registers_67 ?_
        refine tm_goto (tgt := 72) dX12_registers_68 (by decide) ?_
        refine tm_istore_n (L' := [(2, .int (iI ((σ.2.1 18 (((144 * r) + (12 * f)) + n1)) + 1))), (5, .int (iI (σ.2.1 18 (((144 * r) + (12 * f)) + n1)))), (4, .int (iI n1)), (3, .int (iI f)), (0, .ref b), (1, .int (iI r))]) dX12_registers_72 rfl (by decide) rfl ?_
        refine tm_iinc (q0 := 2) (L' := [(4, .int (iI (n1 + 1))), (2, .int (iI ((σ.2.1 18 (((144 * r) + (12 * f)) + n1)) + 1))), (5, .int (iI (σ.2.1 18 (((144 * r) + (12 * f)) + n1)))), (3, .int (iI f)), (0, .ref b), (1, .int (iI r))]) dX12_registers_73 rfl (by decide) rfl ?_
        refine tm_goto (tgt := 17) dX12_registers_76 (by decide) ?_
        exact tm_sub [0, 3, 1, 4, 5] rfl (ih _ (by omega) ((σ.2.1 18 (((144 * r) + (12 * f)) + n1)) + 1) (n1 + 1) (by omega) (hg.up (by omega)) (fun j a c => by
          by_cases e : j = n1
          · subst e; omega
          · have := hj j a (by omega); omega) rfl)
theorem fl12_44 : Cond.fieldLink RX12 44 (TX12 14).1 (TX12 14).2.1 (TX12 14).2.2.1 ∈ pWW := pw7 (List.mem_of_getElem? (i := 21) rfl) rfl
theorem dX12_registers_4 : decode cX12_registers 4 = .ok (.iload_n 3, 1) := by decide +kernel
theorem dX12_registers_5 : decode cX12_registers 5 = .ok (.aload_n 0, 1) := by decide +kernel
theorem dX12_registers_6 : decode cX12_registers 6 = .ok (.getfield 44, 3) := by decide +kernel
theorem dX12_registers_9 : decode cX12_registers 9 = .ok (.iload_n 1, 1) := by decide +kernel
theorem dX12_registers_10 : decode cX12_registers 10 = .ok (.iaload, 1) := by decide +kernel
theorem dX12_registers_11 : decode cX12_registers 11 = .ok (.if_icmp .ge 74, 3) := by decide +kernel
theorem dX12_registers_14 : decode cX12_registers 14 = .ok (.iconst 0, 1) := by decide +kernel
theorem dX12_registers_15 : decode cX12_registers 15 = .ok (.istore 4, 2) := by decide +kernel
theorem dX12_registers_79 : decode cX12_registers 79 = .ok (.iinc 3 1, 3) := by decide +kernel
theorem dX12_registers_82 : decode cX12_registers 82 = .ok (.goto (-78), 3) := by decide +kernel
set_option maxRecDepth 20000 in
theorem l_regs1 (d : Nat) {b : Nat} {σ : MS} {r : Int} {post : Option Value → MS → Prop} (hr : 0 ≤ r ∧ r < 6) (hR : RG σ) (hof : OKF σ r) (hnam : NAM σ) (hx_85 : ∀ (m : Int) (f : Int) , (0 ≤ m ∧ m ≤ 192) → (RGN σ r m (σ.2.1 14 r)) → Tm (d + 1) m_X12_registers 85 b σ [(3, .int (iI f)), (2, .int (iI m)), (0, .ref b), (1, .int (iI r))] [] post) : ∀ (n : Nat) (m : Int) (f : Int) , (0 ≤ m ∧ m ≤ 192 ∧ 0 ≤ f ∧ f ≤ σ.2.1 14 r) → (RGN σ r m f) → (12 - f).toNat = n → Tm (d + 1) m_X12_registers 4 b σ [(3, .int (iI f)), (2, .int (iI m)), (0, .ref b), (1, .int (iI r))] [] post := by
  intro n
  induction n using Nat.strongRecOn with
  | _ n ih =>
    intro m f h0 hg hm
    have q1 := hof.1
    refine tm_iload_n dX12_registers_4 rfl 0 rfl ?_
    refine tm_aload_n dX12_registers_5 rfl 2 rfl ?_
    refine tm_get (k := 14) (v := .ref (b + 1 + 11)) lay_12 dX12_registers_6 (by decide) fl12_44 rfl ?_
    refine tm_iload_n dX12_registers_9 rfl 3 rfl ?_
    refine tm_iald (z := r) (v := σ.2.1 14 r) dX12_registers_10 (show mT[11]? = some (14, 0, 6) from rfl) (by omega) (by omega) (by decide) (rfl) ?_
    have g1 := RG.a hR 14 (r)
    refine tm_icmp_ge (tgt := 85) dX12_registers_11 (by decide) ⟨by omega, by omega⟩ ⟨by omega, by omega⟩ (fun h2 => ?_) (fun h2 => ?_)
    · exact tm_sub [0, 1, 2, 3] rfl (hx_85 (m) (f) (by omega) (by rw [show σ.2.1 14 r = f by omega]; exact hg))
    · refine tm_iconst dX12_registers_14 ?_
      refine tm_istore (L' := [(4, .int (iI 0)), (3, .int (iI f)), (2, .int (iI m)), (0, .ref b), (1, .int (iI r))]) dX12_registers_15 (by decide) rfl ?_
      refine tm_sub [0, 1, 2, 3, 4] rfl (l_regs2 (d) (σ := σ) (r := r) (f := f) hr hR hof hnam (by omega) (fun m9 n110 f7 f8 => ?_) _ (m) (0) (by omega) hg (fun j a c => by omega) rfl)
      show Tm _ _ 79 b σ [(4, .int (iI n110)), (3, .int (iI f)), (2, .int (iI m9)), (0, .ref b), (1, .int (iI r))] [] _
      refine tm_iinc (q0 := 1) (L' := [(3, .int (iI (f + 1))), (4, .int (iI n110)), (2, .int (iI m9)), (0, .ref b), (1, .int (iI r))]) dX12_registers_79 rfl (by decide) rfl ?_
      refine tm_goto (tgt := 4) dX12_registers_82 (by decide) ?_
      exact tm_sub [0, 2, 3, 4] rfl (ih _ (by omega) (m9) (f + 1) (by omega) (by assumption) rfl)
theorem dX12_registers_146 : decode cX12_registers 146 = .ok (.iload 5, 2) := by decide +kernel
theorem dX12_registers_148 : decode cX12_registers 148 = .ok (.aload_n 0, 1) := by decide +kernel
theorem dX12_registers_149 : decode cX12_registers 149 = .ok (.iload 4, 2) := by decide +kernel
theorem dX12_registers_151 : decode cX12_registers 151 = .ok (.invokevirtual 199, 3) := by decide +kernel
theorem dX12_registers_154 : decode cX12_registers 154 = .ok (.if_icmp .ge 60, 3) := by decide +kernel
theorem dX12_registers_157 : decode cX12_registers 157 = .ok (.aload_n 0, 1) := by decide +kernel
theorem dX12_registers_158 : decode cX12_registers 158 = .ok (.getfield 26, 3) := by decide +kernel
theorem dX12_registers_161 : decode cX12_registers 161 = .ok (.iconst 4, 1) := by decide +kernel
theorem dX12_registers_162 : decode cX12_registers 162 = .ok (.iload 4, 2) := by decide +kernel
theorem dX12_registers_164 : decode cX12_registers 164 = .ok (.imul, 1) := by decide +kernel
theorem dX12_registers_165 : decode cX12_registers 165 = .ok (.iload 5, 2) := by decide +kernel
theorem dX12_registers_167 : decode cX12_registers 167 = .ok (.iadd, 1) := by decide +kernel
theorem dX12_registers_168 : decode cX12_registers 168 = .ok (.iaload, 1) := by decide +kernel
theorem dX12_registers_169 : decode cX12_registers 169 = .ok (.iconst 2, 1) := by decide +kernel
theorem dX12_registers_170 : decode cX12_registers 170 = .ok (.if_icmp .ne 36, 3) := by decide +kernel
theorem dX12_registers_206 : decode cX12_registers 206 = .ok (.iload_n 2, 1) := by decide +kernel
theorem dX12_registers_207 : decode cX12_registers 207 = .ok (.istore_n 2, 1) := by decide +kernel
theorem dX12_registers_208 : decode cX12_registers 208 = .ok (.iinc 5 1, 3) := by decide +kernel
theorem dX12_registers_211 : decode cX12_registers 211 = .ok (.goto (-65), 3) := by decide +kernel
theorem dX12_registers_173 : decode cX12_registers 173 = .ok (.aload_n 0, 1) := by decide +kernel
theorem dX12_registers_174 : decode cX12_registers 174 = .ok (.getfield 29, 3) := by decide +kernel
theorem dX12_registers_177 : decode cX12_registers 177 = .ok (.iconst 4, 1) := by decide +kernel
theorem dX12_registers_178 : decode cX12_registers 178 = .ok (.iload 4, 2) := by decide +kernel
theorem dX12_registers_180 : decode cX12_registers 180 = .ok (.imul, 1) := by decide +kernel
theorem dX12_registers_181 : decode cX12_registers 181 = .ok (.iload 5, 2) := by decide +kernel
theorem dX12_registers_183 : decode cX12_registers 183 = .ok (.iadd, 1) := by decide +kernel
theorem dX12_registers_184 : decode cX12_registers 184 = .ok (.iaload, 1) := by decide +kernel
theorem dX12_registers_185 : decode cX12_registers 185 = .ok (.iload_n 2, 1) := by decide +kernel
theorem dX12_registers_186 : decode cX12_registers 186 = .ok (.if_icmp .lt 20, 3) := by decide +kernel
theorem dX12_registers_189 : decode cX12_registers 189 = .ok (.aload_n 0, 1) := by decide +kernel
theorem dX12_registers_190 : decode cX12_registers 190 = .ok (.getfield 29, 3) := by decide +kernel
theorem dX12_registers_193 : decode cX12_registers 193 = .ok (.iconst 4, 1) := by decide +kernel
theorem dX12_registers_194 : decode cX12_registers 194 = .ok (.iload 4, 2) := by decide +kernel
theorem dX12_registers_196 : decode cX12_registers 196 = .ok (.imul, 1) := by decide +kernel
theorem dX12_registers_197 : decode cX12_registers 197 = .ok (.iload 5, 2) := by decide +kernel
theorem dX12_registers_199 : decode cX12_registers 199 = .ok (.iadd, 1) := by decide +kernel
theorem dX12_registers_200 : decode cX12_registers 200 = .ok (.iaload, 1) := by decide +kernel
theorem dX12_registers_201 : decode cX12_registers 201 = .ok (.iconst 1, 1) := by decide +kernel
theorem dX12_registers_202 : decode cX12_registers 202 = .ok (.iadd, 1) := by decide +kernel
theorem dX12_registers_203 : decode cX12_registers 203 = .ok (.goto 4, 3) := by decide +kernel
set_option maxRecDepth 20000 in
theorem l_regs4 (d : Nat) {b : Nat} {σ : MS} {r : Int} {F : Int} {k : Int} {m0 : Int} {post : Option Value → MS → Prop} (hr : 0 ≤ r ∧ r < 12) (hR : RG σ) (hit : ITM σ) (hpar : PAR σ) (hok : OKS σ F r) (hk : 0 ≤ k ∧ k < σ.2.1 9 r) (hx_214 : ∀ (m : Int) (i : Int) , (0 ≤ m ∧ m ≤ 192 ∧ m0 ≤ m) → (∀ j, 0 ≤ j → j < nArgs σ (220 * r + k) → σ.2.1 7 (4 * (220 * r + k) + j) = 2 → σ.2.1 8 (4 * (220 * r + k) + j) < m) → Tm (d + 4) m_X12_registers 214 b σ [(5, .int (iI i)), (4, .int (iI (220 * r + k))), (3, .int (iI k)), (2, .int (iI m)), (0, .ref b), (1, .int (iI r))] [] post) : ∀ (n : Nat) (m : Int) (i : Int) , (0 ≤ m ∧ m ≤ 192 ∧ m0 ≤ m ∧ 0 ≤ i ∧ i ≤ 4) → (∀ j, 0 ≤ j → j < i → σ.2.1 7 (4 * (220 * r + k) + j) = 2 → σ.2.1 8 (4 * (220 * r + k) + j) < m) → (4 - i).toNat = n → Tm (d + 4) m_X12_registers 146 b σ [(5, .int (iI i)), (4, .int (iI (220 * r + k))), (3, .int (iI k)), (2, .int (iI m)), (0, .ref b), (1, .int (iI r))] [] post := by
  intro n
  induction n using Nat.strongRecOn with
  | _ n ih =>
    intro m i h0 hj hm
    have q1 := hit r (by omega) (by omega)
    refine tm_iload dX12_registers_146 0 rfl ?_
    refine tm_aload_n dX12_registers_148 rfl 4 rfl ?_
    refine tm_iload dX12_registers_149 1 rfl ?_
    refine tm_callV (M := m_X12_registers) (pc := 151) (ix := 199) (M' := m_X12_args) (As := [.int (iI (220 * r + k))]) (rest := [.int (iI i)]) dX12_registers_151 ok_X12_args im_X12_args se_X12_args ml12_199 np_X12_args rfl rfl (Nat.le_of_ble_eq_true rfl) (Nat.le_of_ble_eq_true rfl) rfl (c_X12_args (d) (σ := σ) (x := 220 * r + k) (by omega) hR (hok.of (by omega) (by omega)) hpar) (fun r1 σ2 hp => ?_)
    obtain ⟨v3, rfl, rfl, f4, f5⟩ := hp
    show Tm _ _ 154 b σ [(5, .int (iI i)), (4, .int (iI (220 * r + k))), (3, .int (iI k)), (2, .int (iI m)), (0, .ref b), (1, .int (iI r))] [.int (iI v3), .int (iI i)] _
    refine tm_icmp_ge (tgt := 214) dX12_registers_154 (by decide) ⟨by omega, by omega⟩ ⟨by omega, by omega⟩ (fun h6 => ?_) (fun h6 => ?_)
    · exact tm_sub [0, 1, 2, 3, 4, 5] rfl (hx_214 (m) (i) (by omega) (fun j a c e => hj j a (by omega) e))
    · have q2 := hok.arg (k := k) (by omega) (by omega) (i := i) (by omega) (by omega)
      refine tm_aload_n dX12_registers_157 rfl 4 rfl ?_
      refine tm_get (k := 7) (v := .ref (b + 1 + 5)) lay_12 dX12_registers_158 (by decide) fl12_26 rfl ?_
      refine tm_iconst dX12_registers_161 ?_
      refine tm_iload dX12_registers_162 1 rfl ?_
      refine tm_imul dX12_registers_164 ?_
      refine tm_iload dX12_registers_165 0 rfl ?_
      refine tm_iadd dX12_registers_167 ?_
      refine tm_iald (z := (4 * (220 * r + k)) + i) (v := σ.2.1 7 ((4 * (220 * r + k)) + i)) dX12_registers_168 (show mT[5]? = some (7, 0, 11440) from rfl) (by omega) (by omega) (by decide) (rfl) ?_
      have g7 := RG.a hR 7 ((4 * (220 * r + k)) + i)
      refine tm_iconst dX12_registers_169 ?_
      refine tm_icmp_ne (tgt := 206) dX12_registers_170 (by decide) ⟨by omega, by omega⟩ ⟨by decide, by decide⟩ (fun h8 => ?_) (fun h8 => ?_)
      · refine tm_iload_n dX12_registers_206 rfl 3 rfl ?_
        refine tm_istore_n (L' := [(2, .int (iI m)), (5, .int (iI i)), (4, .int (iI (220 * r + k))), (3, .int (iI k)), (0, .ref b), (1, .int (iI r))]) dX12_registers_207 rfl (by decide) rfl ?_
        refine tm_iinc (q0 := 1) (L' := [(5, .int (iI (i + 1))), (2, .int (iI m)), (4, .int (iI (220 * r + k))), (3, .int (iI k)), (0, .ref b), (1, .int (iI r))]) dX12_registers_208 rfl (by decide) rfl ?_
        refine tm_goto (tgt := 146) dX12_registers_211 (by decide) ?_
        exact tm_sub [0, 2, 3, 1, 4, 5] rfl (ih _ (by omega) (m) (i + 1) (by omega) (fun j a c e => by
          by_cases q : j = i
          · subst q; omega
          · have := hj j a (by omega) e; omega) rfl)
      · refine tm_aload_n dX12_registers_173 rfl 4 rfl ?_
        refine tm_get (k := 8) (v := .ref (b + 1 + 6)) lay_12 dX12_registers_174 (by decide) fl12_29 rfl ?_
        refine tm_iconst dX12_registers_177 ?_
        refine tm_iload dX12_registers_178 1 rfl ?_
        refine tm_imul dX12_registers_180 ?_
        refine tm_iload dX12_registers_181 0 rfl ?_
        refine tm_iadd dX12_registers_183 ?_
        refine tm_iald (z := (4 * (220 * r + k)) + i) (v := σ.2.1 8 ((4 * (220 * r + k)) + i)) dX12_registers_184 (show mT[6]? = some (8, 0, 11440) from rfl) (by omega) (by omega) (by decide) (rfl) ?_
        have g9 := RG.a hR 8 ((4 * (220 * r + k)) + i)
        refine tm_iload_n dX12_registers_185 rfl 3 rfl ?_
        refine tm_icmp_lt (tgt := 206) dX12_registers_186 (by decide) ⟨by omega, by omega⟩ ⟨by omega, by omega⟩ (fun h10 => ?_) (fun h10 => ?_)
        · refine tm_iload_n dX12_registers_206 rfl 3 rfl ?_
          refine tm_istore_n (L' := [(2, .int (iI m)), (5, .int (iI i)), (4, .int (iI (220 * r + k))), (3, .int (iI k)), (0, .ref b), (1, .int (iI r))]) dX12_registers_207 rfl (by decide) rfl ?_
          refine tm_iinc (q0 := 1) (L' := [(5, .int (iI (i + 1))), (2, .int (iI m)), (4, .int (iI (220 * r + k))), (3, .int (iI k)), (0, .ref b), (1, .int (iI r))]) dX12_registers_208 rfl (by decide) rfl ?_
          refine tm_goto (tgt := 146) dX12_registers_211 (by decide) ?_
          exact tm_sub [0, 2, 3, 1, 4, 5] rfl (ih _ (by omega) (m) (i + 1) (by omega) (fun j a c e => by
          by_cases q : j = i
          · subst q; omega
          · have := hj j a (by omega) e; omega) rfl)
        · refine tm_aload_n dX12_registers_189 rfl 4 rfl ?_
          refine tm_get (k := 8) (v := .ref (b + 1 + 6)) lay_12 dX12_registers_190 (by decide) fl12_29 rfl ?_
          refine tm_iconst dX12_registers_193 ?_
          refine tm_iload dX12_registers_194 1 rfl ?_
          refine tm_imul dX12_registers_196 ?_
          refine tm_iload dX12_registers_197 0 rfl ?_
          refine tm_iadd dX12_registers_199 ?_
          refine tm_iald (z := (4 * (220 * r + k)) + i) (v := σ.2.1 8 ((4 * (220 * r + k)) + i)) dX12_registers_200 (show mT[6]? = some (8, 0, 11440) from rfl) (by omega) (by omega) (by decide) (rfl) ?_
          have g11 := RG.a hR 8 ((4 * (220 * r + k)) + i)
          refine tm_iconst dX12_registers_201 ?_
          refine tm_iadd dX12_registers_202 ?_
          refine tm_goto (tgt := 207) dX12_registers_203 (by decide) ?_
          refine tm_istore_n (L' := [(2, .int (iI ((σ.2.1 8 ((4 * (220 * r + k)) + i)) + 1))), (5, .int (iI i)), (4, .int (iI (220 * r + k))), (3, .int (iI k)), (0, .ref b), (1, .int (iI r))]) dX12_registers_207 rfl (by decide) rfl ?_
          refine tm_iinc (q0 := 1) (L' := [(5, .int (iI (i + 1))), (2, .int (iI ((σ.2.1 8 ((4 * (220 * r + k)) + i)) + 1))), (4, .int (iI (220 * r + k))), (3, .int (iI k)), (0, .ref b), (1, .int (iI r))]) dX12_registers_208 rfl (by decide) rfl ?_
          refine tm_goto (tgt := 146) dX12_registers_211 (by decide) ?_
          exact tm_sub [0, 2, 3, 1, 4, 5] rfl (ih _ (by omega) ((σ.2.1 8 ((4 * (220 * r + k)) + i)) + 1) (i + 1) (by omega) (fun j a c e => by
          by_cases q : j = i
          · subst q; omega
          · have := hj j a (by omega) e; omega) rfl)
theorem dX12_registers_87 : decode cX12_registers 87 = .ok (.iload_n 3, 1) := by decide +kernel
theorem dX12_registers_88 : decode cX12_registers 88 = .ok (.aload_n 0, 1) := by decide +kernel
theorem dX12_registers_89 : decode cX12_registers 89 = .ok (.getfield 32, 3) := by decide +kernel
theorem dX12_registers_92 : decode cX12_registers 92 = .ok (.iload_n 1, 1) := by decide +kernel
theorem dX12_registers_93 : decode cX12_registers 93 = .ok (.iaload, 1) := by decide +kernel
theorem dX12_registers_94 : decode cX12_registers 94 = .ok (.if_icmp .ge 126, 3) := by decide +kernel
theorem dX12_registers_97 : decode cX12_registers 97 = .ok (.aload_n 0, 1) := by decide +kernel
theorem dX12_registers_98 : decode cX12_registers 98 = .ok (.iload_n 1, 1) := by decide +kernel
theorem dX12_registers_99 : decode cX12_registers 99 = .ok (.iload_n 3, 1) := by decide +kernel
theorem dX12_registers_100 : decode cX12_registers 100 = .ok (.invokevirtual 203, 3) := by decide +kernel
theorem dX12_registers_103 : decode cX12_registers 103 = .ok (.istore 4, 2) := by decide +kernel
theorem dX12_registers_105 : decode cX12_registers 105 = .ok (.aload_n 0, 1) := by decide +kernel
theorem dX12_registers_106 : decode cX12_registers 106 = .ok (.getfield 13, 3) := by decide +kernel
theorem dX12_registers_109 : decode cX12_registers 109 = .ok (.iload 4, 2) := by decide +kernel
theorem dX12_registers_111 : decode cX12_registers 111 = .ok (.iaload, 1) := by decide +kernel
theorem dX12_registers_112 : decode cX12_registers 112 = .ok (.invokestatic 192, 3) := by decide +kernel
theorem dX12_registers_115 : decode cX12_registers 115 = .ok (.ifCond .eq 26, 3) := by decide +kernel
theorem dX12_registers_141 : decode cX12_registers 141 = .ok (.iload_n 2, 1) := by decide +kernel
theorem dX12_registers_142 : decode cX12_registers 142 = .ok (.istore_n 2, 1) := by decide +kernel
theorem dX12_registers_143 : decode cX12_registers 143 = .ok (.iconst 0, 1) := by decide +kernel
theorem dX12_registers_144 : decode cX12_registers 144 = .ok (.istore 5, 2) := by decide +kernel
theorem dX12_registers_214 : decode cX12_registers 214 = .ok (.iinc 3 1, 3) := by decide +kernel
theorem dX12_registers_217 : decode cX12_registers 217 = .ok (.goto (-130), 3) := by decide +kernel
theorem dX12_registers_118 : decode cX12_registers 118 = .ok (.aload_n 0, 1) := by decide +kernel
theorem dX12_registers_119 : decode cX12_registers 119 = .ok (.getfield 17, 3) := by decide +kernel
theorem dX12_registers_122 : decode cX12_registers 122 = .ok (.iload 4, 2) := by decide +kernel
theorem dX12_registers_124 : decode cX12_registers 124 = .ok (.iaload, 1) := by decide +kernel
theorem dX12_registers_125 : decode cX12_registers 125 = .ok (.iload_n 2, 1) := by decide +kernel
theorem dX12_registers_126 : decode cX12_registers 126 = .ok (.if_icmp .lt 15, 3) := by decide +kernel
theorem dX12_registers_129 : decode cX12_registers 129 = .ok (.aload_n 0, 1) := by decide +kernel
theorem dX12_registers_130 : decode cX12_registers 130 = .ok (.getfield 17, 3) := by decide +kernel
theorem dX12_registers_133 : decode cX12_registers 133 = .ok (.iload 4, 2) := by decide +kernel
theorem dX12_registers_135 : decode cX12_registers 135 = .ok (.iaload, 1) := by decide +kernel
theorem dX12_registers_136 : decode cX12_registers 136 = .ok (.iconst 1, 1) := by decide +kernel
theorem dX12_registers_137 : decode cX12_registers 137 = .ok (.iadd, 1) := by decide +kernel
theorem dX12_registers_138 : decode cX12_registers 138 = .ok (.goto 4, 3) := by decide +kernel
set_option maxRecDepth 20000 in
theorem l_regs3 (d : Nat) {b : Nat} {σ : MS} {r : Int} {F : Int} {m0 : Int} {post : Option Value → MS → Prop} (hr : 0 ≤ r ∧ r < 12) (hR : RG σ) (hit : ITM σ) (hpar : PAR σ) (hok : OKS σ F r) (hx_220 : ∀ (m : Int) (k : Int) , (0 ≤ m ∧ m ≤ 192 ∧ m0 ≤ m) → (RGI σ r m (σ.2.1 9 r)) → Tm (d + 4) m_X12_registers 220 b σ [(3, .int (iI k)), (2, .int (iI m)), (0, .ref b), (1, .int (iI r))] [] post) : ∀ (n : Nat) (m : Int) (k : Int) , (0 ≤ m ∧ m ≤ 192 ∧ m0 ≤ m ∧ 0 ≤ k ∧ k ≤ σ.2.1 9 r) → (RGI σ r m k) → (220 - k).toNat = n → Tm (d + 4) m_X12_registers 87 b σ [(3, .int (iI k)), (2, .int (iI m)), (0, .ref b), (1, .int (iI r))] [] post := by
  intro n
  induction n using Nat.strongRecOn with
  | _ n ih =>
    intro m k h0 hg hm
    have q1 := hit r (by omega) (by omega)
    refine tm_iload_n dX12_registers_87 rfl 0 rfl ?_
    refine tm_aload_n dX12_registers_88 rfl 2 rfl ?_
    refine tm_get (k := 9) (v := .ref (b + 1 + 7)) lay_12 dX12_registers_89 (by decide) fl12_32 rfl ?_
    refine tm_iload_n dX12_registers_92 rfl 3 rfl ?_
    refine tm_iald (z := r) (v := σ.2.1 9 r) dX12_registers_93 (show mT[7]? = some (9, 0, 13) from rfl) (by omega) (by omega) (by decide) (rfl) ?_
    have g1 := RG.a hR 9 (r)
    refine tm_icmp_ge (tgt := 220) dX12_registers_94 (by decide) ⟨by omega, by omega⟩ ⟨by omega, by omega⟩ (fun h2 => ?_) (fun h2 => ?_)
    · exact tm_sub [0, 1, 2, 3] rfl (hx_220 (m) (k) (by omega) (by rw [show σ.2.1 9 r = k by omega]; exact hg))
    · refine tm_aload_n dX12_registers_97 rfl 2 rfl ?_
      refine tm_iload_n dX12_registers_98 rfl 3 rfl ?_
      refine tm_iload_n dX12_registers_99 rfl 0 rfl ?_
      refine tm_callV (M := m_X12_registers) (pc := 100) (ix := 203) (M' := m_X12_at) (As := [.int (iI r), .int (iI k)]) (rest := []) dX12_registers_100 ok_X12_at im_X12_at se_X12_at ml12_203 np_X12_at rfl rfl (Nat.le_of_ble_eq_true rfl) (Nat.le_of_ble_eq_true rfl) rfl (c_X12_at (d + 2) (σ := σ) (x := r) (k := k) ) (fun r3 σ4 hp => ?_)
      obtain ⟨v5, rfl, rfl, f6⟩ := hp
      subst f6
      show Tm _ _ 103 b σ [(3, .int (iI k)), (2, .int (iI m)), (0, .ref b), (1, .int (iI r))] [.int (iI (220 * r + k))] _
      refine tm_istore (L' := [(4, .int (iI (220 * r + k))), (3, .int (iI k)), (2, .int (iI m)), (0, .ref b), (1, .int (iI r))]) dX12_registers_103 (by decide) rfl ?_
      have q2 := hok.dest (k := k) (by omega) (by omega)
      refine tm_aload_n dX12_registers_105 rfl 3 rfl ?_
      refine tm_get (k := 3) (v := .ref (b + 1 + 1)) lay_12 dX12_registers_106 (by decide) fl12_13 rfl ?_
      refine tm_iload dX12_registers_109 0 rfl ?_
      refine tm_iald (z := 220 * r + k) (v := σ.2.1 3 (220 * r + k)) dX12_registers_111 (show mT[1]? = some (3, 0, 2860) from rfl) (by omega) (by omega) (by decide) (rfl) ?_
      have g7 := RG.a hR 3 (220 * r + k)
      refine tm_callS (M := m_X12_registers) (pc := 112) (ix := 192) (M' := m_X12_writes) (As := [.int (iI (σ.2.1 3 (220 * r + k)))]) (rest := []) dX12_registers_112 ok_X12_writes stt_X12_writes ml12_192 np_X12_writes rfl (Nat.le_of_ble_eq_true rfl) (Nat.le_of_ble_eq_true rfl) rfl (c_X12_writes (d + 2) (σ := σ) (x := σ.2.1 3 (220 * r + k)) (by omega)) (fun r8 σ9 hp => ?_)
      obtain ⟨v10, rfl, rfl, f11, f12⟩ := hp
      show Tm _ _ 115 b σ [(4, .int (iI (220 * r + k))), (3, .int (iI k)), (2, .int (iI m)), (0, .ref b), (1, .int (iI r))] [.int (iI v10)] _
      refine tm_if_eq (tgt := 141) dX12_registers_115 (by decide) ⟨by omega, by omega⟩ (fun h13 => ?_) (fun h13 => ?_)
      · refine tm_iload_n dX12_registers_141 rfl 2 rfl ?_
        refine tm_istore_n (L' := [(2, .int (iI m)), (4, .int (iI (220 * r + k))), (3, .int (iI k)), (0, .ref b), (1, .int (iI r))]) dX12_registers_142 rfl (by decide) rfl ?_
        refine tm_iconst dX12_registers_143 ?_
        refine tm_istore (L' := [(5, .int (iI 0)), (2, .int (iI m)), (4, .int (iI (220 * r + k))), (3, .int (iI k)), (0, .ref b), (1, .int (iI r))]) dX12_registers_144 (by decide) rfl ?_
        refine tm_sub [0, 2, 3, 1, 4, 5] rfl (l_regs4 (d) (σ := σ) (r := r) (k := k) (F := F) (m0 := m) hr hR hit hpar hok (by omega) (fun m20 i21 f18 f19 => ?_) _ (m) (0) (by omega) (fun j a c => by omega) rfl)
        show Tm _ _ 214 b σ [(5, .int (iI i21)), (4, .int (iI (220 * r + k))), (3, .int (iI k)), (2, .int (iI m20)), (0, .ref b), (1, .int (iI r))] [] _
        refine tm_iinc (q0 := 2) (L' := [(3, .int (iI (k + 1))), (5, .int (iI i21)), (4, .int (iI (220 * r + k))), (2, .int (iI m20)), (0, .ref b), (1, .int (iI r))]) dX12_registers_214 rfl (by decide) rfl ?_
        refine tm_goto (tgt := 87) dX12_registers_217 (by decide) ?_
        exact tm_sub [0, 3, 4, 5] rfl (ih _ (by omega) (m20) (k + 1) (by omega) (fun j a c => by
          by_cases e : j = k
          · subst e; exact ⟨fun g => by omega, by assumption⟩
          · exact (hg.up (by omega)) j a (by omega)) rfl)
      · refine tm_aload_n dX12_registers_118 rfl 3 rfl ?_
        refine tm_get (k := 4) (v := .ref (b + 1 + 2)) lay_12 dX12_registers_119 (by decide) fl12_17 rfl ?_
        refine tm_iload dX12_registers_122 0 rfl ?_
        refine tm_iald (z := 220 * r + k) (v := σ.2.1 4 (220 * r + k)) dX12_registers_124 (show mT[2]? = some (4, 0, 2860) from rfl) (by omega) (by omega) (by decide) (rfl) ?_
        have g22 := RG.a hR 4 (220 * r + k)
        refine tm_iload_n dX12_registers_125 rfl 2 rfl ?_
        refine tm_icmp_lt (tgt := 141) dX12_registers_126 (by decide) ⟨by omega, by omega⟩ ⟨by omega, by omega⟩ (fun h23 => ?_) (fun h23 => ?_)
        · refine tm_iload_n dX12_registers_141 rfl 2 rfl ?_
          refine tm_istore_n (L' := [(2, .int (iI m)), (4, .int (iI (220 * r + k))), (3, .int (iI k)), (0, .ref b), (1, .int (iI r))]) dX12_registers_142 rfl (by decide) rfl ?_
          refine tm_iconst dX12_registers_143 ?_
          refine tm_istore (L' := [(5, .int (iI 0)), (2, .int (iI m)), (4, .int (iI (220 * r + k))), (3, .int (iI k)), (0, .ref b), (1, .int (iI r))]) dX12_registers_144 (by decide) rfl ?_
          refine tm_sub [0, 2, 3, 1, 4, 5] rfl (l_regs4 (d) (σ := σ) (r := r) (k := k) (F := F) (m0 := m) hr hR hit hpar hok (by omega) (fun m30 i31 f28 f29 => ?_) _ (m) (0) (by omega) (fun j a c => by omega) rfl)
          show Tm _ _ 214 b σ [(5, .int (iI i31)), (4, .int (iI (220 * r + k))), (3, .int (iI k)), (2, .int (iI m30)), (0, .ref b), (1, .int (iI r))] [] _
          refine tm_iinc (q0 := 2) (L' := [(3, .int (iI (k + 1))), (5, .int (iI i31)), (4, .int (iI (220 * r + k))), (2, .int (iI m30)), (0, .ref b), (1, .int (iI r))]) dX12_registers_214 rfl (by decide) rfl ?_
          refine tm_goto (tgt := 87) dX12_registers_217 (by decide) ?_
          exact tm_sub [0, 3, 4, 5] rfl (ih _ (by omega) (m30) (k + 1) (by omega) (fun j a c => by
          by_cases e : j = k
          · subst e; exact ⟨fun g => by omega, by assumption⟩
          · exact (hg.up (by omega)) j a (by omega)) rfl)
        · refine tm_aload_n dX12_registers_129 rfl 3 rfl ?_
          refine tm_get (k := 4) (v := .ref (b + 1 + 2)) lay_12 dX12_registers_130 (by decide) fl12_17 rfl ?_
          refine tm_iload dX12_registers_133 0 rfl ?_
          refine tm_iald (z := 220 * r + k) (v := σ.2.1 4 (220 * r + k)) dX12_registers_135 (show mT[2]? = some (4, 0, 2860) from rfl) (by omega) (by omega) (by decide) (rfl) ?_
          have g32 := RG.a hR 4 (220 * r + k)
          refine tm_iconst dX12_registers_136 ?_
          refine tm_iadd dX12_registers_137 ?_
          refine tm_goto (tgt := 142) dX12_registers_138 (by decide) ?_
          refine tm_istore_n (L' := [(2, .int (iI ((σ.2.1 4 (220 * r + k)) + 1))), (4, .int (iI (220 * r + k))), (3, .int (iI k)), (0, .ref b), (1, .int (iI r))]) dX12_registers_142 rfl (by decide) rfl ?_
          refine tm_iconst dX12_registers_143 ?_
          refine tm_istore (L' := [(5, .int (iI 0)), (2, .int (iI ((σ.2.1 4 (220 * r + k)) + 1))), (4, .int (iI (220 * r + k))), (3, .int (iI k)), (0, .ref b), (1, .int (iI r))]) dX12_registers_144 (by decide) rfl ?_
          refine tm_sub [0, 2, 3, 1, 4, 5] rfl (l_regs4 (d) (σ := σ) (r := r) (k := k) (F := F) (m0 := (σ.2.1 4 (220 * r + k)) + 1) hr hR hit hpar hok (by omega) (fun m39 i40 f37 f38 => ?_) _ ((σ.2.1 4 (220 * r + k)) + 1) (0) (by omega) (fun j a c => by omega) rfl)
          show Tm _ _ 214 b σ [(5, .int (iI i40)), (4, .int (iI (220 * r + k))), (3, .int (iI k)), (2, .int (iI m39)), (0, .ref b), (1, .int (iI r))] [] _
          refine tm_iinc (q0 := 2) (L' := [(3, .int (iI (k + 1))), (5, .int (iI i40)), (4, .int (iI (220 * r + k))), (2, .int (iI m39)), (0, .ref b), (1, .int (iI r))]) dX12_registers_214 rfl (by decide) rfl ?_
          refine tm_goto (tgt := 87) dX12_registers_217 (by decide) ?_
          exact tm_sub [0, 3, 4, 5] rfl (ih _ (by omega) (m39) (k + 1) (by omega) (fun j a c => by
          by_cases e : j = k
          · subst e; exact ⟨fun g => by omega, by assumption⟩
          · exact (hg.up (by omega)) j a (by omega)) rfl)
theorem dX12_registers_0 : decode cX12_registers 0 = .ok (.iconst 0, 1) := by decide +kernel
theorem dX12_registers_1 : decode cX12_registers 1 = .ok (.istore_n 2, 1) := by decide +kernel
theorem dX12_registers_2 : decode cX12_registers 2 = .ok (.iconst 0, 1) := by decide +kernel
theorem dX12_registers_3 : decode cX12_registers 3 = .ok (.istore_n 3, 1) := by decide +kernel
theorem dX12_registers_85 : decode cX12_registers 85 = .ok (.iconst 0, 1) := by decide +kernel
theorem dX12_registers_86 : decode cX12_registers 86 = .ok (.istore_n 3, 1) := by decide +kernel
theorem dX12_registers_220 : decode cX12_registers 220 = .ok (.iload_n 2, 1) := by decide +kernel
theorem dX12_registers_221 : decode cX12_registers 221 = .ok (.ireturn, 1) := by decide +kernel
set_option maxRecDepth 20000 in
theorem c_X12_registers (d : Nat) {b : Nat} {σ : MS} {r : Int} {F : Int} (hr : 0 ≤ r ∧ r < 6) (hR : RG σ) (hof : OKF σ r) (hnam : NAM σ) (hit : ITM σ) (hpar : PAR σ) (hok : OKS σ F r) : Tm (d + 4) m_X12_registers 0 b σ [(0, .ref b), (1, .int (iI r))] [] (fun ro σ2 => ∃ v : Int, ro = some (.int (iI v)) ∧ σ = σ2 ∧ (0 ≤ v ∧ v ≤ 192) ∧ (RGN σ r v (σ.2.1 14 r)) ∧ (RGI σ r v (σ.2.1 9 r))) := by
  refine tm_iconst dX12_registers_0 ?_
  refine tm_istore_n (L' := [(2, .int (iI 0)), (0, .ref b), (1, .int (iI r))]) dX12_registers_1 rfl (by decide) rfl ?_
  refine tm_iconst dX12_registers_2 ?_
  refine tm_istore_n (L' := [(3, .int (iI 0)), (2, .int (iI 0)), (0, .ref b), (1, .int (iI r))]) dX12_registers_3 rfl (by decide) rfl ?_
  refine tm_sub [0, 1, 2, 3] rfl (l_regs1 (d + 3) (σ := σ) (r := r) hr hR hof hnam (fun m7 f8 f5 f6 => ?_) _ (0) (0) (by have := hof.1; omega) (fun g a c => by omega) rfl)
  show Tm _ _ 85 b σ [(3, .int (iI f8)), (2, .int (iI m7)), (0, .ref b), (1, .int (iI r))] [] _
  refine tm_iconst dX12_registers_85 ?_
  refine tm_istore_n (L' := [(3, .int (iI 0)), (2, .int (iI m7)), (0, .ref b), (1, .int (iI r))]) dX12_registers_86 rfl (by decide) rfl ?_
  refine tm_sub [0, 1, 2, 3] rfl (l_regs3 (d) (σ := σ) (r := r) (F := F) (m0 := m7) (by omega) hR hit hpar hok (fun m15 k16 f13 f14 => ?_) _ (m7) (0) (by have := hit r (by omega) (by omega); omega) (fun g a c => by omega) rfl)
  show Tm _ _ 220 b σ [(3, .int (iI k16)), (2, .int (iI m15)), (0, .ref b), (1, .int (iI r))] [] _
  refine tm_iload_n dX12_registers_220 rfl 1 rfl ?_
  exact tm_iret rfl dX12_registers_221 (⟨_, rfl, rfl, by omega, RGN.up (by assumption) (by omega), by assumption⟩)
end
section
theorem dX12_labels_4 : decode cX12_labels 4 = .ok (.iload_n 3, 1) := by decide +kernel
theorem dX12_labels_5 : decode cX12_labels 5 = .ok (.aload_n 0, 1) := by decide +kernel
theorem dX12_labels_6 : decode cX12_labels 6 = .ok (.getfield 32, 3) := by decide +kernel
theorem dX12_labels_9 : decode cX12_labels 9 = .ok (.iload_n 1, 1) := by decide +kernel
theorem dX12_labels_10 : decode cX12_labels 10 = .ok (.iaload, 1) := by decide +kernel
theorem dX12_labels_11 : decode cX12_labels 11 = .ok (.if_icmp .ge 90, 3) := by decide +kernel
theorem dX12_labels_14 : decode cX12_labels 14 = .ok (.aload_n 0, 1) := by decide +kernel
theorem dX12_labels_15 : decode cX12_labels 15 = .ok (.iload_n 1, 1) := by decide +kernel
theorem dX12_labels_16 : decode cX12_labels 16 = .ok (.iload_n 3, 1) := by decide +kernel
theorem dX12_labels_17 : decode cX12_labels 17 = .ok (.invokevirtual 203, 3) := by decide +kernel
theorem dX12_labels_20 : decode cX12_labels 20 = .ok (.istore 4, 2) := by decide +kernel
theorem dX12_labels_22 : decode cX12_labels 22 = .ok (.aload_n 0, 1) := by decide +kernel
theorem dX12_labels_23 : decode cX12_labels 23 = .ok (.getfield 13, 3) := by decide +kernel
theorem dX12_labels_26 : decode cX12_labels 26 = .ok (.iload 4, 2) := by decide +kernel
theorem dX12_labels_28 : decode cX12_labels 28 = .ok (.iaload, 1) := by decide +kernel
theorem dX12_labels_29 : decode cX12_labels 29 = .ok (.bipush 13, 2) := by decide +kernel
theorem dX12_labels_31 : decode cX12_labels 31 = .ok (.if_icmp .eq 27, 3) := by decide +kernel
theorem dX12_labels_58 : decode cX12_labels 58 = .ok (.iconst 1, 1) := by decide +kernel
theorem dX12_labels_59 : decode cX12_labels 59 = .ok (.goto 4, 3) := by decide +kernel
theorem dX12_labels_63 : decode cX12_labels 63 = .ok (.istore 5, 2) := by decide +kernel
theorem dX12_labels_65 : decode cX12_labels 65 = .ok (.iload 5, 2) := by decide +kernel
theorem dX12_labels_67 : decode cX12_labels 67 = .ok (.ifCond .eq 26, 3) := by decide +kernel
theorem dX12_labels_70 : decode cX12_labels 70 = .ok (.aload_n 0, 1) := by decide +kernel
theorem dX12_labels_71 : decode cX12_labels 71 = .ok (.getfield 17, 3) := by decide +kernel
theorem dX12_labels_74 : decode cX12_labels 74 = .ok (.iload 4, 2) := by decide +kernel
theorem dX12_labels_76 : decode cX12_labels 76 = .ok (.iaload, 1) := by decide +kernel
theorem dX12_labels_77 : decode cX12_labels 77 = .ok (.iload_n 2, 1) := by decide +kernel
theorem dX12_labels_78 : decode cX12_labels 78 = .ok (.if_icmp .lt 15, 3) := by decide +kernel
theorem dX12_labels_93 : decode cX12_labels 93 = .ok (.iload_n 2, 1) := by decide +kernel
theorem dX12_labels_94 : decode cX12_labels 94 = .ok (.istore_n 2, 1) := by decide +kernel
theorem dX12_labels_95 : decode cX12_labels 95 = .ok (.iinc 3 1, 3) := by decide +kernel
theorem dX12_labels_98 : decode cX12_labels 98 = .ok (.goto (-94), 3) := by decide +kernel
theorem dX12_labels_81 : decode cX12_labels 81 = .ok (.aload_n 0, 1) := by decide +kernel
theorem dX12_labels_82 : decode cX12_labels 82 = .ok (.getfield 17, 3) := by decide +kernel
theorem dX12_labels_85 : decode cX12_labels 85 = .ok (.iload 4, 2) := by decide +kernel
theorem dX12_labels_87 : decode cX12_labels 87 = .ok (.iaload, 1) := by decide +kernel
theorem dX12_labels_88 : decode cX12_labels 88 = .ok (.iconst 1, 1) := by decide +kernel
theorem dX12_labels_89 : decode cX12_labels 89 = .ok (.iadd, 1) := by decide +kernel
theorem dX12_labels_90 : decode cX12_labels 90 = .ok (.goto 4, 3) := by decide +kernel
theorem dX12_labels_34 : decode cX12_labels 34 = .ok (.aload_n 0, 1) := by decide +kernel
theorem dX12_labels_35 : decode cX12_labels 35 = .ok (.getfield 13, 3) := by decide +kernel
theorem dX12_labels_38 : decode cX12_labels 38 = .ok (.iload 4, 2) := by decide +kernel
theorem dX12_labels_40 : decode cX12_labels 40 = .ok (.iaload, 1) := by decide +kernel
theorem dX12_labels_41 : decode cX12_labels 41 = .ok (.bipush 8, 2) := by decide +kernel
theorem dX12_labels_43 : decode cX12_labels 43 = .ok (.if_icmp .eq 15, 3) := by decide +kernel
theorem dX12_labels_46 : decode cX12_labels 46 = .ok (.aload_n 0, 1) := by decide +kernel
theorem dX12_labels_47 : decode cX12_labels 47 = .ok (.getfield 13, 3) := by decide +kernel
theorem dX12_labels_50 : decode cX12_labels 50 = .ok (.iload 4, 2) := by decide +kernel
theorem dX12_labels_52 : decode cX12_labels 52 = .ok (.iaload, 1) := by decide +kernel
theorem dX12_labels_53 : decode cX12_labels 53 = .ok (.bipush 9, 2) := by decide +kernel
theorem dX12_labels_55 : decode cX12_labels 55 = .ok (.if_icmp .ne 7, 3) := by decide +kernel
theorem dX12_labels_62 : decode cX12_labels 62 = .ok (.iconst 0, 1) := by decide +kernel
theorem dX12_labels_0 : decode cX12_labels 0 = .ok (.iconst 0, 1) := by decide +kernel
theorem dX12_labels_1 : decode cX12_labels 1 = .ok (.istore_n 2, 1) := by decide +kernel
theorem dX12_labels_2 : decode cX12_labels 2 = .ok (.iconst 0, 1) := by decide +kernel
theorem dX12_labels_3 : decode cX12_labels 3 = .ok (.istore_n 3, 1) := by decide +kernel
theorem dX12_labels_101 : decode cX12_labels 101 = .ok (.iload_n 2, 1) := by decide +kernel
theorem dX12_labels_102 : decode cX12_labels 102 = .ok (.ireturn, 1) := by decide +kernel
theorem dX12_isName__15 : decode cX12_isName_ 15 = .ok (.iload 4, 2) := by decide +kernel
theorem dX12_isName__17 : decode cX12_isName_ 17 = .ok (.aload_n 0, 1) := by decide +kernel
theorem dX12_isName__18 : decode cX12_isName_ 18 = .ok (.getfield 38, 3) := by decide +kernel
theorem dX12_isName__21 : decode cX12_isName_ 21 = .ok (.aload_n 0, 1) := by decide +kernel
theorem dX12_isName__22 : decode cX12_isName_ 22 = .ok (.getfield 47, 3) := by decide +kernel
theorem dX12_isName__25 : decode cX12_isName_ 25 = .ok (.bipush 12, 2) := by decide +kernel
theorem dX12_isName__27 : decode cX12_isName_ 27 = .ok (.iload_n 1, 1) := by decide +kernel
theorem dX12_isName__28 : decode cX12_isName_ 28 = .ok (.imul, 1) := by decide +kernel
theorem dX12_isName__29 : decode cX12_isName_ 29 = .ok (.iload_n 3, 1) := by decide +kernel
theorem dX12_isName__30 : decode cX12_isName_ 30 = .ok (.iadd, 1) := by decide +kernel
theorem dX12_isName__31 : decode cX12_isName_ 31 = .ok (.iaload, 1) := by decide +kernel
theorem dX12_isName__32 : decode cX12_isName_ 32 = .ok (.iaload, 1) := by decide +kernel
theorem dX12_isName__33 : decode cX12_isName_ 33 = .ok (.if_icmp .ge 33, 3) := by decide +kernel
theorem dX12_isName__36 : decode cX12_isName_ 36 = .ok (.aload_n 0, 1) := by decide +kernel
theorem dX12_isName__37 : decode cX12_isName_ 37 = .ok (.getfield 56, 3) := by decide +kernel
theorem dX12_isName__40 : decode cX12_isName_ 40 = .ok (.sipush 144, 3) := by decide +kernel
theorem dX12_isName__43 : decode cX12_isName_ 43 = .ok (.iload_n 1, 1) := by decide +kernel
theorem dX12_isName__44 : decode cX12_isName_ 44 = .ok (.imul, 1) := by decide +kernel
theorem dX12_isName__45 : decode cX12_isName_ 45 = .ok (.bipush 12, 2) := by decide +kernel
theorem dX12_isName__47 : decode cX12_isName_ 47 = .ok (.iload_n 3, 1) := by decide +kernel
theorem dX12_isName__48 : decode cX12_isName_ 48 = .ok (.imul, 1) := by decide +kernel
theorem dX12_isName__49 : decode cX12_isName_ 49 = .ok (.iadd, 1) := by decide +kernel
theorem dX12_isName__50 : decode cX12_isName_ 50 = .ok (.iload 4, 2) := by decide +kernel
theorem dX12_isName__52 : decode cX12_isName_ 52 = .ok (.iadd, 1) := by decide +kernel
theorem dX12_isName__53 : decode cX12_isName_ 53 = .ok (.iaload, 1) := by decide +kernel
theorem dX12_isName__54 : decode cX12_isName_ 54 = .ok (.iload_n 2, 1) := by decide +kernel
theorem dX12_isName__55 : decode cX12_isName_ 55 = .ok (.if_icmp .ne 5, 3) := by decide +kernel
theorem dX12_isName__60 : decode cX12_isName_ 60 = .ok (.iinc 4 1, 3) := by decide +kernel
theorem dX12_isName__63 : decode cX12_isName_ 63 = .ok (.goto (-48), 3) := by decide +kernel
theorem dX12_isName__58 : decode cX12_isName_ 58 = .ok (.iconst 1, 1) := by decide +kernel
theorem dX12_isName__59 : decode cX12_isName_ 59 = .ok (.ireturn, 1) := by decide +kernel
set_option maxRecDepth 20000 in
theorem l_isNm2 (d : Nat) {b : Nat} {σ : MS} {r : Int} {g : Int} {f : Int} {post : Option Value → MS → Prop} (hr : 0 ≤ r ∧ r < 6) (hR : RG σ) (hof : OKF σ r) (hnam : NAM σ) (h_g : -2147483648 ≤ g ∧ g ≤ 2147483647) (hf : 0 ≤ f ∧ f < σ.2.1 14 r) (hx_66 : ∀ (n1 : Int) , Tm (d + 1) m_X12_isName_ 66 b σ [(4, .int (iI n1)), (3, .int (iI f)), (0, .ref b), (1, .int (iI r)), (2, .int (iI g))] [] post) (hr1 : post (some (.int (iI 1))) σ) : ∀ (n : Nat) (n1 : Int) , (0 ≤ n1 ∧ n1 ≤ 12) → (12 - n1).toNat = n → Tm (d + 1) m_X12_isName_ 15 b σ [(4, .int (iI n1)), (3, .int (iI f)), (0, .ref b), (1, .int (iI r)), (2, .int (iI g))] [] post := by
  intro n
  induction n using Nat.strongRecOn with
  | _ n ih =>
    intro n1 h0 hm
    have q1 := hof.1
    have q2 := (hof.2 f (by omega) (by omega)).1
    have q3 := hnam _ q2.1 q2.2
    refine tm_iload dX12_isName__15 0 rfl ?_
    refine tm_aload_n dX12_isName__17 rfl 2 rfl ?_
    refine tm_get (k := 12) (v := .ref (b + 1 + 9)) lay_12 dX12_isName__18 (by decide) fl12_38 rfl ?_
    refine tm_aload_n dX12_isName__21 rfl 2 rfl ?_
    refine tm_get (k := 15) (v := .ref (b + 1 + 12)) lay_12 dX12_isName__22 (by decide) fl12_47 rfl ?_
    refine tm_bipush dX12_isName__25 (by decide) ?_
    refine tm_iload_n dX12_isName__27 rfl 3 rfl ?_
    refine tm_imul dX12_isName__28 ?_
    refine tm_iload_n dX12_isName__29 rfl 1 rfl ?_
    refine tm_iadd dX12_isName__30 ?_
    refine tm_iald (z := (12 * r) + f) (v := σ.2.1 15 ((12 * r) + f)) dX12_isName__31 (show mT[12]? = some (15, 0, 72) from rfl) (by omega) (by omega) (by decide) (rfl) ?_
    have g1 := RG.a hR 15 ((12 * r) + f)
    refine tm_iald (z := σ.2.1 15 ((12 * r) + f)) (v := σ.2.1 12 (σ.2.1 15 ((12 * r) + f))) dX12_isName__32 (show mT[9]? = some (12, 0, 6) from rfl) (by omega) (by omega) (by decide) (rfl) ?_
    have g2 := RG.a hR 12 (σ.2.1 15 ((12 * r) + f))
    refine tm_icmp_ge (tgt := 66) dX12_isName__33 (by decide) ⟨by omega, by omega⟩ ⟨by omega, by omega⟩ (fun h3 => ?_) (fun h3 => ?_)
    · exact tm_sub [0, 1, 2, 3, 4] rfl (hx_66 (n1) )
    · have q4 := (hof.2 f (by omega) (by omega)).2 n1 (by omega) (by omega)
      refine tm_aload_n dX12_isName__36 rfl 2 rfl ?_
      refine tm_get (k := 18) (v := .ref (b + 1 + 15)) lay_12 dX12_isName__37 (by decide) fl12_56 rfl ?_
      refine tm_sipush dX12_isName__40 (by decide) ?_
      refine tm_iload_n dX12_isName__43 rfl 3 rfl ?_
      refine tm_imul dX12_isName__44 ?_
      refine tm_bipush dX12_isName__45 (by decide) ?_
      refine tm_iload_n dX12_isName__47 rfl 1 rfl ?_
      refine tm_imul dX12_isName__48 ?_
      refine tm_iadd dX12_isName__49 ?_
      refine tm_iload dX12_isName__50 0 rfl ?_
      refine tm_iadd dX12_isName__52 ?_
      refine tm_iald (z := ((144 * r) + (12 * f)) + n1) (v := σ.2.1 18 (((144 * r) + (12 * f)) + n1)) dX12_isName__53 (show mT[15]? = some (18, 0, 864) from rfl) (by omega) (by omega) (by decide) (rfl) ?_
      have g4 := RG.a hR 18 (((144 * r) + (12 * f)) + n1)
      refine tm_iload_n dX12_isName__54 rfl 4 rfl ?_
      refine tm_icmp_ne (tgt := 60) dX12_isName__55 (by decide) ⟨by omega, by omega⟩ ⟨by omega, by omega⟩ (fun h5 => ?_) (fun h5 => ?_)
      · refine tm_iinc (q0 := 0) (L' := [(4, .int (iI (n1 + 1))), (3, .int (iI f)), (0, .ref b), (1, .int (iI r)), (2, .int (iI g))]) dX12_isName__60 rfl (by decide) rfl ?_
        refine tm_goto (tgt := 15) dX12_isName__63 (by decide) ?_
        exact tm_sub [0, 1, 2, 3, 4] rfl (ih _ (by omega) (n1 + 1) (by omega) rfl)
      · refine tm_iconst dX12_isName__58 ?_
        exact tm_zret (v := 1) rfl (by decide) dX12_isName__59 (hr1)
theorem dX12_isName__2 : decode cX12_isName_ 2 = .ok (.iload_n 3, 1) := by decide +kernel
theorem dX12_isName__3 : decode cX12_isName_ 3 = .ok (.aload_n 0, 1) := by decide +kernel
theorem dX12_isName__4 : decode cX12_isName_ 4 = .ok (.getfield 44, 3) := by decide +kernel
theorem dX12_isName__7 : decode cX12_isName_ 7 = .ok (.iload_n 1, 1) := by decide +kernel
theorem dX12_isName__8 : decode cX12_isName_ 8 = .ok (.iaload, 1) := by decide +kernel
theorem dX12_isName__9 : decode cX12_isName_ 9 = .ok (.if_icmp .ge 63, 3) := by decide +kernel
theorem dX12_isName__12 : decode cX12_isName_ 12 = .ok (.iconst 0, 1) := by decide +kernel
theorem dX12_isName__13 : decode cX12_isName_ 13 = .ok (.istore 4, 2) := by decide +kernel
theorem dX12_isName__66 : decode cX12_isName_ 66 = .ok (.iinc 3 1, 3) := by decide +kernel
theorem dX12_isName__69 : decode cX12_isName_ 69 = .ok (.goto (-67), 3) := by decide +kernel
set_option maxRecDepth 20000 in
theorem l_isNm1 (d : Nat) {b : Nat} {σ : MS} {r : Int} {g : Int} {post : Option Value → MS → Prop} (hr : 0 ≤ r ∧ r < 6) (hR : RG σ) (hof : OKF σ r) (hnam : NAM σ) (h_g : -2147483648 ≤ g ∧ g ≤ 2147483647) (hx_72 : ∀ (f : Int) , Tm (d + 1) m_X12_isName_ 72 b σ [(3, .int (iI f)), (0, .ref b), (1, .int (iI r)), (2, .int (iI g))] [] post) (hr1 : post (some (.int (iI 1))) σ) : ∀ (n : Nat) (f : Int) , (0 ≤ f ∧ f ≤ σ.2.1 14 r) → (12 - f).toNat = n → Tm (d + 1) m_X12_isName_ 2 b σ [(3, .int (iI f)), (0, .ref b), (1, .int (iI r)), (2, .int (iI g))] [] post := by
  intro n
  induction n using Nat.strongRecOn with
  | _ n ih =>
    intro f h0 hm
    have q1 := hof.1
    refine tm_iload_n dX12_isName__2 rfl 0 rfl ?_
    refine tm_aload_n dX12_isName__3 rfl 1 rfl ?_
    refine tm_get (k := 14) (v := .ref (b + 1 + 11)) lay_12 dX12_isName__4 (by decide) fl12_44 rfl ?_
    refine tm_iload_n dX12_isName__7 rfl 2 rfl ?_
    refine tm_iald (z := r) (v := σ.2.1 14 r) dX12_isName__8 (show mT[11]? = some (14, 0, 6) from rfl) (by omega) (by omega) (by decide) (rfl) ?_
    have g1 := RG.a hR 14 (r)
    refine tm_icmp_ge (tgt := 72) dX12_isName__9 (by decide) ⟨by omega, by omega⟩ ⟨by omega, by omega⟩ (fun h2 => ?_) (fun h2 => ?_)
    · exact tm_sub [0, 1, 2, 3] rfl (hx_72 (f) )
    · refine tm_iconst dX12_isName__12 ?_
      refine tm_istore (L' := [(4, .int (iI 0)), (3, .int (iI f)), (0, .ref b), (1, .int (iI r)), (2, .int (iI g))]) dX12_isName__13 (by decide) rfl ?_
      refine tm_sub [0, 1, 2, 3, 4] rfl (l_isNm2 (d) (σ := σ) (r := r) (g := g) (f := f) hr hR hof hnam (by omega) (by omega) (fun n16 => ?_) hr1 _ (0) (by omega) rfl)
      show Tm _ _ 66 b σ [(4, .int (iI n16)), (3, .int (iI f)), (0, .ref b), (1, .int (iI r)), (2, .int (iI g))] [] _
      refine tm_iinc (q0 := 1) (L' := [(3, .int (iI (f + 1))), (4, .int (iI n16)), (0, .ref b), (1, .int (iI r)), (2, .int (iI g))]) dX12_isName__66 rfl (by decide) rfl ?_
      refine tm_goto (tgt := 2) dX12_isName__69 (by decide) ?_
      exact tm_sub [0, 2, 3, 4] rfl (ih _ (by omega) (f + 1) (by omega) rfl)
theorem dX12_isName__0 : decode cX12_isName_ 0 = .ok (.iconst 0, 1) := by decide +kernel
theorem dX12_isName__1 : decode cX12_isName_ 1 = .ok (.istore_n 3, 1) := by decide +kernel
theorem dX12_isName__72 : decode cX12_isName_ 72 = .ok (.iconst 0, 1) := by decide +kernel
theorem dX12_isName__73 : decode cX12_isName_ 73 = .ok (.ireturn, 1) := by decide +kernel
set_option maxRecDepth 20000 in
theorem c_X12_isName_ (d : Nat) {b : Nat} {σ : MS} {r : Int} {g : Int} (hr : 0 ≤ r ∧ r < 6) (hR : RG σ) (hof : OKF σ r) (hnam : NAM σ) (h_g : -2147483648 ≤ g ∧ g ≤ 2147483647) : Tm (d + 1) m_X12_isName_ 0 b σ [(0, .ref b), (1, .int (iI r)), (2, .int (iI g))] [] (fun ro σ2 => ∃ v : Int, ro = some (.int (iI v)) ∧ σ = σ2 ∧ ((v = 0 ∨ v = 1))) := by
  refine tm_iconst dX12_isName__0 ?_
  refine tm_istore_n (L' := [(3, .int (iI 0)), (0, .ref b), (1, .int (iI r)), (2, .int (iI g))]) dX12_isName__1 rfl (by decide) rfl ?_
  refine tm_sub [0, 1, 2, 3] rfl (l_isNm1 (d) (σ := σ) (r := r) (g := g) hr hR hof hnam (by omega) (fun f4 => ?_) ⟨_, rfl, rfl, by omega⟩ _ (0) (by have := hof.1; omega) rfl)
  show Tm _ _ 72 b σ [(3, .int (iI f4)), (0, .ref b), (1, .int (iI r)), (2, .int (iI g))] [] _
  refine tm_iconst dX12_isName__72 ?_
  exact tm_zret (v := 0) rfl (by decide) dX12_isName__73 (⟨_, rfl, rfl, by omega⟩)
theorem dX12_isAlike_0 : decode cX12_isAlike 0 = .ok (.aload_n 0, 1) := by decide +kernel
theorem dX12_isAlike_1 : decode cX12_isAlike 1 = .ok (.getfield 13, 3) := by decide +kernel
theorem dX12_isAlike_4 : decode cX12_isAlike 4 = .ok (.iload_n 1, 1) := by decide +kernel
theorem dX12_isAlike_5 : decode cX12_isAlike 5 = .ok (.iaload, 1) := by decide +kernel
theorem dX12_isAlike_6 : decode cX12_isAlike 6 = .ok (.aload_n 0, 1) := by decide +kernel
theorem dX12_isAlike_7 : decode cX12_isAlike 7 = .ok (.getfield 13, 3) := by decide +kernel
theorem dX12_isAlike_10 : decode cX12_isAlike 10 = .ok (.iload_n 2, 1) := by decide +kernel
theorem dX12_isAlike_11 : decode cX12_isAlike 11 = .ok (.iaload, 1) := by decide +kernel
theorem dX12_isAlike_12 : decode cX12_isAlike 12 = .ok (.if_icmp .eq 5, 3) := by decide +kernel
theorem dX12_isAlike_17 : decode cX12_isAlike 17 = .ok (.iconst 0, 1) := by decide +kernel
theorem dX12_isAlike_18 : decode cX12_isAlike 18 = .ok (.istore_n 3, 1) := by decide +kernel
theorem dX12_isAlike_19 : decode cX12_isAlike 19 = .ok (.iload_n 3, 1) := by decide +kernel
theorem dX12_isAlike_20 : decode cX12_isAlike 20 = .ok (.iconst 2, 1) := by decide +kernel
theorem dX12_isAlike_21 : decode cX12_isAlike 21 = .ok (.if_icmp .ge 57, 3) := by decide +kernel
theorem dX12_isAlike_24 : decode cX12_isAlike 24 = .ok (.aload_n 0, 1) := by decide +kernel
theorem dX12_isAlike_25 : decode cX12_isAlike 25 = .ok (.getfield 26, 3) := by decide +kernel
theorem dX12_isAlike_28 : decode cX12_isAlike 28 = .ok (.iconst 4, 1) := by decide +kernel
theorem dX12_isAlike_29 : decode cX12_isAlike 29 = .ok (.iload_n 1, 1) := by decide +kernel
theorem dX12_isAlike_30 : decode cX12_isAlike 30 = .ok (.imul, 1) := by decide +kernel
theorem dX12_isAlike_31 : decode cX12_isAlike 31 = .ok (.iload_n 3, 1) := by decide +kernel
theorem dX12_isAlike_32 : decode cX12_isAlike 32 = .ok (.iadd, 1) := by decide +kernel
theorem dX12_isAlike_33 : decode cX12_isAlike 33 = .ok (.iaload, 1) := by decide +kernel
theorem dX12_isAlike_34 : decode cX12_isAlike 34 = .ok (.aload_n 0, 1) := by decide +kernel
theorem dX12_isAlike_35 : decode cX12_isAlike 35 = .ok (.getfield 26, 3) := by decide +kernel
theorem dX12_isAlike_38 : decode cX12_isAlike 38 = .ok (.iconst 4, 1) := by decide +kernel
theorem dX12_isAlike_39 : decode cX12_isAlike 39 = .ok (.iload_n 2, 1) := by decide +kernel
theorem dX12_isAlike_40 : decode cX12_isAlike 40 = .ok (.imul, 1) := by decide +kernel
theorem dX12_isAlike_41 : decode cX12_isAlike 41 = .ok (.iload_n 3, 1) := by decide +kernel
theorem dX12_isAlike_42 : decode cX12_isAlike 42 = .ok (.iadd, 1) := by decide +kernel
theorem dX12_isAlike_43 : decode cX12_isAlike 43 = .ok (.iaload, 1) := by decide +kernel
theorem dX12_isAlike_44 : decode cX12_isAlike 44 = .ok (.if_icmp .ne 26, 3) := by decide +kernel
theorem dX12_isAlike_70 : decode cX12_isAlike 70 = .ok (.iconst 0, 1) := by decide +kernel
theorem dX12_isAlike_71 : decode cX12_isAlike 71 = .ok (.ireturn, 1) := by decide +kernel
theorem dX12_isAlike_47 : decode cX12_isAlike 47 = .ok (.aload_n 0, 1) := by decide +kernel
theorem dX12_isAlike_48 : decode cX12_isAlike 48 = .ok (.getfield 29, 3) := by decide +kernel
theorem dX12_isAlike_51 : decode cX12_isAlike 51 = .ok (.iconst 4, 1) := by decide +kernel
theorem dX12_isAlike_52 : decode cX12_isAlike 52 = .ok (.iload_n 1, 1) := by decide +kernel
theorem dX12_isAlike_53 : decode cX12_isAlike 53 = .ok (.imul, 1) := by decide +kernel
theorem dX12_isAlike_54 : decode cX12_isAlike 54 = .ok (.iload_n 3, 1) := by decide +kernel
theorem dX12_isAlike_55 : decode cX12_isAlike 55 = .ok (.iadd, 1) := by decide +kernel
theorem dX12_isAlike_56 : decode cX12_isAlike 56 = .ok (.iaload, 1) := by decide +kernel
theorem dX12_isAlike_57 : decode cX12_isAlike 57 = .ok (.aload_n 0, 1) := by decide +kernel
theorem dX12_isAlike_58 : decode cX12_isAlike 58 = .ok (.getfield 29, 3) := by decide +kernel
theorem dX12_isAlike_61 : decode cX12_isAlike 61 = .ok (.iconst 4, 1) := by decide +kernel
theorem dX12_isAlike_62 : decode cX12_isAlike 62 = .ok (.iload_n 2, 1) := by decide +kernel
theorem dX12_isAlike_63 : decode cX12_isAlike 63 = .ok (.imul, 1) := by decide +kernel
theorem dX12_isAlike_64 : decode cX12_isAlike 64 = .ok (.iload_n 3, 1) := by decide +kernel
theorem dX12_isAlike_65 : decode cX12_isAlike 65 = .ok (.iadd, 1) := by decide +kernel
theorem dX12_isAlike_66 : decode cX12_isAlike 66 = .ok (.iaload, 1) := by decide +kernel
theorem dX12_isAlike_67 : decode cX12_isAlike 67 = .ok (.if_icmp .eq 5, 3) := by decide +kernel
theorem dX12_isAlike_72 : decode cX12_isAlike 72 = .ok (.iinc 3 1, 3) := by decide +kernel
theorem dX12_isAlike_75 : decode cX12_isAlike 75 = .ok (.goto (-56), 3) := by decide +kernel
theorem dX12_isAlike_78 : decode cX12_isAlike 78 = .ok (.iconst 1, 1) := by decide +kernel
theorem dX12_isAlike_79 : decode cX12_isAlike 79 = .ok (.ireturn, 1) := by decide +kernel
theorem dX12_isAlike_15 : decode cX12_isAlike 15 = .ok (.iconst 0, 1) := by decide +kernel
theorem dX12_isAlike_16 : decode cX12_isAlike 16 = .ok (.ireturn, 1) := by decide +kernel
set_option maxRecDepth 20000 in
theorem c_X12_isAlike (d : Nat) {b : Nat} {σ : MS} {x : Int} {y : Int} (hx : 0 ≤ x ∧ x < 2860) (hy : 0 ≤ y ∧ y < 2860) (hR : RG σ) : Tm (d + 1) m_X12_isAlike 0 b σ [(0, .ref b), (1, .int (iI x)), (2, .int (iI y))] [] (fun ro σ2 => ∃ v : Int, ro = some (.int (iI v)) ∧ σ = σ2 ∧ ((v = 0 ∨ v = 1)) ∧ ((v = 1 → σ.2.1 3 x = σ.2.1 3 y))) := by
  refine tm_aload_n dX12_isAlike_0 rfl 0 rfl ?_
  refine tm_get (k := 3) (v := .ref (b + 1 + 1)) lay_12 dX12_isAlike_1 (by decide) fl12_13 rfl ?_
  refine tm_iload_n dX12_isAlike_4 rfl 1 rfl ?_
  refine tm_iald (z := x) (v := σ.2.1 3 x) dX12_isAlike_5 (show mT[1]? = some (3, 0, 2860) from rfl) (by omega) (by omega) (by decide) (rfl) ?_
  have g1 := RG.a hR 3 (x)
  refine tm_aload_n dX12_isAlike_6 rfl 0 rfl ?_
  refine tm_get (k := 3) (v := .ref (b + 1 + 1)) lay_12 dX12_isAlike_7 (by decide) fl12_13 rfl ?_
  refine tm_iload_n dX12_isAlike_10 rfl 2 rfl ?_
  refine tm_iald (z := y) (v := σ.2.1 3 y) dX12_isAlike_11 (show mT[1]? = some (3, 0, 2860) from rfl) (by omega) (by omega) (by decide) (rfl) ?_
  have g2 := RG.a hR 3 (y)
  refine tm_icmp_eq (tgt := 17) dX12_isAlike_12 (by decide) ⟨by omega, by omega⟩ ⟨by omega, by omega⟩ (fun h3 => ?_) (fun h3 => ?_)
  · refine tm_iconst dX12_isAlike_17 ?_
    refine tm_istore_n (L' := [(3, .int (iI 0)), (0, .ref b), (1, .int (iI x)), (2, .int (iI y))]) dX12_isAlike_18 rfl (by decide) rfl ?_
    refine tm_iload_n dX12_isAlike_19 rfl 0 rfl ?_
    refine tm_iconst dX12_isAlike_20 ?_
    refine tm_icmp_ge (tgt := 78) dX12_isAlike_21 (by decide) ⟨by decide, by decide⟩ ⟨by decide, by decide⟩ (fun h => absurd h (by decide)) (fun _ => ?_)
    refine tm_aload_n dX12_isAlike_24 rfl 1 rfl ?_
    refine tm_get (k := 7) (v := .ref (b + 1 + 5)) lay_12 dX12_isAlike_25 (by decide) fl12_26 rfl ?_
    refine tm_iconst dX12_isAlike_28 ?_
    refine tm_iload_n dX12_isAlike_29 rfl 2 rfl ?_
    refine tm_imul dX12_isAlike_30 ?_
    refine tm_iload_n dX12_isAlike_31 rfl 0 rfl ?_
    refine tm_iadd dX12_isAlike_32 ?_
    refine tm_iald (z := (4 * x) + 0) (v := σ.2.1 7 ((4 * x) + 0)) dX12_isAlike_33 (show mT[5]? = some (7, 0, 11440) from rfl) (by omega) (by omega) (by decide) (rfl) ?_
    have g5 := RG.a hR 7 ((4 * x) + 0)
    refine tm_aload_n dX12_isAlike_34 rfl 1 rfl ?_
    refine tm_get (k := 7) (v := .ref (b + 1 + 5)) lay_12 dX12_isAlike_35 (by decide) fl12_26 rfl ?_
    refine tm_iconst dX12_isAlike_38 ?_
    refine tm_iload_n dX12_isAlike_39 rfl 3 rfl ?_
    refine tm_imul dX12_isAlike_40 ?_
    refine tm_iload_n dX12_isAlike_41 rfl 0 rfl ?_
    refine tm_iadd dX12_isAlike_42 ?_
    refine tm_iald (z := (4 * y) + 0) (v := σ.2.1 7 ((4 * y) + 0)) dX12_isAlike_43 (show mT[5]? = some (7, 0, 11440) from rfl) (by omega) (by omega) (by decide) (rfl) ?_
    have g6 := RG.a hR 7 ((4 * y) + 0)
    refine tm_icmp_ne (tgt := 70) dX12_isAlike_44 (by decide) ⟨by omega, by omega⟩ ⟨by omega, by omega⟩ (fun h7 => ?_) (fun h7 => ?_)
    · refine tm_iconst dX12_isAlike_70 ?_
      exact tm_zret (v := 0) rfl (by decide) dX12_isAlike_71 (⟨_, rfl, rfl, by omega, by omega⟩)
    · refine tm_aload_n dX12_isAlike_47 rfl 1 rfl ?_
      refine tm_get (k := 8) (v := .ref (b + 1 + 6)) lay_12 dX12_isAlike_48 (by decide) fl12_29 rfl ?_
      refine tm_iconst dX12_isAlike_51 ?_
      refine tm_iload_n dX12_isAlike_52 rfl 2 rfl ?_
      refine tm_imul dX12_isAlike_53 ?_
      refine tm_iload_n dX12_isAlike_54 rfl 0 rfl ?_
      refine tm_iadd dX12_isAlike_55 ?_
      refine tm_iald (z := (4 * x) + 0) (v := σ.2.1 8 ((4 * x) + 0)) dX12_isAlike_56 (show mT[6]? = some (8, 0, 11440) from rfl) (by omega) (by omega) (by decide) (rfl) ?_
      have g8 := RG.a hR 8 ((4 * x) + 0)
      refine tm_aload_n dX12_isAlike_57 rfl 1 rfl ?_
      refine tm_get (k := 8) (v := .ref (b + 1 + 6)) lay_12 dX12_isAlike_58 (by decide) fl12_29 rfl ?_
      refine tm_iconst dX12_isAlike_61 ?_
      refine tm_iload_n dX12_isAlike_62 rfl 3 rfl ?_
      refine tm_imul dX12_isAlike_63 ?_
      refine tm_iload_n dX12_isAlike_64 rfl 0 rfl ?_
      refine tm_iadd dX12_isAlike_65 ?_
      refine tm_iald (z := (4 * y) + 0) (v := σ.2.1 8 ((4 * y) + 0)) dX12_isAlike_66 (show mT[6]? = some (8, 0, 11440) from rfl) (by omega) (by omega) (by decide) (rfl) ?_
      have g9 := RG.a hR 8 ((4 * y) + 0)
      refine tm_icmp_eq (tgt := 72) dX12_isAlike_67 (by decide) ⟨by omega, by omega⟩ ⟨by omega, by omega⟩ (fun h10 => ?_) (fun h10 => ?_)
      · refine tm_iinc (q0 := 0) (L' := [(3, .int (iI 1)), (0, .ref b), (1, .int (iI x)), (2, .int (iI y))]) dX12_isAlike_72 rfl (by decide) rfl ?_
        refine tm_goto (tgt := 19) dX12_isAlike_75 (by decide) ?_
        refine tm_iload_n dX12_isAlike_19 rfl 0 rfl ?_
        refine tm_iconst dX12_isAlike_20 ?_
        refine tm_icmp_ge (tgt := 78) dX12_isAlike_21 (by decide) ⟨by decide, by decide⟩ ⟨by decide, by decide⟩ (fun h => absurd h (by decide)) (fun _ => ?_)
        refine tm_aload_n dX12_isAlike_24 rfl 1 rfl ?_
        refine tm_get (k := 7) (v := .ref (b + 1 + 5)) lay_12 dX12_isAlike_25 (by decide) fl12_26 rfl ?_
        refine tm_iconst dX12_isAlike_28 ?_
        refine tm_iload_n dX12_isAlike_29 rfl 2 rfl ?_
        refine tm_imul dX12_isAlike_30 ?_
        refine tm_iload_n dX12_isAlike_31 rfl 0 rfl ?_
        refine tm_iadd dX12_isAlike_32 ?_
        refine tm_iald (z := (4 * x) + 1) (v := σ.2.1 7 ((4 * x) + 1)) dX12_isAlike_33 (show mT[5]? = some (7, 0, 11440) from rfl) (by omega) (by omega) (by decide) (rfl) ?_
        have g12 := RG.a hR 7 ((4 * x) + 1)
        refine tm_aload_n dX12_isAlike_34 rfl 1 rfl ?_
        refine tm_get (k := 7) (v := .ref (b + 1 + 5)) lay_12 dX12_isAlike_35 (by decide) fl12_26 rfl ?_
        refine tm_iconst dX12_isAlike_38 ?_
        refine tm_iload_n dX12_isAlike_39 rfl 3 rfl ?_
        refine tm_imul dX12_isAlike_40 ?_
        refine tm_iload_n dX12_isAlike_41 rfl 0 rfl ?_
        refine tm_iadd dX12_isAlike_42 ?_
        refine tm_iald (z := (4 * y) + 1) (v := σ.2.1 7 ((4 * y) + 1)) dX12_isAlike_43 (show mT[5]? = some (7, 0, 11440) from rfl) (by omega) (by omega) (by decide) (rfl) ?_
        have g13 := RG.a hR 7 ((4 * y) + 1)
        refine tm_icmp_ne (tgt := 70) dX12_isAlike_44 (by decide) ⟨by omega, by omega⟩ ⟨by omega, by omega⟩ (fun h14 => ?_) (fun h14 => ?_)
        · refine tm_iconst dX12_isAlike_70 ?_
          exact tm_zret (v := 0) rfl (by decide) dX12_isAlike_71 (⟨_, rfl, rfl, by omega, by omega⟩)
        · refine tm_aload_n dX12_isAlike_47 rfl 1 rfl ?_
          refine tm_get (k := 8) (v := .ref (b + 1 + 6)) lay_12 dX12_isAlike_48 (by decide) fl12_29 rfl ?_
          refine tm_iconst dX12_isAlike_51 ?_
          refine tm_iload_n dX12_isAlike_52 rfl 2 rfl ?_
          refine tm_imul dX12_isAlike_53 ?_
          refine tm_iload_n dX12_isAlike_54 rfl 0 rfl ?_
          refine tm_iadd dX12_isAlike_55 ?_
          refine tm_iald (z := (4 * x) + 1) (v := σ.2.1 8 ((4 * x) + 1)) dX12_isAlike_56 (show mT[6]? = some (8, 0, 11440) from rfl) (by omega) (by omega) (by decide) (rfl) ?_
          have g15 := RG.a hR 8 ((4 * x) + 1)
          refine tm_aload_n dX12_isAlike_57 rfl 1 rfl ?_
          refine tm_get (k := 8) (v := .ref (b + 1 + 6)) lay_12 dX12_isAlike_58 (by decide) fl12_29 rfl ?_
          refine tm_iconst dX12_isAlike_61 ?_
          refine tm_iload_n dX12_isAlike_62 rfl 3 rfl ?_
          refine tm_imul dX12_isAlike_63 ?_
          refine tm_iload_n dX12_isAlike_64 rfl 0 rfl ?_
          refine tm_iadd dX12_isAlike_65 ?_
          refine tm_iald (z := (4 * y) + 1) (v := σ.2.1 8 ((4 * y) + 1)) dX12_isAlike_66 (show mT[6]? = some (8, 0, 11440) from rfl) (by omega) (by omega) (by decide) (rfl) ?_
          have g16 := RG.a hR 8 ((4 * y) + 1)
          refine tm_icmp_eq (tgt := 72) dX12_isAlike_67 (by decide) ⟨by omega, by omega⟩ ⟨by omega, by omega⟩ (fun h17 => ?_) (fun h17 => ?_)
          · refine tm_iinc (q0 := 0) (L' := [(3, .int (iI 2)), (0, .ref b), (1, .int (iI x)), (2, .int (iI y))]) dX12_isAlike_72 rfl (by decide) rfl ?_
            refine tm_goto (tgt := 19) dX12_isAlike_75 (by decide) ?_
            refine tm_iload_n dX12_isAlike_19 rfl 0 rfl ?_
            refine tm_iconst dX12_isAlike_20 ?_
            refine tm_icmp_ge (tgt := 78) dX12_isAlike_21 (by decide) ⟨by decide, by decide⟩ ⟨by decide, by decide⟩ (fun _ => ?_) (fun h => absurd h (by decide))
            refine tm_iconst dX12_isAlike_78 ?_
            exact tm_zret (v := 1) rfl (by decide) dX12_isAlike_79 (⟨_, rfl, rfl, by omega, by omega⟩)
          · refine tm_iconst dX12_isAlike_70 ?_
            exact tm_zret (v := 0) rfl (by decide) dX12_isAlike_71 (⟨_, rfl, rfl, by omega, by omega⟩)
      · refine tm_iconst dX12_isAlike_70 ?_
        exact tm_zret (v := 0) rfl (by decide) dX12_isAlike_71 (⟨_, rfl, rfl, by omega, by omega⟩)
  · refine tm_iconst dX12_isAlike_15 ?_
    exact tm_zret (v := 0) rfl (by decide) dX12_isAlike_16 (⟨_, rfl, rfl, by omega, by omega⟩)
theorem ml12_486 : Cond.methodLink RX12 486 yX12_written ∈ pWW := pw9 (List.mem_of_getElem? (i := 165) rfl) rfl
theorem dX12_stands_55 : decode cX12_stands 55 = .ok (.iload 6, 2) := by decide +kernel
theorem dX12_stands_57 : decode cX12_stands 57 = .ok (.iconst 2, 1) := by decide +kernel
theorem dX12_stands_58 : decode cX12_stands 58 = .ok (.if_icmp .ge 63, 3) := by decide +kernel
theorem dX12_stands_61 : decode cX12_stands 61 = .ok (.iload 5, 2) := by decide +kernel
theorem dX12_stands_63 : decode cX12_stands 63 = .ok (.ifCond .eq 58, 3) := by decide +kernel
theorem dX12_stands_66 : decode cX12_stands 66 = .ok (.aload_n 0, 1) := by decide +kernel
theorem dX12_stands_67 : decode cX12_stands 67 = .ok (.getfield 26, 3) := by decide +kernel
theorem dX12_stands_70 : decode cX12_stands 70 = .ok (.iconst 4, 1) := by decide +kernel
theorem dX12_stands_71 : decode cX12_stands 71 = .ok (.iload 4, 2) := by decide +kernel
theorem dX12_stands_73 : decode cX12_stands 73 = .ok (.imul, 1) := by decide +kernel
theorem dX12_stands_74 : decode cX12_stands 74 = .ok (.iload 6, 2) := by decide +kernel
theorem dX12_stands_76 : decode cX12_stands 76 = .ok (.iadd, 1) := by decide +kernel
theorem dX12_stands_77 : decode cX12_stands 77 = .ok (.iaload, 1) := by decide +kernel
theorem dX12_stands_78 : decode cX12_stands 78 = .ok (.iconst 2, 1) := by decide +kernel
theorem dX12_stands_79 : decode cX12_stands 79 = .ok (.if_icmp .ne 29, 3) := by decide +kernel
theorem dX12_stands_108 : decode cX12_stands 108 = .ok (.iconst 1, 1) := by decide +kernel
theorem dX12_stands_109 : decode cX12_stands 109 = .ok (.goto 4, 3) := by decide +kernel
theorem dX12_stands_113 : decode cX12_stands 113 = .ok (.istore 5, 2) := by decide +kernel
theorem dX12_stands_115 : decode cX12_stands 115 = .ok (.iinc 6 1, 3) := by decide +kernel
theorem dX12_stands_118 : decode cX12_stands 118 = .ok (.goto (-63), 3) := by decide +kernel
theorem dX12_stands_82 : decode cX12_stands 82 = .ok (.aload_n 0, 1) := by decide +kernel
theorem dX12_stands_83 : decode cX12_stands 83 = .ok (.iload_n 1, 1) := by decide +kernel
theorem dX12_stands_84 : decode cX12_stands 84 = .ok (.iload_n 2, 1) := by decide +kernel
theorem dX12_stands_85 : decode cX12_stands 85 = .ok (.iconst 1, 1) := by decide +kernel
theorem dX12_stands_86 : decode cX12_stands 86 = .ok (.iadd, 1) := by decide +kernel
theorem dX12_stands_87 : decode cX12_stands 87 = .ok (.iload_n 3, 1) := by decide +kernel
theorem dX12_stands_88 : decode cX12_stands 88 = .ok (.iconst 1, 1) := by decide +kernel
theorem dX12_stands_89 : decode cX12_stands 89 = .ok (.isub, 1) := by decide +kernel
theorem dX12_stands_90 : decode cX12_stands 90 = .ok (.aload_n 0, 1) := by decide +kernel
theorem dX12_stands_91 : decode cX12_stands 91 = .ok (.getfield 29, 3) := by decide +kernel
theorem dX12_stands_94 : decode cX12_stands 94 = .ok (.iconst 4, 1) := by decide +kernel
theorem dX12_stands_95 : decode cX12_stands 95 = .ok (.iload 4, 2) := by decide +kernel
theorem dX12_stands_97 : decode cX12_stands 97 = .ok (.imul, 1) := by decide +kernel
theorem dX12_stands_98 : decode cX12_stands 98 = .ok (.iload 6, 2) := by decide +kernel
theorem dX12_stands_100 : decode cX12_stands 100 = .ok (.iadd, 1) := by decide +kernel
theorem dX12_stands_101 : decode cX12_stands 101 = .ok (.iaload, 1) := by decide +kernel
theorem dX12_stands_102 : decode cX12_stands 102 = .ok (.invokevirtual 486, 3) := by decide +kernel
theorem dX12_stands_105 : decode cX12_stands 105 = .ok (.ifCond .ne 7, 3) := by decide +kernel
theorem dX12_stands_112 : decode cX12_stands 112 = .ok (.iconst 0, 1) := by decide +kernel
set_option maxRecDepth 20000 in
theorem l_stands (d : Nat) {b : Nat} {σ : MS} {r : Int} {F : Int} {j : Int} {k : Int} {post : Option Value → MS → Prop} (hr : 0 ≤ r ∧ r < 6) (hR : RG σ) (hit : ITM σ) (hpar : PAR σ) (hok : OKS σ F r) (hk : 0 ≤ j ∧ j < k ∧ k ≤ σ.2.1 9 r) (hx_121 : ∀ (w : Int) (i : Int) , (w = 0 ∨ w = 1) → Tm (d + 4) m_X12_stands 121 b σ [(6, .int (iI i)), (5, .int (iI w)), (4, .int (iI (220 * r + j))), (0, .ref b), (1, .int (iI r)), (2, .int (iI j)), (3, .int (iI k))] [] post) : ∀ (n : Nat) (w : Int) (i : Int) , ((w = 0 ∨ w = 1) ∧ 0 ≤ i ∧ i ≤ 2) → (2 - i).toNat = n → Tm (d + 4) m_X12_stands 55 b σ [(6, .int (iI i)), (5, .int (iI w)), (4, .int (iI (220 * r + j))), (0, .ref b), (1, .int (iI r)), (2, .int (iI j)), (3, .int (iI k))] [] post := by
  intro n
  induction n using Nat.strongRecOn with
  | _ n ih =>
    intro w i h0 hm
    have q1 := hit r (by omega) (by omega)
    refine tm_iload dX12_stands_55 0 rfl ?_
    refine tm_iconst dX12_stands_57 ?_
    refine tm_icmp_ge (tgt := 121) dX12_stands_58 (by decide) ⟨by omega, by omega⟩ ⟨by decide, by decide⟩ (fun h1 => ?_) (fun h1 => ?_)
    · exact tm_sub [0, 1, 2, 3, 4, 5, 6] rfl (hx_121 (w) (i) (by omega))
    · refine tm_iload dX12_stands_61 1 rfl ?_
      refine tm_if_eq (tgt := 121) dX12_stands_63 (by decide) ⟨by omega, by omega⟩ (fun h2 => ?_) (fun h2 => ?_)
      · exact tm_sub [0, 1, 2, 3, 4, 5, 6] rfl (hx_121 (w) (i) (by omega))
      · have q2 := hok.arg (k := j) (by omega) (by omega) (i := i) (by omega) (by omega)
        refine tm_aload_n dX12_stands_66 rfl 3 rfl ?_
        refine tm_get (k := 7) (v := .ref (b + 1 + 5)) lay_12 dX12_stands_67 (by decide) fl12_26 rfl ?_
        refine tm_iconst dX12_stands_70 ?_
        refine tm_iload dX12_stands_71 2 rfl ?_
        refine tm_imul dX12_stands_73 ?_
        refine tm_iload dX12_stands_74 0 rfl ?_
        refine tm_iadd dX12_stands_76 ?_
        refine tm_iald (z := (4 * (220 * r + j)) + i) (v := σ.2.1 7 ((4 * (220 * r + j)) + i)) dX12_stands_77 (show mT[5]? = some (7, 0, 11440) from rfl) (by omega) (by omega) (by decide) (rfl) ?_
        have g3 := RG.a hR 7 ((4 * (220 * r + j)) + i)
        refine tm_iconst dX12_stands_78 ?_
        refine tm_icmp_ne (tgt := 108) dX12_stands_79 (by decide) ⟨by omega, by omega⟩ ⟨by decide, by decide⟩ (fun h4 => ?_) (fun h4 => ?_)
        · refine tm_iconst dX12_stands_108 ?_
          refine tm_goto (tgt := 113) dX12_stands_109 (by decide) ?_
          refine tm_istore (L' := [(5, .int (iI 1)), (6, .int (iI i)), (4, .int (iI (220 * r + j))), (0, .ref b), (1, .int (iI r)), (2, .int (iI j)), (3, .int (iI k))]) dX12_stands_113 (by decide) rfl ?_
          refine tm_iinc (q0 := 1) (L' := [(6, .int (iI (i + 1))), (5, .int (iI 1)), (4, .int (iI (220 * r + j))), (0, .ref b), (1, .int (iI r)), (2, .int (iI j)), (3, .int (iI k))]) dX12_stands_115 rfl (by decide) rfl ?_
          refine tm_goto (tgt := 55) dX12_stands_118 (by decide) ?_
          exact tm_sub [0, 1, 2, 3, 4, 5, 6] rfl (ih _ (by omega) (1) (i + 1) (by omega) rfl)
        · refine tm_aload_n dX12_stands_82 rfl 3 rfl ?_
          refine tm_iload_n dX12_stands_83 rfl 4 rfl ?_
          refine tm_iload_n dX12_stands_84 rfl 5 rfl ?_
          refine tm_iconst dX12_stands_85 ?_
          refine tm_iadd dX12_stands_86 ?_
          refine tm_iload_n dX12_stands_87 rfl 6 rfl ?_
          refine tm_iconst dX12_stands_88 ?_
          refine tm_isub dX12_stands_89 ?_
          refine tm_aload_n dX12_stands_90 rfl 3 rfl ?_
          refine tm_get (k := 8) (v := .ref (b + 1 + 6)) lay_12 dX12_stands_91 (by decide) fl12_29 rfl ?_
          refine tm_iconst dX12_stands_94 ?_
          refine tm_iload dX12_stands_95 2 rfl ?_
          refine tm_imul dX12_stands_97 ?_
          refine tm_iload dX12_stands_98 0 rfl ?_
          refine tm_iadd dX12_stands_100 ?_
          refine tm_iald (z := (4 * (220 * r + j)) + i) (v := σ.2.1 8 ((4 * (220 * r + j)) + i)) dX12_stands_101 (show mT[6]? = some (8, 0, 11440) from rfl) (by omega) (by omega) (by decide) (rfl) ?_
          have g5 := RG.a hR 8 ((4 * (220 * r + j)) + i)
          refine tm_callV (M := m_X12_stands) (pc := 102) (ix := 486) (M' := m_X12_written) (As := [.int (iI r), .int (iI (j + 1)), .int (iI (k - 1)), .int (iI (σ.2.1 8 ((4 * (220 * r + j)) + i)))]) (rest := []) dX12_stands_102 ok_X12_written im_X12_written se_X12_written ml12_486 np_X12_written rfl rfl (Nat.le_of_ble_eq_true rfl) (Nat.le_of_ble_eq_true rfl) rfl (c_X12_written (d) (σ := σ) (r := r) (fr := j + 1) (to := k - 1) (g := σ.2.1 8 ((4 * (220 * r + j)) + i)) (by omega) hR (by omega) (by omega) (by omega)) (fun r6 σ7 hp => ?_)
          obtain ⟨v8, rfl, rfl, f9⟩ := hp
          show Tm _ _ 105 b σ [(6, .int (iI i)), (5, .int (iI w)), (4, .int (iI (220 * r + j))), (0, .ref b), (1, .int (iI r)), (2, .int (iI j)), (3, .int (iI k))] [.int (iI v8)] _
          refine tm_if_ne (tgt := 112) dX12_stands_105 (by decide) ⟨by omega, by omega⟩ (fun h10 => ?_) (fun h10 => ?_)
          · refine tm_iconst dX12_stands_112 ?_
            refine tm_istore (L' := [(5, .int (iI 0)), (6, .int (iI i)), (4, .int (iI (220 * r + j))), (0, .ref b), (1, .int (iI r)), (2, .int (iI j)), (3, .int (iI k))]) dX12_stands_113 (by decide) rfl ?_
            refine tm_iinc (q0 := 1) (L' := [(6, .int (iI (i + 1))), (5, .int (iI 0)), (4, .int (iI (220 * r + j))), (0, .ref b), (1, .int (iI r)), (2, .int (iI j)), (3, .int (iI k))]) dX12_stands_115 rfl (by decide) rfl ?_
            refine tm_goto (tgt := 55) dX12_stands_118 (by decide) ?_
            exact tm_sub [0, 1, 2, 3, 4, 5, 6] rfl (ih _ (by omega) (0) (i + 1) (by omega) rfl)
          · refine tm_iconst dX12_stands_108 ?_
            refine tm_goto (tgt := 113) dX12_stands_109 (by decide) ?_
            refine tm_istore (L' := [(5, .int (iI 1)), (6, .int (iI i)), (4, .int (iI (220 * r + j))), (0, .ref b), (1, .int (iI r)), (2, .int (iI j)), (3, .int (iI k))]) dX12_stands_113 (by decide) rfl ?_
            refine tm_iinc (q0 := 1) (L' := [(6, .int (iI (i + 1))), (5, .int (iI 1)), (4, .int (iI (220 * r + j))), (0, .ref b), (1, .int (iI r)), (2, .int (iI j)), (3, .int (iI k))]) dX12_stands_115 rfl (by decide) rfl ?_
            refine tm_goto (tgt := 55) dX12_stands_118 (by decide) ?_
            exact tm_sub [0, 1, 2, 3, 4, 5, 6] rfl (ih _ (by omega) (1) (i + 1) (by omega) rfl)
theorem ml12_439 : Cond.methodLink RX12 439 yX12_leansOn ∈ pWW := pw9 (List.mem_of_getElem? (i := 141) rfl) rfl
theorem dX12_stands_0 : decode cX12_stands 0 = .ok (.aload_n 0, 1) := by decide +kernel
theorem dX12_stands_1 : decode cX12_stands 1 = .ok (.iload_n 1, 1) := by decide +kernel
theorem dX12_stands_2 : decode cX12_stands 2 = .ok (.iload_n 2, 1) := by decide +kernel
theorem dX12_stands_3 : decode cX12_stands 3 = .ok (.invokevirtual 203, 3) := by decide +kernel
theorem dX12_stands_6 : decode cX12_stands 6 = .ok (.istore 4, 2) := by decide +kernel
theorem dX12_stands_8 : decode cX12_stands 8 = .ok (.aload_n 0, 1) := by decide +kernel
theorem dX12_stands_9 : decode cX12_stands 9 = .ok (.iload 4, 2) := by decide +kernel
theorem dX12_stands_11 : decode cX12_stands 11 = .ok (.aload_n 0, 1) := by decide +kernel
theorem dX12_stands_12 : decode cX12_stands 12 = .ok (.getfield 17, 3) := by decide +kernel
theorem dX12_stands_15 : decode cX12_stands 15 = .ok (.iload 4, 2) := by decide +kernel
theorem dX12_stands_17 : decode cX12_stands 17 = .ok (.iaload, 1) := by decide +kernel
theorem dX12_stands_18 : decode cX12_stands 18 = .ok (.invokevirtual 439, 3) := by decide +kernel
theorem dX12_stands_21 : decode cX12_stands 21 = .ok (.ifCond .ne 28, 3) := by decide +kernel
theorem dX12_stands_49 : decode cX12_stands 49 = .ok (.iconst 0, 1) := by decide +kernel
theorem dX12_stands_50 : decode cX12_stands 50 = .ok (.istore 5, 2) := by decide +kernel
theorem dX12_stands_52 : decode cX12_stands 52 = .ok (.iconst 0, 1) := by decide +kernel
theorem dX12_stands_53 : decode cX12_stands 53 = .ok (.istore 6, 2) := by decide +kernel
theorem dX12_stands_121 : decode cX12_stands 121 = .ok (.iload 5, 2) := by decide +kernel
theorem dX12_stands_123 : decode cX12_stands 123 = .ok (.ireturn, 1) := by decide +kernel
theorem dX12_stands_24 : decode cX12_stands 24 = .ok (.aload_n 0, 1) := by decide +kernel
theorem dX12_stands_25 : decode cX12_stands 25 = .ok (.iload_n 1, 1) := by decide +kernel
theorem dX12_stands_26 : decode cX12_stands 26 = .ok (.iload_n 2, 1) := by decide +kernel
theorem dX12_stands_27 : decode cX12_stands 27 = .ok (.iconst 1, 1) := by decide +kernel
theorem dX12_stands_28 : decode cX12_stands 28 = .ok (.iadd, 1) := by decide +kernel
theorem dX12_stands_29 : decode cX12_stands 29 = .ok (.iload_n 3, 1) := by decide +kernel
theorem dX12_stands_30 : decode cX12_stands 30 = .ok (.iconst 1, 1) := by decide +kernel
theorem dX12_stands_31 : decode cX12_stands 31 = .ok (.isub, 1) := by decide +kernel
theorem dX12_stands_32 : decode cX12_stands 32 = .ok (.aload_n 0, 1) := by decide +kernel
theorem dX12_stands_33 : decode cX12_stands 33 = .ok (.getfield 17, 3) := by decide +kernel
theorem dX12_stands_36 : decode cX12_stands 36 = .ok (.iload 4, 2) := by decide +kernel
theorem dX12_stands_38 : decode cX12_stands 38 = .ok (.iaload, 1) := by decide +kernel
theorem dX12_stands_39 : decode cX12_stands 39 = .ok (.invokevirtual 486, 3) := by decide +kernel
theorem dX12_stands_42 : decode cX12_stands 42 = .ok (.ifCond .ne 7, 3) := by decide +kernel
theorem dX12_stands_45 : decode cX12_stands 45 = .ok (.iconst 1, 1) := by decide +kernel
theorem dX12_stands_46 : decode cX12_stands 46 = .ok (.goto 4, 3) := by decide +kernel
set_option maxRecDepth 20000 in
theorem c_X12_stands (d : Nat) {b : Nat} {σ : MS} {r : Int} {j : Int} {k : Int} {F : Int} (hr : 0 ≤ r ∧ r < 6) (hR : RG σ) (hit : ITM σ) (hpar : PAR σ) (hok : OKS σ F r) (hk : 0 ≤ j ∧ j < k ∧ k ≤ σ.2.1 9 r) : Tm (d + 5) m_X12_stands 0 b σ [(0, .ref b), (1, .int (iI r)), (2, .int (iI j)), (3, .int (iI k))] [] (fun ro σ2 => ∃ v : Int, ro = some (.int (iI v)) ∧ σ = σ2 ∧ ((v = 0 ∨ v = 1))) := by
  have q1 := hit r (by omega) (by omega)
  refine tm_aload_n dX12_stands_0 rfl 0 rfl ?_
  refine tm_iload_n dX12_stands_1 rfl 1 rfl ?_
  refine tm_iload_n dX12_stands_2 rfl 2 rfl ?_
  refine tm_callV (M := m_X12_stands) (pc := 3) (ix := 203) (M' := m_X12_at) (As := [.int (iI r), .int (iI j)]) (rest := []) dX12_stands_3 ok_X12_at im_X12_at se_X12_at ml12_203 np_X12_at rfl rfl (Nat.le_of_ble_eq_true rfl) (Nat.le_of_ble_eq_true rfl) rfl (c_X12_at (d + 3) (σ := σ) (x := r) (k := j) ) (fun r1 σ2 hp => ?_)
  obtain ⟨v3, rfl, rfl, f4⟩ := hp
  subst f4
  show Tm _ _ 6 b σ [(0, .ref b), (1, .int (iI r)), (2, .int (iI j)), (3, .int (iI k))] [.int (iI (220 * r + j))] _
  refine tm_istore (L' := [(4, .int (iI (220 * r + j))), (0, .ref b), (1, .int (iI r)), (2, .int (iI j)), (3, .int (iI k))]) dX12_stands_6 (by decide) rfl ?_
  refine tm_aload_n dX12_stands_8 rfl 1 rfl ?_
  refine tm_iload dX12_stands_9 0 rfl ?_
  refine tm_aload_n dX12_stands_11 rfl 1 rfl ?_
  refine tm_get (k := 4) (v := .ref (b + 1 + 2)) lay_12 dX12_stands_12 (by decide) fl12_17 rfl ?_
  refine tm_iload dX12_stands_15 0 rfl ?_
  refine tm_iald (z := 220 * r + j) (v := σ.2.1 4 (220 * r + j)) dX12_stands_17 (show mT[2]? = some (4, 0, 2860) from rfl) (by omega) (by omega) (by decide) (rfl) ?_
  have g5 := RG.a hR 4 (220 * r + j)
  refine tm_callV (M := m_X12_stands) (pc := 18) (ix := 439) (M' := m_X12_leansOn) (As := [.int (iI (220 * r + j)), .int (iI (σ.2.1 4 (220 * r + j)))]) (rest := []) dX12_stands_18 ok_X12_leansOn im_X12_leansOn se_X12_leansOn ml12_439 np_X12_leansOn rfl rfl (Nat.le_of_ble_eq_true rfl) (Nat.le_of_ble_eq_true rfl) rfl (c_X12_leansOn (d) (σ := σ) (x := 220 * r + j) (g := σ.2.1 4 (220 * r + j)) (by omega) hR (hok.of (by omega) (by omega)) hpar (by omega)) (fun r6 σ7 hp => ?_)
  obtain ⟨v8, rfl, rfl, f9, f10⟩ := hp
  show Tm _ _ 21 b σ [(4, .int (iI (220 * r + j))), (0, .ref b), (1, .int (iI r)), (2, .int (iI j)), (3, .int (iI k))] [.int (iI v8)] _
  refine tm_if_ne (tgt := 49) dX12_stands_21 (by decide) ⟨by omega, by omega⟩ (fun h11 => ?_) (fun h11 => ?_)
  · refine tm_iconst dX12_stands_49 ?_
    refine tm_istore (L' := [(5, .int (iI 0)), (4, .int (iI (220 * r + j))), (0, .ref b), (1, .int (iI r)), (2, .int (iI j)), (3, .int (iI k))]) dX12_stands_50 (by decide) rfl ?_
    refine tm_iconst dX12_stands_52 ?_
    refine tm_istore (L' := [(6, .int (iI 0)), (5, .int (iI 0)), (4, .int (iI (220 * r + j))), (0, .ref b), (1, .int (iI r)), (2, .int (iI j)), (3, .int (iI k))]) dX12_stands_53 (by decide) rfl ?_
    refine tm_sub [0, 1, 2, 3, 4, 5, 6] rfl (l_stands (d + 1) (σ := σ) (r := r) (j := j) (k := k) (F := F) (by omega) hR hit hpar hok (by omega) (fun w17 i18 f16 => ?_) _ (0) (0) (by omega) rfl)
    show Tm _ _ 121 b σ [(6, .int (iI i18)), (5, .int (iI w17)), (4, .int (iI (220 * r + j))), (0, .ref b), (1, .int (iI r)), (2, .int (iI j)), (3, .int (iI k))] [] _
    refine tm_iload dX12_stands_121 1 rfl ?_
    exact tm_zret (v := w17) rfl (by omega) dX12_stands_123 (⟨_, rfl, rfl, by omega⟩)
  · refine tm_aload_n dX12_stands_24 rfl 1 rfl ?_
    refine tm_iload_n dX12_stands_25 rfl 2 rfl ?_
    refine tm_iload_n dX12_stands_26 rfl 3 rfl ?_
    refine tm_iconst dX12_stands_27 ?_
    refine tm_iadd dX12_stands_28 ?_
    refine tm_iload_n dX12_stands_29 rfl 4 rfl ?_
    refine tm_iconst dX12_stands_30 ?_
    refine tm_isub dX12_stands_31 ?_
    refine tm_aload_n dX12_stands_32 rfl 1 rfl ?_
    refine tm_get (k := 4) (v := .ref (b + 1 + 2)) lay_12 dX12_stands_33 (by decide) fl12_17 rfl ?_
    refine tm_iload dX12_stands_36 0 rfl ?_
    refine tm_iald (z := 220 * r + j) (v := σ.2.1 4 (220 * r + j)) dX12_stands_38 (show mT[2]? = some (4, 0, 2860) from rfl) (by omega) (by omega) (by decide) (rfl) ?_
    have g19 := RG.a hR 4 (220 * r + j)
    refine tm_callV (M := m_X12_stands) (pc := 39) (ix := 486) (M' := m_X12_written) (As := [.int (iI r), .int (iI (j + 1)), .int (iI (k - 1)), .int (iI (σ.2.1 4 (220 * r + j)))]) (rest := []) dX12_stands_39 ok_X12_written im_X12_written se_X12_written ml12_486 np_X12_written rfl rfl (Nat.le_of_ble_eq_true rfl) (Nat.le_of_ble_eq_true rfl) rfl (c_X12_written (d + 1) (σ := σ) (r := r) (fr := j + 1) (to := k - 1) (g := σ.2.1 4 (220 * r + j)) (by omega) hR (by omega) (by omega) (by omega)) (fun r20 σ21 hp => ?_)
    obtain ⟨v22, rfl, rfl, f23⟩ := hp
    show Tm _ _ 42 b σ [(4, .int (iI (220 * r + j))), (0, .ref b), (1, .int (iI r)), (2, .int (iI j)), (3, .int (iI k))] [.int (iI v22)] _
    refine tm_if_ne (tgt := 49) dX12_stands_42 (by decide) ⟨by omega, by omega⟩ (fun h24 => ?_) (fun h24 => ?_)
    · refine tm_iconst dX12_stands_49 ?_
      refine tm_istore (L' := [(5, .int (iI 0)), (4, .int (iI (220 * r + j))), (0, .ref b), (1, .int (iI r)), (2, .int (iI j)), (3, .int (iI k))]) dX12_stands_50 (by decide) rfl ?_
      refine tm_iconst dX12_stands_52 ?_
      refine tm_istore (L' := [(6, .int (iI 0)), (5, .int (iI 0)), (4, .int (iI (220 * r + j))), (0, .ref b), (1, .int (iI r)), (2, .int (iI j)), (3, .int (iI k))]) dX12_stands_53 (by decide) rfl ?_
      refine tm_sub [0, 1, 2, 3, 4, 5, 6] rfl (l_stands (d + 1) (σ := σ) (r := r) (j := j) (k := k) (F := F) (by omega) hR hit hpar hok (by omega) (fun w30 i31 f29 => ?_) _ (0) (0) (by omega) rfl)
      show Tm _ _ 121 b σ [(6, .int (iI i31)), (5, .int (iI w30)), (4, .int (iI (220 * r + j))), (0, .ref b), (1, .int (iI r)), (2, .int (iI j)), (3, .int (iI k))] [] _
      refine tm_iload dX12_stands_121 1 rfl ?_
      exact tm_zret (v := w30) rfl (by omega) dX12_stands_123 (⟨_, rfl, rfl, by omega⟩)
    · refine tm_iconst dX12_stands_45 ?_
      refine tm_goto (tgt := 50) dX12_stands_46 (by decide) ?_
      refine tm_istore (L' := [(5, .int (iI 1)), (4, .int (iI (220 * r + j))), (0, .ref b), (1, .int (iI r)), (2, .int (iI j)), (3, .int (iI k))]) dX12_stands_50 (by decide) rfl ?_
      refine tm_iconst dX12_stands_52 ?_
      refine tm_istore (L' := [(6, .int (iI 0)), (5, .int (iI 1)), (4, .int (iI (220 * r + j))), (0, .ref b), (1, .int (iI r)), (2, .int (iI j)), (3, .int (iI k))]) dX12_stands_53 (by decide) rfl ?_
      refine tm_sub [0, 1, 2, 3, 4, 5, 6] rfl (l_stands (d + 1) (σ := σ) (r := r) (j := j) (k := k) (F := F) (by omega) hR hit hpar hok (by omega) (fun w37 i38 f36 => ?_) _ (1) (0) (by omega) rfl)
      show Tm _ _ 121 b σ [(6, .int (iI i38)), (5, .int (iI w37)), (4, .int (iI (220 * r + j))), (0, .ref b), (1, .int (iI r)), (2, .int (iI j)), (3, .int (iI k))] [] _
      refine tm_iload dX12_stands_121 1 rfl ?_
      exact tm_zret (v := w37) rfl (by omega) dX12_stands_123 (⟨_, rfl, rfl, by omega⟩)
theorem dX12_mayMove_64 : decode cX12_mayMove 64 = .ok (.iload 6, 2) := by decide +kernel
theorem dX12_mayMove_66 : decode cX12_mayMove 66 = .ok (.aload_n 0, 1) := by decide +kernel
theorem dX12_mayMove_67 : decode cX12_mayMove 67 = .ok (.iload 5, 2) := by decide +kernel
theorem dX12_mayMove_69 : decode cX12_mayMove 69 = .ok (.invokevirtual 199, 3) := by decide +kernel
theorem dX12_mayMove_72 : decode cX12_mayMove 72 = .ok (.if_icmp .ge 50, 3) := by decide +kernel
theorem dX12_mayMove_75 : decode cX12_mayMove 75 = .ok (.aload_n 0, 1) := by decide +kernel
theorem dX12_mayMove_76 : decode cX12_mayMove 76 = .ok (.getfield 26, 3) := by decide +kernel
theorem dX12_mayMove_79 : decode cX12_mayMove 79 = .ok (.iconst 4, 1) := by decide +kernel
theorem dX12_mayMove_80 : decode cX12_mayMove 80 = .ok (.iload 5, 2) := by decide +kernel
theorem dX12_mayMove_82 : decode cX12_mayMove 82 = .ok (.imul, 1) := by decide +kernel
theorem dX12_mayMove_83 : decode cX12_mayMove 83 = .ok (.iload 6, 2) := by decide +kernel
theorem dX12_mayMove_85 : decode cX12_mayMove 85 = .ok (.iadd, 1) := by decide +kernel
theorem dX12_mayMove_86 : decode cX12_mayMove 86 = .ok (.iaload, 1) := by decide +kernel
theorem dX12_mayMove_87 : decode cX12_mayMove 87 = .ok (.iconst 2, 1) := by decide +kernel
theorem dX12_mayMove_88 : decode cX12_mayMove 88 = .ok (.if_icmp .ne 28, 3) := by decide +kernel
theorem dX12_mayMove_116 : decode cX12_mayMove 116 = .ok (.iinc 6 1, 3) := by decide +kernel
theorem dX12_mayMove_119 : decode cX12_mayMove 119 = .ok (.goto (-55), 3) := by decide +kernel
theorem dX12_mayMove_91 : decode cX12_mayMove 91 = .ok (.aload_n 0, 1) := by decide +kernel
theorem dX12_mayMove_92 : decode cX12_mayMove 92 = .ok (.iload_n 1, 1) := by decide +kernel
theorem dX12_mayMove_93 : decode cX12_mayMove 93 = .ok (.iload_n 3, 1) := by decide +kernel
theorem dX12_mayMove_94 : decode cX12_mayMove 94 = .ok (.iload 4, 2) := by decide +kernel
theorem dX12_mayMove_96 : decode cX12_mayMove 96 = .ok (.aload_n 0, 1) := by decide +kernel
theorem dX12_mayMove_97 : decode cX12_mayMove 97 = .ok (.getfield 29, 3) := by decide +kernel
theorem dX12_mayMove_100 : decode cX12_mayMove 100 = .ok (.iconst 4, 1) := by decide +kernel
theorem dX12_mayMove_101 : decode cX12_mayMove 101 = .ok (.iload 5, 2) := by decide +kernel
theorem dX12_mayMove_103 : decode cX12_mayMove 103 = .ok (.imul, 1) := by decide +kernel
theorem dX12_mayMove_104 : decode cX12_mayMove 104 = .ok (.iload 6, 2) := by decide +kernel
theorem dX12_mayMove_106 : decode cX12_mayMove 106 = .ok (.iadd, 1) := by decide +kernel
theorem dX12_mayMove_107 : decode cX12_mayMove 107 = .ok (.iaload, 1) := by decide +kernel
theorem dX12_mayMove_108 : decode cX12_mayMove 108 = .ok (.invokevirtual 486, 3) := by decide +kernel
theorem dX12_mayMove_111 : decode cX12_mayMove 111 = .ok (.ifCond .le 5, 3) := by decide +kernel
theorem dX12_mayMove_114 : decode cX12_mayMove 114 = .ok (.iconst 0, 1) := by decide +kernel
theorem dX12_mayMove_115 : decode cX12_mayMove 115 = .ok (.ireturn, 1) := by decide +kernel
set_option maxRecDepth 20000 in
theorem l_mayMove (d : Nat) {b : Nat} {σ : MS} {r : Int} {F : Int} {k : Int} {fr : Int} {to : Int} {post : Option Value → MS → Prop} (hr : 0 ≤ r ∧ r < 6) (hR : RG σ) (hit : ITM σ) (hpar : PAR σ) (hok : OKS σ F r) (hof : OKF σ r) (hnam : NAM σ) (hk : 0 ≤ k ∧ k < σ.2.1 9 r) (hft : 0 ≤ fr ∧ fr ≤ 220 ∧ -1 ≤ to ∧ to < 220) (hx_122 : ∀ (i : Int) , Tm (d + 4) m_X12_mayMove 122 b σ [(6, .int (iI i)), (5, .int (iI (220 * r + k))), (0, .ref b), (1, .int (iI r)), (2, .int (iI k)), (3, .int (iI fr)), (4, .int (iI to))] [] post) (hr0 : post (some (.int (iI 0))) σ) : ∀ (n : Nat) (i : Int) , (0 ≤ i ∧ i ≤ 4) → (4 - i).toNat = n → Tm (d + 4) m_X12_mayMove 64 b σ [(6, .int (iI i)), (5, .int (iI (220 * r + k))), (0, .ref b), (1, .int (iI r)), (2, .int (iI k)), (3, .int (iI fr)), (4, .int (iI to))] [] post := by
  intro n
  induction n using Nat.strongRecOn with
  | _ n ih =>
    intro i h0 hm
    have q1 := hit r (by omega) (by omega)
    refine tm_iload dX12_mayMove_64 0 rfl ?_
    refine tm_aload_n dX12_mayMove_66 rfl 2 rfl ?_
    refine tm_iload dX12_mayMove_67 1 rfl ?_
    refine tm_callV (M := m_X12_mayMove) (pc := 69) (ix := 199) (M' := m_X12_args) (As := [.int (iI (220 * r + k))]) (rest := [.int (iI i)]) dX12_mayMove_69 ok_X12_args im_X12_args se_X12_args ml12_199 np_X12_args rfl rfl (Nat.le_of_ble_eq_true rfl) (Nat.le_of_ble_eq_true rfl) rfl (c_X12_args (d) (σ := σ) (x := 220 * r + k) (by omega) hR (hok.of (by omega) (by omega)) hpar) (fun r1 σ2 hp => ?_)
    obtain ⟨v3, rfl, rfl, f4, f5⟩ := hp
    show Tm _ _ 72 b σ [(6, .int (iI i)), (5, .int (iI (220 * r + k))), (0, .ref b), (1, .int (iI r)), (2, .int (iI k)), (3, .int (iI fr)), (4, .int (iI to))] [.int (iI v3), .int (iI i)] _
    refine tm_icmp_ge (tgt := 122) dX12_mayMove_72 (by decide) ⟨by omega, by omega⟩ ⟨by omega, by omega⟩ (fun h6 => ?_) (fun h6 => ?_)
    · exact tm_sub [0, 1, 2, 3, 4, 5, 6] rfl (hx_122 (i) )
    · have q2 := hok.arg (k := k) (by omega) (by omega) (i := i) (by omega) (by omega)
      refine tm_aload_n dX12_mayMove_75 rfl 2 rfl ?_
      refine tm_get (k := 7) (v := .ref (b + 1 + 5)) lay_12 dX12_mayMove_76 (by decide) fl12_26 rfl ?_
      refine tm_iconst dX12_mayMove_79 ?_
      refine tm_iload dX12_mayMove_80 1 rfl ?_
      refine tm_imul dX12_mayMove_82 ?_
      refine tm_iload dX12_mayMove_83 0 rfl ?_
      refine tm_iadd dX12_mayMove_85 ?_
      refine tm_iald (z := (4 * (220 * r + k)) + i) (v := σ.2.1 7 ((4 * (220 * r + k)) + i)) dX12_mayMove_86 (show mT[5]? = some (7, 0, 11440) from rfl) (by omega) (by omega) (by decide) (rfl) ?_
      have g7 := RG.a hR 7 ((4 * (220 * r + k)) + i)
      refine tm_iconst dX12_mayMove_87 ?_
      refine tm_icmp_ne (tgt := 116) dX12_mayMove_88 (by decide) ⟨by omega, by omega⟩ ⟨by decide, by decide⟩ (fun h8 => ?_) (fun h8 => ?_)
      · refine tm_iinc (q0 := 0) (L' := [(6, .int (iI (i + 1))), (5, .int (iI (220 * r + k))), (0, .ref b), (1, .int (iI r)), (2, .int (iI k)), (3, .int (iI fr)), (4, .int (iI to))]) dX12_mayMove_116 rfl (by decide) rfl ?_
        refine tm_goto (tgt := 64) dX12_mayMove_119 (by decide) ?_
        exact tm_sub [0, 1, 2, 3, 4, 5, 6] rfl (ih _ (by omega) (i + 1) (by omega) rfl)
      · refine tm_aload_n dX12_mayMove_91 rfl 2 rfl ?_
        refine tm_iload_n dX12_mayMove_92 rfl 3 rfl ?_
        refine tm_iload_n dX12_mayMove_93 rfl 5 rfl ?_
        refine tm_iload dX12_mayMove_94 6 rfl ?_
        refine tm_aload_n dX12_mayMove_96 rfl 2 rfl ?_
        refine tm_get (k := 8) (v := .ref (b + 1 + 6)) lay_12 dX12_mayMove_97 (by decide) fl12_29 rfl ?_
        refine tm_iconst dX12_mayMove_100 ?_
        refine tm_iload dX12_mayMove_101 1 rfl ?_
        refine tm_imul dX12_mayMove_103 ?_
        refine tm_iload dX12_mayMove_104 0 rfl ?_
        refine tm_iadd dX12_mayMove_106 ?_
        refine tm_iald (z := (4 * (220 * r + k)) + i) (v := σ.2.1 8 ((4 * (220 * r + k)) + i)) dX12_mayMove_107 (show mT[6]? = some (8, 0, 11440) from rfl) (by omega) (by omega) (by decide) (rfl) ?_
        have g9 := RG.a hR 8 ((4 * (220 * r + k)) + i)
        refine tm_callV (M := m_X12_mayMove) (pc := 108) (ix := 486) (M' := m_X12_written) (As := [.int (iI r), .int (iI fr), .int (iI to), .int (iI (σ.2.1 8 ((4 * (220 * r + k)) + i)))]) (rest := []) dX12_mayMove_108 ok_X12_written im_X12_written se_X12_written ml12_486 np_X12_written rfl rfl (Nat.le_of_ble_eq_true rfl) (Nat.le_of_ble_eq_true rfl) rfl (c_X12_written (d) (σ := σ) (r := r) (fr := fr) (to := to) (g := σ.2.1 8 ((4 * (220 * r + k)) + i)) (by omega) hR (by omega) (by omega) (by omega)) (fun r10 σ11 hp => ?_)
        obtain ⟨v12, rfl, rfl, f13⟩ := hp
        show Tm _ _ 111 b σ [(6, .int (iI i)), (5, .int (iI (220 * r + k))), (0, .ref b), (1, .int (iI r)), (2, .int (iI k)), (3, .int (iI fr)), (4, .int (iI to))] [.int (iI v12)] _
        refine tm_if_le (tgt := 116) dX12_mayMove_111 (by decide) ⟨by omega, by omega⟩ (fun h14 => ?_) (fun h14 => ?_)
        · refine tm_iinc (q0 := 0) (L' := [(6, .int (iI (i + 1))), (5, .int (iI (220 * r + k))), (0, .ref b), (1, .int (iI r)), (2, .int (iI k)), (3, .int (iI fr)), (4, .int (iI to))]) dX12_mayMove_116 rfl (by decide) rfl ?_
          refine tm_goto (tgt := 64) dX12_mayMove_119 (by decide) ?_
          exact tm_sub [0, 1, 2, 3, 4, 5, 6] rfl (ih _ (by omega) (i + 1) (by omega) rfl)
        · refine tm_iconst dX12_mayMove_114 ?_
          exact tm_zret (v := 0) rfl (by decide) dX12_mayMove_115 (hr0)
theorem ml12_484 : Cond.methodLink RX12 484 yX12_isName_ ∈ pWW := pw9 (List.mem_of_getElem? (i := 161) rfl) rfl
theorem dX12_mayMove_0 : decode cX12_mayMove 0 = .ok (.aload_n 0, 1) := by decide +kernel
theorem dX12_mayMove_1 : decode cX12_mayMove 1 = .ok (.iload_n 1, 1) := by decide +kernel
theorem dX12_mayMove_2 : decode cX12_mayMove 2 = .ok (.iload_n 2, 1) := by decide +kernel
theorem dX12_mayMove_3 : decode cX12_mayMove 3 = .ok (.invokevirtual 203, 3) := by decide +kernel
theorem dX12_mayMove_6 : decode cX12_mayMove 6 = .ok (.istore 5, 2) := by decide +kernel
theorem dX12_mayMove_8 : decode cX12_mayMove 8 = .ok (.aload_n 0, 1) := by decide +kernel
theorem dX12_mayMove_9 : decode cX12_mayMove 9 = .ok (.getfield 13, 3) := by decide +kernel
theorem dX12_mayMove_12 : decode cX12_mayMove 12 = .ok (.iload 5, 2) := by decide +kernel
theorem dX12_mayMove_14 : decode cX12_mayMove 14 = .ok (.iaload, 1) := by decide +kernel
theorem dX12_mayMove_15 : decode cX12_mayMove 15 = .ok (.iconst 5, 1) := by decide +kernel
theorem dX12_mayMove_16 : decode cX12_mayMove 16 = .ok (.if_icmp .gt 43, 3) := by decide +kernel
theorem dX12_mayMove_59 : decode cX12_mayMove 59 = .ok (.iconst 0, 1) := by decide +kernel
theorem dX12_mayMove_60 : decode cX12_mayMove 60 = .ok (.ireturn, 1) := by decide +kernel
theorem dX12_mayMove_19 : decode cX12_mayMove 19 = .ok (.aload_n 0, 1) := by decide +kernel
theorem dX12_mayMove_20 : decode cX12_mayMove 20 = .ok (.iload_n 1, 1) := by decide +kernel
theorem dX12_mayMove_21 : decode cX12_mayMove 21 = .ok (.aload_n 0, 1) := by decide +kernel
theorem dX12_mayMove_22 : decode cX12_mayMove 22 = .ok (.getfield 17, 3) := by decide +kernel
theorem dX12_mayMove_25 : decode cX12_mayMove 25 = .ok (.iload 5, 2) := by decide +kernel
theorem dX12_mayMove_27 : decode cX12_mayMove 27 = .ok (.iaload, 1) := by decide +kernel
theorem dX12_mayMove_28 : decode cX12_mayMove 28 = .ok (.invokevirtual 484, 3) := by decide +kernel
theorem dX12_mayMove_31 : decode cX12_mayMove 31 = .ok (.ifCond .ne 28, 3) := by decide +kernel
theorem dX12_mayMove_34 : decode cX12_mayMove 34 = .ok (.aload_n 0, 1) := by decide +kernel
theorem dX12_mayMove_35 : decode cX12_mayMove 35 = .ok (.iload_n 1, 1) := by decide +kernel
theorem dX12_mayMove_36 : decode cX12_mayMove 36 = .ok (.iconst 0, 1) := by decide +kernel
theorem dX12_mayMove_37 : decode cX12_mayMove 37 = .ok (.aload_n 0, 1) := by decide +kernel
theorem dX12_mayMove_38 : decode cX12_mayMove 38 = .ok (.getfield 32, 3) := by decide +kernel
theorem dX12_mayMove_41 : decode cX12_mayMove 41 = .ok (.iload_n 1, 1) := by decide +kernel
theorem dX12_mayMove_42 : decode cX12_mayMove 42 = .ok (.iaload, 1) := by decide +kernel
theorem dX12_mayMove_43 : decode cX12_mayMove 43 = .ok (.iconst 1, 1) := by decide +kernel
theorem dX12_mayMove_44 : decode cX12_mayMove 44 = .ok (.isub, 1) := by decide +kernel
theorem dX12_mayMove_45 : decode cX12_mayMove 45 = .ok (.aload_n 0, 1) := by decide +kernel
theorem dX12_mayMove_46 : decode cX12_mayMove 46 = .ok (.getfield 17, 3) := by decide +kernel
theorem dX12_mayMove_49 : decode cX12_mayMove 49 = .ok (.iload 5, 2) := by decide +kernel
theorem dX12_mayMove_51 : decode cX12_mayMove 51 = .ok (.iaload, 1) := by decide +kernel
theorem dX12_mayMove_52 : decode cX12_mayMove 52 = .ok (.invokevirtual 486, 3) := by decide +kernel
theorem dX12_mayMove_55 : decode cX12_mayMove 55 = .ok (.iconst 1, 1) := by decide +kernel
theorem dX12_mayMove_56 : decode cX12_mayMove 56 = .ok (.if_icmp .eq 5, 3) := by decide +kernel
theorem dX12_mayMove_61 : decode cX12_mayMove 61 = .ok (.iconst 0, 1) := by decide +kernel
theorem dX12_mayMove_62 : decode cX12_mayMove 62 = .ok (.istore 6, 2) := by decide +kernel
theorem dX12_mayMove_122 : decode cX12_mayMove 122 = .ok (.iconst 1, 1) := by decide +kernel
theorem dX12_mayMove_123 : decode cX12_mayMove 123 = .ok (.ireturn, 1) := by decide +kernel
set_option maxRecDepth 20000 in
theorem c_X12_mayMove (d : Nat) {b : Nat} {σ : MS} {r : Int} {k : Int} {fr : Int} {to : Int} {F : Int} (hr : 0 ≤ r ∧ r < 6) (hR : RG σ) (hit : ITM σ) (hpar : PAR σ) (hok : OKS σ F r) (hof : OKF σ r) (hnam : NAM σ) (hk : 0 ≤ k ∧ k < σ.2.1 9 r) (hft : 0 ≤ fr ∧ fr ≤ 220 ∧ -1 ≤ to ∧ to < 220) : Tm (d + 5) m_X12_mayMove 0 b σ [(0, .ref b), (1, .int (iI r)), (2, .int (iI k)), (3, .int (iI fr)), (4, .int (iI to))] [] (fun ro σ2 => ∃ v : Int, ro = some (.int (iI v)) ∧ σ = σ2 ∧ ((v = 0 ∨ v = 1)) ∧ ((v = 1 → σ.2.1 3 (220 * r + k) ≤ 5))) := by
  have q1 := hit r (by omega) (by omega)
  refine tm_aload_n dX12_mayMove_0 rfl 0 rfl ?_
  refine tm_iload_n dX12_mayMove_1 rfl 1 rfl ?_
  refine tm_iload_n dX12_mayMove_2 rfl 2 rfl ?_
  refine tm_callV (M := m_X12_mayMove) (pc := 3) (ix := 203) (M' := m_X12_at) (As := [.int (iI r), .int (iI k)]) (rest := []) dX12_mayMove_3 ok_X12_at im_X12_at se_X12_at ml12_203 np_X12_at rfl rfl (Nat.le_of_ble_eq_true rfl) (Nat.le_of_ble_eq_true rfl) rfl (c_X12_at (d + 3) (σ := σ) (x := r) (k := k) ) (fun r1 σ2 hp => ?_)
  obtain ⟨v3, rfl, rfl, f4⟩ := hp
  subst f4
  show Tm _ _ 6 b σ [(0, .ref b), (1, .int (iI r)), (2, .int (iI k)), (3, .int (iI fr)), (4, .int (iI to))] [.int (iI (220 * r + k))] _
  refine tm_istore (L' := [(5, .int (iI (220 * r + k))), (0, .ref b), (1, .int (iI r)), (2, .int (iI k)), (3, .int (iI fr)), (4, .int (iI to))]) dX12_mayMove_6 (by decide) rfl ?_
  refine tm_aload_n dX12_mayMove_8 rfl 1 rfl ?_
  refine tm_get (k := 3) (v := .ref (b + 1 + 1)) lay_12 dX12_mayMove_9 (by decide) fl12_13 rfl ?_
  refine tm_iload dX12_mayMove_12 0 rfl ?_
  refine tm_iald (z := 220 * r + k) (v := σ.2.1 3 (220 * r + k)) dX12_mayMove_14 (show mT[1]? = some (3, 0, 2860) from rfl) (by omega) (by omega) (by decide) (rfl) ?_
  have g5 := RG.a hR 3 (220 * r + k)
  refine tm_iconst dX12_mayMove_15 ?_
  refine tm_icmp_gt (tgt := 59) dX12_mayMove_16 (by decide) ⟨by omega, by omega⟩ ⟨by decide, by decide⟩ (fun h6 => ?_) (fun h6 => ?_)
  · refine tm_iconst dX12_mayMove_59 ?_
    exact tm_zret (v := 0) rfl (by decide) dX12_mayMove_60 (⟨_, rfl, rfl, by omega, by omega⟩)
  · refine tm_aload_n dX12_mayMove_19 rfl 1 rfl ?_
    refine tm_iload_n dX12_mayMove_20 rfl 2 rfl ?_
    refine tm_aload_n dX12_mayMove_21 rfl 1 rfl ?_
    refine tm_get (k := 4) (v := .ref (b + 1 + 2)) lay_12 dX12_mayMove_22 (by decide) fl12_17 rfl ?_
    refine tm_iload dX12_mayMove_25 0 rfl ?_
    refine tm_iald (z := 220 * r + k) (v := σ.2.1 4 (220 * r + k)) dX12_mayMove_27 (show mT[2]? = some (4, 0, 2860) from rfl) (by omega) (by omega) (by decide) (rfl) ?_
    have g7 := RG.a hR 4 (220 * r + k)
    refine tm_callV (M := m_X12_mayMove) (pc := 28) (ix := 484) (M' := m_X12_isName_) (As := [.int (iI r), .int (iI (σ.2.1 4 (220 * r + k)))]) (rest := []) dX12_mayMove_28 ok_X12_isName_ im_X12_isName_ se_X12_isName_ ml12_484 np_X12_isName_ rfl rfl (Nat.le_of_ble_eq_true rfl) (Nat.le_of_ble_eq_true rfl) rfl (c_X12_isName_ (d + 3) (σ := σ) (r := r) (g := σ.2.1 4 (220 * r + k)) (by omega) hR hof hnam (by omega)) (fun r8 σ9 hp => ?_)
    obtain ⟨v10, rfl, rfl, f11⟩ := hp
    show Tm _ _ 31 b σ [(5, .int (iI (220 * r + k))), (0, .ref b), (1, .int (iI r)), (2, .int (iI k)), (3, .int (iI fr)), (4, .int (iI to))] [.int (iI v10)] _
    refine tm_if_ne (tgt := 59) dX12_mayMove_31 (by decide) ⟨by omega, by omega⟩ (fun h12 => ?_) (fun h12 => ?_)
    · refine tm_iconst dX12_mayMove_59 ?_
      exact tm_zret (v := 0) rfl (by decide) dX12_mayMove_60 (⟨_, rfl, rfl, by omega, by omega⟩)
    · refine tm_aload_n dX12_mayMove_34 rfl 1 rfl ?_
      refine tm_iload_n dX12_mayMove_35 rfl 2 rfl ?_
      refine tm_iconst dX12_mayMove_36 ?_
      refine tm_aload_n dX12_mayMove_37 rfl 1 rfl ?_
      refine tm_get (k := 9) (v := .ref (b + 1 + 7)) lay_12 dX12_mayMove_38 (by decide) fl12_32 rfl ?_
      refine tm_iload_n dX12_mayMove_41 rfl 2 rfl ?_
      refine tm_iald (z := r) (v := σ.2.1 9 r) dX12_mayMove_42 (show mT[7]? = some (9, 0, 13) from rfl) (by omega) (by omega) (by decide) (rfl) ?_
      have g13 := RG.a hR 9 (r)
      refine tm_iconst dX12_mayMove_43 ?_
      refine tm_isub dX12_mayMove_44 ?_
      refine tm_aload_n dX12_mayMove_45 rfl 1 rfl ?_
      refine tm_get (k := 4) (v := .ref (b + 1 + 2)) lay_12 dX12_mayMove_46 (by decide) fl12_17 rfl ?_
      refine tm_iload dX12_mayMove_49 0 rfl ?_
      refine tm_iald (z := 220 * r + k) (v := σ.2.1 4 (220 * r + k)) dX12_mayMove_51 (show mT[2]? = some (4, 0, 2860) from rfl) (by omega) (by omega) (by decide) (rfl) ?_
      have g14 := RG.a hR 4 (220 * r + k)
      refine tm_callV (M := m_X12_mayMove) (pc := 52) (ix := 486) (M' := m_X12_written) (As := [.int (iI r), .int (iI 0), .int (iI ((σ.2.1 9 r) - 1)), .int (iI (σ.2.1 4 (220 * r + k)))]) (rest := []) dX12_mayMove_52 ok_X12_written im_X12_written se_X12_written ml12_486 np_X12_written rfl rfl (Nat.le_of_ble_eq_true rfl) (Nat.le_of_ble_eq_true rfl) rfl (c_X12_written (d + 1) (σ := σ) (r := r) (fr := 0) (to := (σ.2.1 9 r) - 1) (g := σ.2.1 4 (220 * r + k)) (by omega) hR (by omega) (by omega) (by omega)) (fun r15 σ16 hp => ?_)
      obtain ⟨v17, rfl, rfl, f18⟩ := hp
      show Tm _ _ 55 b σ [(5, .int (iI (220 * r + k))), (0, .ref b), (1, .int (iI r)), (2, .int (iI k)), (3, .int (iI fr)), (4, .int (iI to))] [.int (iI v17)] _
      refine tm_iconst dX12_mayMove_55 ?_
      refine tm_icmp_eq (tgt := 61) dX12_mayMove_56 (by decide) ⟨by omega, by omega⟩ ⟨by decide, by decide⟩ (fun h19 => ?_) (fun h19 => ?_)
      · refine tm_iconst dX12_mayMove_61 ?_
        refine tm_istore (L' := [(6, .int (iI 0)), (5, .int (iI (220 * r + k))), (0, .ref b), (1, .int (iI r)), (2, .int (iI k)), (3, .int (iI fr)), (4, .int (iI to))]) dX12_mayMove_62 (by decide) rfl ?_
        refine tm_sub [0, 1, 2, 3, 4, 5, 6] rfl (l_mayMove (d + 1) (σ := σ) (r := r) (k := k) (fr := fr) (to := to) (F := F) (by omega) hR hit hpar hok hof hnam (by omega) (by omega) (fun i23 => ?_) ⟨_, rfl, rfl, by omega, by omega⟩ _ (0) (by omega) rfl)
        show Tm _ _ 122 b σ [(6, .int (iI i23)), (5, .int (iI (220 * r + k))), (0, .ref b), (1, .int (iI r)), (2, .int (iI k)), (3, .int (iI fr)), (4, .int (iI to))] [] _
        refine tm_iconst dX12_mayMove_122 ?_
        exact tm_zret (v := 1) rfl (by decide) dX12_mayMove_123 (⟨_, rfl, rfl, by omega, by omega⟩)
      · refine tm_iconst dX12_mayMove_59 ?_
        exact tm_zret (v := 0) rfl (by decide) dX12_mayMove_60 (⟨_, rfl, rfl, by omega, by omega⟩)
theorem ml12_503 : Cond.methodLink RX12 503 yX12_isParam ∈ pWW := pw9 (List.mem_of_getElem? (i := 189) rfl) rfl
theorem fl12_130 : Cond.fieldLink RX12 130 (TX12 59).1 (TX12 59).2.1 (TX12 59).2.2.1 ∈ pWW := pw7 (List.mem_of_getElem? (i := 66) rfl) rfl
theorem dX12_isAtBegin_0 : decode cX12_isAtBegin 0 = .ok (.aload_n 0, 1) := by decide +kernel
theorem dX12_isAtBegin_1 : decode cX12_isAtBegin 1 = .ok (.iload_n 1, 1) := by decide +kernel
theorem dX12_isAtBegin_2 : decode cX12_isAtBegin 2 = .ok (.iload_n 2, 1) := by decide +kernel
theorem dX12_isAtBegin_3 : decode cX12_isAtBegin 3 = .ok (.invokevirtual 503, 3) := by decide +kernel
theorem dX12_isAtBegin_6 : decode cX12_isAtBegin 6 = .ok (.ifCond .ne 12, 3) := by decide +kernel
theorem dX12_isAtBegin_18 : decode cX12_isAtBegin 18 = .ok (.iconst 1, 1) := by decide +kernel
theorem dX12_isAtBegin_19 : decode cX12_isAtBegin 19 = .ok (.goto 4, 3) := by decide +kernel
theorem dX12_isAtBegin_23 : decode cX12_isAtBegin 23 = .ok (.ireturn, 1) := by decide +kernel
theorem dX12_isAtBegin_9 : decode cX12_isAtBegin 9 = .ok (.aload_n 0, 1) := by decide +kernel
theorem dX12_isAtBegin_10 : decode cX12_isAtBegin 10 = .ok (.getfield 130, 3) := by decide +kernel
theorem dX12_isAtBegin_13 : decode cX12_isAtBegin 13 = .ok (.iload_n 2, 1) := by decide +kernel
theorem dX12_isAtBegin_14 : decode cX12_isAtBegin 14 = .ok (.baload, 1) := by decide +kernel
theorem dX12_isAtBegin_15 : decode cX12_isAtBegin 15 = .ok (.ifCond .eq 7, 3) := by decide +kernel
theorem dX12_isAtBegin_22 : decode cX12_isAtBegin 22 = .ok (.iconst 0, 1) := by decide +kernel
set_option maxRecDepth 20000 in
theorem c_X12_isAtBegin (d : Nat) {b : Nat} {σ : MS} {r : Int} {g : Int} (hr : 0 ≤ r ∧ r < 6) (hR : RG σ) (hpar : PAR σ) (hbl : BO 59 σ) (hg : 0 ≤ g ∧ g < 192) : Tm (d + 2) m_X12_isAtBegin 0 b σ [(0, .ref b), (1, .int (iI r)), (2, .int (iI g))] [] (fun ro σ2 => ∃ v : Int, ro = some (.int (iI v)) ∧ σ = σ2 ∧ ((v = 0 ∨ v = 1))) := by
  refine tm_aload_n dX12_isAtBegin_0 rfl 0 rfl ?_
  refine tm_iload_n dX12_isAtBegin_1 rfl 1 rfl ?_
  refine tm_iload_n dX12_isAtBegin_2 rfl 2 rfl ?_
  refine tm_callV (M := m_X12_isAtBegin) (pc := 3) (ix := 503) (M' := m_X12_isParam) (As := [.int (iI r), .int (iI g)]) (rest := []) dX12_isAtBegin_3 ok_X12_isParam im_X12_isParam se_X12_isParam ml12_503 np_X12_isParam rfl rfl (Nat.le_of_ble_eq_true rfl) (Nat.le_of_ble_eq_true rfl) rfl (c_X12_isParam (d) (σ := σ) (r := r) (g := g) (by omega) hR hpar (by omega)) (fun r1 σ2 hp => ?_)
  obtain ⟨v3, rfl, rfl, f4, f5⟩ := hp
  show Tm _ _ 6 b σ [(0, .ref b), (1, .int (iI r)), (2, .int (iI g))] [.int (iI v3)] _
  refine tm_if_ne (tgt := 18) dX12_isAtBegin_6 (by decide) ⟨by omega, by omega⟩ (fun h6 => ?_) (fun h6 => ?_)
  · refine tm_iconst dX12_isAtBegin_18 ?_
    refine tm_goto (tgt := 23) dX12_isAtBegin_19 (by decide) ?_
    exact tm_zret (v := 1) rfl (by decide) dX12_isAtBegin_23 (⟨_, rfl, rfl, by omega⟩)
  · refine tm_aload_n dX12_isAtBegin_9 rfl 0 rfl ?_
    refine tm_get (k := 59) (v := .ref (b + 1 + 37)) lay_12 dX12_isAtBegin_10 (by decide) fl12_130 rfl ?_
    refine tm_iload_n dX12_isAtBegin_13 rfl 2 rfl ?_
    refine tm_zald (z := g) (v := σ.2.1 59 g) dX12_isAtBegin_14 (show mT[37]? = some (59, 2, 42432) from rfl) (by omega) (by omega) (by decide) (rfl) ?_
    have g7 := RG.a hR 59 (g)
    have := hbl (g)
    refine tm_if_eq (tgt := 22) dX12_isAtBegin_15 (by decide) ⟨by omega, by omega⟩ (fun h8 => ?_) (fun h8 => ?_)
    · refine tm_iconst dX12_isAtBegin_22 ?_
      exact tm_zret (v := 0) rfl (by decide) dX12_isAtBegin_23 (⟨_, rfl, rfl, by omega⟩)
    · refine tm_iconst dX12_isAtBegin_18 ?_
      refine tm_goto (tgt := 23) dX12_isAtBegin_19 (by decide) ?_
      exact tm_zret (v := 1) rfl (by decide) dX12_isAtBegin_23 (⟨_, rfl, rfl, by omega⟩)
theorem ml12_413 : Cond.methodLink RX12 413 yX12_goesOn ∈ pWW := pw9 (List.mem_of_getElem? (i := 94) rfl) rfl
theorem dX12_livesBehind_0 : decode cX12_livesBehind 0 = .ok (.aload_n 0, 1) := by decide +kernel
theorem dX12_livesBehind_1 : decode cX12_livesBehind 1 = .ok (.iload_n 1, 1) := by decide +kernel
theorem dX12_livesBehind_2 : decode cX12_livesBehind 2 = .ok (.iload_n 2, 1) := by decide +kernel
theorem dX12_livesBehind_3 : decode cX12_livesBehind 3 = .ok (.iconst 0, 1) := by decide +kernel
theorem dX12_livesBehind_4 : decode cX12_livesBehind 4 = .ok (.invokevirtual 413, 3) := by decide +kernel
theorem dX12_livesBehind_7 : decode cX12_livesBehind 7 = .ok (.istore 4, 2) := by decide +kernel
theorem dX12_livesBehind_9 : decode cX12_livesBehind 9 = .ok (.aload_n 0, 1) := by decide +kernel
theorem dX12_livesBehind_10 : decode cX12_livesBehind 10 = .ok (.iload_n 1, 1) := by decide +kernel
theorem dX12_livesBehind_11 : decode cX12_livesBehind 11 = .ok (.iload_n 2, 1) := by decide +kernel
theorem dX12_livesBehind_12 : decode cX12_livesBehind 12 = .ok (.iconst 1, 1) := by decide +kernel
theorem dX12_livesBehind_13 : decode cX12_livesBehind 13 = .ok (.invokevirtual 413, 3) := by decide +kernel
theorem dX12_livesBehind_16 : decode cX12_livesBehind 16 = .ok (.istore 5, 2) := by decide +kernel
theorem dX12_livesBehind_18 : decode cX12_livesBehind 18 = .ok (.iload 4, 2) := by decide +kernel
theorem dX12_livesBehind_20 : decode cX12_livesBehind 20 = .ok (.iconst (-1), 1) := by decide +kernel
theorem dX12_livesBehind_21 : decode cX12_livesBehind 21 = .ok (.if_icmp .eq 19, 3) := by decide +kernel
theorem dX12_livesBehind_40 : decode cX12_livesBehind 40 = .ok (.iload 5, 2) := by decide +kernel
theorem dX12_livesBehind_42 : decode cX12_livesBehind 42 = .ok (.iconst (-1), 1) := by decide +kernel
theorem dX12_livesBehind_43 : decode cX12_livesBehind 43 = .ok (.if_icmp .eq 23, 3) := by decide +kernel
theorem dX12_livesBehind_66 : decode cX12_livesBehind 66 = .ok (.iconst 0, 1) := by decide +kernel
theorem dX12_livesBehind_67 : decode cX12_livesBehind 67 = .ok (.ireturn, 1) := by decide +kernel
theorem dX12_livesBehind_46 : decode cX12_livesBehind 46 = .ok (.aload_n 0, 1) := by decide +kernel
theorem dX12_livesBehind_47 : decode cX12_livesBehind 47 = .ok (.getfield 130, 3) := by decide +kernel
theorem dX12_livesBehind_50 : decode cX12_livesBehind 50 = .ok (.sipush 192, 3) := by decide +kernel
theorem dX12_livesBehind_53 : decode cX12_livesBehind 53 = .ok (.iload 5, 2) := by decide +kernel
theorem dX12_livesBehind_55 : decode cX12_livesBehind 55 = .ok (.imul, 1) := by decide +kernel
theorem dX12_livesBehind_56 : decode cX12_livesBehind 56 = .ok (.iload_n 3, 1) := by decide +kernel
theorem dX12_livesBehind_57 : decode cX12_livesBehind 57 = .ok (.iadd, 1) := by decide +kernel
theorem dX12_livesBehind_58 : decode cX12_livesBehind 58 = .ok (.baload, 1) := by decide +kernel
theorem dX12_livesBehind_59 : decode cX12_livesBehind 59 = .ok (.ifCond .eq 7, 3) := by decide +kernel
theorem dX12_livesBehind_62 : decode cX12_livesBehind 62 = .ok (.iconst 1, 1) := by decide +kernel
theorem dX12_livesBehind_63 : decode cX12_livesBehind 63 = .ok (.goto 4, 3) := by decide +kernel
theorem dX12_livesBehind_24 : decode cX12_livesBehind 24 = .ok (.aload_n 0, 1) := by decide +kernel
theorem dX12_livesBehind_25 : decode cX12_livesBehind 25 = .ok (.getfield 130, 3) := by decide +kernel
theorem dX12_livesBehind_28 : decode cX12_livesBehind 28 = .ok (.sipush 192, 3) := by decide +kernel
theorem dX12_livesBehind_31 : decode cX12_livesBehind 31 = .ok (.iload 4, 2) := by decide +kernel
theorem dX12_livesBehind_33 : decode cX12_livesBehind 33 = .ok (.imul, 1) := by decide +kernel
theorem dX12_livesBehind_34 : decode cX12_livesBehind 34 = .ok (.iload_n 3, 1) := by decide +kernel
theorem dX12_livesBehind_35 : decode cX12_livesBehind 35 = .ok (.iadd, 1) := by decide +kernel
theorem dX12_livesBehind_36 : decode cX12_livesBehind 36 = .ok (.baload, 1) := by decide +kernel
theorem dX12_livesBehind_37 : decode cX12_livesBehind 37 = .ok (.ifCond .ne 25, 3) := by decide +kernel
set_option maxRecDepth 20000 in
theorem c_X12_livesBehind (d : Nat) {b : Nat} {σ : MS} {r : Int} {k : Int} {g : Int} (hr : 0 ≤ r ∧ r < 12) (hR : RG σ) (hit : ITM σ) (hjm : JMP σ r) (hbl : BO 59 σ) (hl : LAB σ) (hg : 0 ≤ g ∧ g < 192) (hk : 0 ≤ k ∧ k < σ.2.1 9 r) : Tm (d + 3) m_X12_livesBehind 0 b σ [(0, .ref b), (1, .int (iI r)), (2, .int (iI k)), (3, .int (iI g))] [] (fun ro σ2 => ∃ v : Int, ro = some (.int (iI v)) ∧ σ = σ2 ∧ ((v = 0 ∨ v = 1))) := by
  have q1 := hit r (by omega) (by omega)
  have q2 := hl (σ.2.1 4 (220 * r + k))
  refine tm_aload_n dX12_livesBehind_0 rfl 0 rfl ?_
  refine tm_iload_n dX12_livesBehind_1 rfl 1 rfl ?_
  refine tm_iload_n dX12_livesBehind_2 rfl 2 rfl ?_
  refine tm_iconst dX12_livesBehind_3 ?_
  refine tm_callV (M := m_X12_livesBehind) (pc := 4) (ix := 413) (M' := m_X12_goesOn) (As := [.int (iI r), .int (iI k), .int (iI 0)]) (rest := []) dX12_livesBehind_4 ok_X12_goesOn im_X12_goesOn se_X12_goesOn ml12_413 np_X12_goesOn rfl rfl (Nat.le_of_ble_eq_true rfl) (Nat.le_of_ble_eq_true rfl) rfl (c_X12_goesOn (d) (σ := σ) (r := r) (k := k) (how := 0) (by omega) hR (by omega) (fun q => hjm _ (by omega) (by omega) (by omega)) (by omega)) (fun r1 σ2 hp => ?_)
  obtain ⟨v3, rfl, rfl, f4, f5, f6, f7⟩ := hp
  show Tm _ _ 7 b σ [(0, .ref b), (1, .int (iI r)), (2, .int (iI k)), (3, .int (iI g))] [.int (iI v3)] _
  refine tm_istore (L' := [(4, .int (iI v3)), (0, .ref b), (1, .int (iI r)), (2, .int (iI k)), (3, .int (iI g))]) dX12_livesBehind_7 (by decide) rfl ?_
  refine tm_aload_n dX12_livesBehind_9 rfl 1 rfl ?_
  refine tm_iload_n dX12_livesBehind_10 rfl 2 rfl ?_
  refine tm_iload_n dX12_livesBehind_11 rfl 3 rfl ?_
  refine tm_iconst dX12_livesBehind_12 ?_
  refine tm_callV (M := m_X12_livesBehind) (pc := 13) (ix := 413) (M' := m_X12_goesOn) (As := [.int (iI r), .int (iI k), .int (iI 1)]) (rest := []) dX12_livesBehind_13 ok_X12_goesOn im_X12_goesOn se_X12_goesOn ml12_413 np_X12_goesOn rfl rfl (Nat.le_of_ble_eq_true rfl) (Nat.le_of_ble_eq_true rfl) rfl (c_X12_goesOn (d) (σ := σ) (r := r) (k := k) (how := 1) (by omega) hR (by omega) (fun q => hjm _ (by omega) (by omega) (by omega)) (by omega)) (fun r8 σ9 hp => ?_)
  obtain ⟨v10, rfl, rfl, f11, f12, f13, f14⟩ := hp
  show Tm _ _ 16 b σ [(4, .int (iI v3)), (0, .ref b), (1, .int (iI r)), (2, .int (iI k)), (3, .int (iI g))] [.int (iI v10)] _
  refine tm_istore (L' := [(5, .int (iI v10)), (4, .int (iI v3)), (0, .ref b), (1, .int (iI r)), (2, .int (iI k)), (3, .int (iI g))]) dX12_livesBehind_16 (by decide) rfl ?_
  refine tm_iload dX12_livesBehind_18 1 rfl ?_
  refine tm_iconst dX12_livesBehind_20 ?_
  refine tm_icmp_eq (tgt := 40) dX12_livesBehind_21 (by decide) ⟨by omega, by omega⟩ ⟨by decide, by decide⟩ (fun h15 => ?_) (fun h15 => ?_)
  · refine tm_iload dX12_livesBehind_40 0 rfl ?_
    refine tm_iconst dX12_livesBehind_42 ?_
    refine tm_icmp_eq (tgt := 66) dX12_livesBehind_43 (by decide) ⟨by omega, by omega⟩ ⟨by decide, by decide⟩ (fun h16 => ?_) (fun h16 => ?_)
    · refine tm_iconst dX12_livesBehind_66 ?_
      exact tm_zret (v := 0) rfl (by decide) dX12_livesBehind_67 (⟨_, rfl, rfl, by omega⟩)
    · refine tm_aload_n dX12_livesBehind_46 rfl 2 rfl ?_
      refine tm_get (k := 59) (v := .ref (b + 1 + 37)) lay_12 dX12_livesBehind_47 (by decide) fl12_130 rfl ?_
      refine tm_sipush dX12_livesBehind_50 (by decide) ?_
      refine tm_iload dX12_livesBehind_53 0 rfl ?_
      refine tm_imul dX12_livesBehind_55 ?_
      refine tm_iload_n dX12_livesBehind_56 rfl 5 rfl ?_
      refine tm_iadd dX12_livesBehind_57 ?_
      refine tm_zald (z := (192 * v10) + g) (v := σ.2.1 59 ((192 * v10) + g)) dX12_livesBehind_58 (show mT[37]? = some (59, 2, 42432) from rfl) (by omega) (by omega) (by decide) (rfl) ?_
      have g17 := RG.a hR 59 ((192 * v10) + g)
      have := hbl ((192 * v10) + g)
      refine tm_if_eq (tgt := 66) dX12_livesBehind_59 (by decide) ⟨by omega, by omega⟩ (fun h18 => ?_) (fun h18 => ?_)
      · refine tm_iconst dX12_livesBehind_66 ?_
        exact tm_zret (v := 0) rfl (by decide) dX12_livesBehind_67 (⟨_, rfl, rfl, by omega⟩)
      · refine tm_iconst dX12_livesBehind_62 ?_
        refine tm_goto (tgt := 67) dX12_livesBehind_63 (by decide) ?_
        exact tm_zret (v := 1) rfl (by decide) dX12_livesBehind_67 (⟨_, rfl, rfl, by omega⟩)
  · refine tm_aload_n dX12_livesBehind_24 rfl 2 rfl ?_
    refine tm_get (k := 59) (v := .ref (b + 1 + 37)) lay_12 dX12_livesBehind_25 (by decide) fl12_130 rfl ?_
    refine tm_sipush dX12_livesBehind_28 (by decide) ?_
    refine tm_iload dX12_livesBehind_31 1 rfl ?_
    refine tm_imul dX12_livesBehind_33 ?_
    refine tm_iload_n dX12_livesBehind_34 rfl 5 rfl ?_
    refine tm_iadd dX12_livesBehind_35 ?_
    refine tm_zald (z := (192 * v3) + g) (v := σ.2.1 59 ((192 * v3) + g)) dX12_livesBehind_36 (show mT[37]? = some (59, 2, 42432) from rfl) (by omega) (by omega) (by decide) (rfl) ?_
    have g19 := RG.a hR 59 ((192 * v3) + g)
    have := hbl ((192 * v3) + g)
    refine tm_if_ne (tgt := 62) dX12_livesBehind_37 (by decide) ⟨by omega, by omega⟩ (fun h20 => ?_) (fun h20 => ?_)
    · refine tm_iconst dX12_livesBehind_62 ?_
      refine tm_goto (tgt := 67) dX12_livesBehind_63 (by decide) ?_
      exact tm_zret (v := 1) rfl (by decide) dX12_livesBehind_67 (⟨_, rfl, rfl, by omega⟩)
    · refine tm_iload dX12_livesBehind_40 0 rfl ?_
      refine tm_iconst dX12_livesBehind_42 ?_
      refine tm_icmp_eq (tgt := 66) dX12_livesBehind_43 (by decide) ⟨by omega, by omega⟩ ⟨by decide, by decide⟩ (fun h21 => ?_) (fun h21 => ?_)
      · refine tm_iconst dX12_livesBehind_66 ?_
        exact tm_zret (v := 0) rfl (by decide) dX12_livesBehind_67 (⟨_, rfl, rfl, by omega⟩)
      · refine tm_aload_n dX12_livesBehind_46 rfl 2 rfl ?_
        refine tm_get (k := 59) (v := .ref (b + 1 + 37)) lay_12 dX12_livesBehind_47 (by decide) fl12_130 rfl ?_
        refine tm_sipush dX12_livesBehind_50 (by decide) ?_
        refine tm_iload dX12_livesBehind_53 0 rfl ?_
        refine tm_imul dX12_livesBehind_55 ?_
        refine tm_iload_n dX12_livesBehind_56 rfl 5 rfl ?_
        refine tm_iadd dX12_livesBehind_57 ?_
        refine tm_zald (z := (192 * v10) + g) (v := σ.2.1 59 ((192 * v10) + g)) dX12_livesBehind_58 (show mT[37]? = some (59, 2, 42432) from rfl) (by omega) (by omega) (by decide) (rfl) ?_
        have g22 := RG.a hR 59 ((192 * v10) + g)
        have := hbl ((192 * v10) + g)
        refine tm_if_eq (tgt := 66) dX12_livesBehind_59 (by decide) ⟨by omega, by omega⟩ (fun h23 => ?_) (fun h23 => ?_)
        · refine tm_iconst dX12_livesBehind_66 ?_
          exact tm_zret (v := 0) rfl (by decide) dX12_livesBehind_67 (⟨_, rfl, rfl, by omega⟩)
        · refine tm_iconst dX12_livesBehind_62 ?_
          refine tm_goto (tgt := 67) dX12_livesBehind_63 (by decide) ?_
          exact tm_zret (v := 1) rfl (by decide) dX12_livesBehind_67 (⟨_, rfl, rfl, by omega⟩)
theorem fl12_140 : Cond.fieldLink RX12 140 (TX12 63).1 (TX12 63).2.1 (TX12 63).2.2.1 ∈ pWW := pw7 (List.mem_of_getElem? (i := 70) rfl) rfl
theorem dX12_atOdds_0 : decode cX12_atOdds 0 = .ok (.iload_n 1, 1) := by decide +kernel
theorem dX12_atOdds_1 : decode cX12_atOdds 1 = .ok (.iload_n 2, 1) := by decide +kernel
theorem dX12_atOdds_2 : decode cX12_atOdds 2 = .ok (.if_icmp .eq 29, 3) := by decide +kernel
theorem dX12_atOdds_31 : decode cX12_atOdds 31 = .ok (.return_, 1) := by decide +kernel
theorem dX12_atOdds_5 : decode cX12_atOdds 5 = .ok (.aload_n 0, 1) := by decide +kernel
theorem dX12_atOdds_6 : decode cX12_atOdds 6 = .ok (.getfield 140, 3) := by decide +kernel
theorem dX12_atOdds_9 : decode cX12_atOdds 9 = .ok (.sipush 192, 3) := by decide +kernel
theorem dX12_atOdds_12 : decode cX12_atOdds 12 = .ok (.iload_n 1, 1) := by decide +kernel
theorem dX12_atOdds_13 : decode cX12_atOdds 13 = .ok (.imul, 1) := by decide +kernel
theorem dX12_atOdds_14 : decode cX12_atOdds 14 = .ok (.iload_n 2, 1) := by decide +kernel
theorem dX12_atOdds_15 : decode cX12_atOdds 15 = .ok (.iadd, 1) := by decide +kernel
theorem dX12_atOdds_16 : decode cX12_atOdds 16 = .ok (.iconst 1, 1) := by decide +kernel
theorem dX12_atOdds_17 : decode cX12_atOdds 17 = .ok (.bastore, 1) := by decide +kernel
theorem dX12_atOdds_18 : decode cX12_atOdds 18 = .ok (.aload_n 0, 1) := by decide +kernel
theorem dX12_atOdds_19 : decode cX12_atOdds 19 = .ok (.getfield 140, 3) := by decide +kernel
theorem dX12_atOdds_22 : decode cX12_atOdds 22 = .ok (.sipush 192, 3) := by decide +kernel
theorem dX12_atOdds_25 : decode cX12_atOdds 25 = .ok (.iload_n 2, 1) := by decide +kernel
theorem dX12_atOdds_26 : decode cX12_atOdds 26 = .ok (.imul, 1) := by decide +kernel
theorem dX12_atOdds_27 : decode cX12_atOdds 27 = .ok (.iload_n 1, 1) := by decide +kernel
theorem dX12_atOdds_28 : decode cX12_atOdds 28 = .ok (.iadd, 1) := by decide +kernel
theorem dX12_atOdds_29 : decode cX12_atOdds 29 = .ok (.iconst 1, 1) := by decide +kernel
theorem dX12_atOdds_30 : decode cX12_atOdds 30 = .ok (.bastore, 1) := by decide +kernel
set_option maxRecDepth 20000 in
theorem c_X12_atOdds (d : Nat) {b : Nat} {σ : MS} {x : Int} {y : Int} (hx : 0 ≤ x ∧ x < 192) (hy : 0 ≤ y ∧ y < 192) (hR : RG σ) (hbo : BO 63 σ) : Tm (d + 1) m_X12_atOdds 0 b σ [(0, .ref b), (1, .int (iI x)), (2, .int (iI y))] [] (fun ro σ2 => ro = none ∧ (Fr [] [63] [] σ σ2) ∧ (RG σ2) ∧ (BO 63 σ2)) := by
  refine tm_iload_n dX12_atOdds_0 rfl 1 rfl ?_
  refine tm_iload_n dX12_atOdds_1 rfl 2 rfl ?_
  refine tm_icmp_eq (tgt := 31) dX12_atOdds_2 (by decide) ⟨by omega, by omega⟩ ⟨by omega, by omega⟩ (fun h1 => ?_) (fun h1 => ?_)
  · exact tm_vret rfl dX12_atOdds_31 (⟨rfl, Fr.rfl, hR, by first | exact hbo | exact (hbo.A (by omega)).A (by omega)⟩)
  · refine tm_aload_n dX12_atOdds_5 rfl 0 rfl ?_
    refine tm_get (k := 63) (v := .ref (b + 1 + 40)) lay_12 dX12_atOdds_6 (by decide) fl12_140 rfl ?_
    refine tm_sipush dX12_atOdds_9 (by decide) ?_
    refine tm_iload_n dX12_atOdds_12 rfl 1 rfl ?_
    refine tm_imul dX12_atOdds_13 ?_
    refine tm_iload_n dX12_atOdds_14 rfl 2 rfl ?_
    refine tm_iadd dX12_atOdds_15 ?_
    refine tm_iconst dX12_atOdds_16 ?_
    refine tm_zast (z := (192 * x) + y) (v := 1) dX12_atOdds_17 (show mT[40]? = some (63, 2, 36864) from rfl) (by omega) (by omega) (by decide) (by omega) ?_
    refine tm_aload_n dX12_atOdds_18 rfl 0 rfl ?_
    refine tm_get (k := 63) (v := .ref (b + 1 + 40)) lay_12 dX12_atOdds_19 (by decide) fl12_140 rfl ?_
    refine tm_sipush dX12_atOdds_22 (by decide) ?_
    refine tm_iload_n dX12_atOdds_25 rfl 2 rfl ?_
    refine tm_imul dX12_atOdds_26 ?_
    refine tm_iload_n dX12_atOdds_27 rfl 1 rfl ?_
    refine tm_iadd dX12_atOdds_28 ?_
    refine tm_iconst dX12_atOdds_29 ?_
    refine tm_zast (z := (192 * y) + x) (v := 1) dX12_atOdds_30 (show mT[40]? = some (63, 2, 36864) from rfl) (by omega) (by omega) (by decide) (by omega) ?_
    exact tm_vret rfl dX12_atOdds_31 (⟨rfl, ((Fr.rfl.A (by decide)).A (by decide)), ((hR.A (by omega)).A (by omega)), by first | exact hbo | exact (hbo.A (by omega)).A (by omega)⟩)
theorem fl12_133 : Cond.fieldLink RX12 133 (TX12 60).1 (TX12 60).2.1 (TX12 60).2.2.1 ∈ pWW := pw7 (List.mem_of_getElem? (i := 67) rfl) rfl
theorem dX12_forgetAll_2 : decode cX12_forgetAll 2 = .ok (.iload_n 1, 1) := by decide +kernel
theorem dX12_forgetAll_3 : decode cX12_forgetAll 3 = .ok (.sipush 192, 3) := by decide +kernel
theorem dX12_forgetAll_6 : decode cX12_forgetAll 6 = .ok (.if_icmp .ge 16, 3) := by decide +kernel
theorem dX12_forgetAll_9 : decode cX12_forgetAll 9 = .ok (.aload_n 0, 1) := by decide +kernel
theorem dX12_forgetAll_10 : decode cX12_forgetAll 10 = .ok (.getfield 133, 3) := by decide +kernel
theorem dX12_forgetAll_13 : decode cX12_forgetAll 13 = .ok (.iload_n 1, 1) := by decide +kernel
theorem dX12_forgetAll_14 : decode cX12_forgetAll 14 = .ok (.iconst 0, 1) := by decide +kernel
theorem dX12_forgetAll_15 : decode cX12_forgetAll 15 = .ok (.iastore, 1) := by decide +kernel
theorem dX12_forgetAll_16 : decode cX12_forgetAll 16 = .ok (.iinc 1 1, 3) := by decide +kernel
theorem dX12_forgetAll_19 : decode cX12_forgetAll 19 = .ok (.goto (-17), 3) := by decide +kernel
theorem dX12_forgetAll_0 : decode cX12_forgetAll 0 = .ok (.iconst 0, 1) := by decide +kernel
theorem dX12_forgetAll_1 : decode cX12_forgetAll 1 = .ok (.istore_n 1, 1) := by decide +kernel
theorem dX12_forgetAll_22 : decode cX12_forgetAll 22 = .ok (.return_, 1) := by decide +kernel
end
