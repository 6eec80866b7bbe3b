def LAB (σ : MS) : Prop := ∀ l, 0 ≤ σ.2.1 46 l ∧ σ.2.1 46 l ≤ 219
theorem LAB.fr {ss ks js : List Nat} {σ τ : MS} (h : LAB σ) (f : Fr ss ks js σ τ) (hk : 46 ∉ ks) : LAB τ := fun l => by rw [f.2.1 46 hk]; exact h l
theorem LAB.A {σ : MS} (h : LAB σ) {z v : Int} (hv : 0 ≤ v ∧ v ≤ 219) : LAB (sA 46 z v σ) := fun l => by
  simp only [sA, if_true]
  by_cases e : l = z
  · rw [if_pos e]; exact hv
  · rw [if_neg e]; exact h l
theorem ITM.fr {ss ks js : List Nat} {σ τ : MS} (h : ITM σ) (f : Fr ss ks js σ τ) (hk : 9 ∉ ks) : ITM τ := fun l => by rw [f.2.1 9 hk]; exact h l
theorem PAR.fr {ss ks js : List Nat} {σ τ : MS} (h : PAR σ) (f : Fr ss ks js σ τ) (hk : 11 ∉ ks) : PAR τ := fun l => by rw [f.2.1 11 hk]; exact h l
theorem NAM.fr {ss ks js : List Nat} {σ τ : MS} (h : NAM σ) (f : Fr ss ks js σ τ) (hk : 12 ∉ ks) : NAM τ := fun l => by rw [f.2.1 12 hk]; exact h l
/-- labels of a routine stand within labelAt's row -/
def LBR (σ : MS) (r : Int) : Prop := ∀ k, 0 ≤ k → k < σ.2.1 9 r → σ.2.1 3 (220 * r + k) = 13 → 0 ≤ σ.2.1 4 (220 * r + k) ∧ σ.2.1 4 (220 * r + k) < 4096
/-- labelAt tells where labels stand, of the first n items -/
def LFN (σ τ : MS) (r n : Int) : Prop := ∀ k, 0 ≤ k → k < n → σ.2.1 3 (220 * r + k) = 13 → 0 ≤ τ.2.1 46 (σ.2.1 4 (220 * r + k)) ∧ τ.2.1 46 (σ.2.1 4 (220 * r + k)) < n ∧ σ.2.1 3 (220 * r + τ.2.1 46 (σ.2.1 4 (220 * r + k))) = 13 ∧ σ.2.1 4 (220 * r + τ.2.1 46 (σ.2.1 4 (220 * r + k))) = σ.2.1 4 (220 * r + k)
theorem LFN.skip {σ τ : MS} {r k : Int} (h : LFN σ τ r k) (hk : ¬ σ.2.1 3 (220 * r + k) = 13) : LFN σ τ r (k + 1) := fun j a c e => by
  by_cases q : j = k
  · subst q; exact absurd e hk
  · obtain ⟨x1, x2, x3⟩ := h j a (by omega) e; exact ⟨x1, by omega, x3⟩
theorem LFN.put {σ τ : MS} {r k : Int} (h : LFN σ τ r k) (h0 : 0 ≤ k) (hk : σ.2.1 3 (220 * r + k) = 13) : LFN σ (sA 46 (σ.2.1 4 (220 * r + k)) k τ) r (k + 1) := fun j a c e => by
  simp only [sA, if_true]
  by_cases q : σ.2.1 4 (220 * r + j) = σ.2.1 4 (220 * r + k)
  · rw [if_pos q]; exact ⟨h0, by omega, hk, q.symm⟩
  · rw [if_neg q]
    by_cases q2 : j = k
    · subst q2; exact absurd rfl q
    · obtain ⟨x1, x2, x3⟩ := h j a (by omega) e; exact ⟨x1, by omega, x3⟩

theorem dX12_worked_0 : decode cX12_worked 0 = .ok (.iload_n 0, 1) := by decide +kernel
theorem dX12_worked_1 : decode cX12_worked 1 = .ok (.tableswitch 54 1 4 #[31, 35, 39, 43], 31) := by decide +kernel
theorem dX12_worked_55 : decode cX12_worked 55 = .ok (.iload_n 1, 1) := by decide +kernel
theorem dX12_worked_56 : decode cX12_worked 56 = .ok (.iload_n 2, 1) := by decide +kernel
theorem dX12_worked_57 : decode cX12_worked 57 = .ok (.if_icmp .ge 7, 3) := by decide +kernel
theorem dX12_worked_64 : decode cX12_worked 64 = .ok (.iconst 0, 1) := by decide +kernel
theorem dX12_worked_65 : decode cX12_worked 65 = .ok (.ireturn, 1) := by decide +kernel
theorem dX12_worked_60 : decode cX12_worked 60 = .ok (.iconst 1, 1) := by decide +kernel
theorem dX12_worked_61 : decode cX12_worked 61 = .ok (.goto 4, 3) := by decide +kernel
theorem dX12_worked_32 : decode cX12_worked 32 = .ok (.iload_n 1, 1) := by decide +kernel
theorem dX12_worked_33 : decode cX12_worked 33 = .ok (.iload_n 2, 1) := by decide +kernel
theorem dX12_worked_34 : decode cX12_worked 34 = .ok (.iadd, 1) := by decide +kernel
theorem dX12_worked_35 : decode cX12_worked 35 = .ok (.ireturn, 1) := by decide +kernel
theorem dX12_worked_36 : decode cX12_worked 36 = .ok (.iload_n 1, 1) := by decide +kernel
theorem dX12_worked_37 : decode cX12_worked 37 = .ok (.iload_n 2, 1) := by decide +kernel
theorem dX12_worked_38 : decode cX12_worked 38 = .ok (.isub, 1) := by decide +kernel
theorem dX12_worked_39 : decode cX12_worked 39 = .ok (.ireturn, 1) := by decide +kernel
theorem dX12_worked_40 : decode cX12_worked 40 = .ok (.iload_n 1, 1) := by decide +kernel
theorem dX12_worked_41 : decode cX12_worked 41 = .ok (.iload_n 2, 1) := by decide +kernel
theorem dX12_worked_42 : decode cX12_worked 42 = .ok (.imul, 1) := by decide +kernel
theorem dX12_worked_43 : decode cX12_worked 43 = .ok (.ireturn, 1) := by decide +kernel
theorem dX12_worked_44 : decode cX12_worked 44 = .ok (.iload_n 1, 1) := by decide +kernel
theorem dX12_worked_45 : decode cX12_worked 45 = .ok (.iload_n 2, 1) := by decide +kernel
theorem dX12_worked_46 : decode cX12_worked 46 = .ok (.if_icmp .ne 7, 3) := by decide +kernel
theorem dX12_worked_53 : decode cX12_worked 53 = .ok (.iconst 0, 1) := by decide +kernel
theorem dX12_worked_54 : decode cX12_worked 54 = .ok (.ireturn, 1) := by decide +kernel
theorem dX12_worked_49 : decode cX12_worked 49 = .ok (.iconst 1, 1) := by decide +kernel
theorem dX12_worked_50 : decode cX12_worked 50 = .ok (.goto 4, 3) := by decide +kernel
set_option maxRecDepth 20000 in
theorem c_X12_worked (d : Nat) {b : Nat} {σ : MS} {k : Int} {x : Int} {y : Int} (h_k : -2147483648 ≤ k ∧ k ≤ 2147483647) (h_x : -2147483648 ≤ x ∧ x ≤ 2147483647) (h_y : -2147483648 ≤ y ∧ y ≤ 2147483647) : Tm (d + 1) m_X12_worked 0 b σ [(0, .int (iI k)), (1, .int (iI x)), (2, .int (iI y))] [] (fun ro σ2 => ∃ v : Int, ro = some (.int (iI v)) ∧ σ = σ2 ∧ (-2147483648 ≤ v ∧ v ≤ 2147483647)) := by
  refine tm_iload_n dX12_worked_0 rfl 0 rfl ?_
  by_cases h1 : k < 1 ∨ 4 < k
  · refine tm_tableOut (tgt := 55) dX12_worked_1 ⟨by omega, by omega⟩ h1 (by decide) ?_
    refine tm_iload_n dX12_worked_55 rfl 1 rfl ?_
    refine tm_iload_n dX12_worked_56 rfl 2 rfl ?_
    refine tm_icmp_ge (tgt := 64) dX12_worked_57 (by decide) ⟨by omega, by omega⟩ ⟨by omega, by omega⟩ (fun h2 => ?_) (fun h2 => ?_)
    · refine tm_iconst dX12_worked_64 ?_
      exact tm_iret rfl dX12_worked_65 (⟨_, rfl, rfl, by decide⟩)
    · refine tm_iconst dX12_worked_60 ?_
      refine tm_goto (tgt := 65) dX12_worked_61 (by decide) ?_
      exact tm_iret rfl dX12_worked_65 (⟨_, rfl, rfl, by decide⟩)
  · have h1c : k = 1 ∨ k = 2 ∨ k = 3 ∨ k = 4 := by omega
    rcases h1c with h1v | h1v | h1v | h1v
    · refine tm_tableIn (tgt := 32) dX12_worked_1 ⟨by omega, by omega⟩ (by omega) (by omega) (show _ = some (31) by rw [h1v]; rfl) (by decide) ?_
      refine tm_iload_n dX12_worked_32 rfl 1 rfl ?_
      refine tm_iload_n dX12_worked_33 rfl 2 rfl ?_
      refine tm_iadd dX12_worked_34 ?_
      exact tm_iret rfl dX12_worked_35 (⟨_, congrArg (fun q => some (Value.int q)) (iI_self _).symm, rfl, inR_toInt _⟩)
    · refine tm_tableIn (tgt := 36) dX12_worked_1 ⟨by omega, by omega⟩ (by omega) (by omega) (show _ = some (35) by rw [h1v]; rfl) (by decide) ?_
      refine tm_iload_n dX12_worked_36 rfl 1 rfl ?_
      refine tm_iload_n dX12_worked_37 rfl 2 rfl ?_
      refine tm_isub dX12_worked_38 ?_
      exact tm_iret rfl dX12_worked_39 (⟨_, congrArg (fun q => some (Value.int q)) (iI_self _).symm, rfl, inR_toInt _⟩)
    · refine tm_tableIn (tgt := 40) dX12_worked_1 ⟨by omega, by omega⟩ (by omega) (by omega) (show _ = some (39) by rw [h1v]; rfl) (by decide) ?_
      refine tm_iload_n dX12_worked_40 rfl 1 rfl ?_
      refine tm_iload_n dX12_worked_41 rfl 2 rfl ?_
      refine tm_imul dX12_worked_42 ?_
      exact tm_iret rfl dX12_worked_43 (⟨_, congrArg (fun q => some (Value.int q)) (iI_self _).symm, rfl, inR_toInt _⟩)
    · refine tm_tableIn (tgt := 44) dX12_worked_1 ⟨by omega, by omega⟩ (by omega) (by omega) (show _ = some (43) by rw [h1v]; rfl) (by decide) ?_
      refine tm_iload_n dX12_worked_44 rfl 1 rfl ?_
      refine tm_iload_n dX12_worked_45 rfl 2 rfl ?_
      refine tm_icmp_ne (tgt := 53) dX12_worked_46 (by decide) ⟨by omega, by omega⟩ ⟨by omega, by omega⟩ (fun h3 => ?_) (fun h3 => ?_)
      · refine tm_iconst dX12_worked_53 ?_
        exact tm_iret rfl dX12_worked_54 (⟨_, rfl, rfl, by decide⟩)
      · refine tm_iconst dX12_worked_49 ?_
        refine tm_goto (tgt := 54) dX12_worked_50 (by decide) ?_
        exact tm_iret rfl dX12_worked_54 (⟨_, rfl, rfl, by decide⟩)
theorem dX12_isParam_2 : decode cX12_isParam 2 = .ok (.iload_n 3, 1) := by decide +kernel
theorem dX12_isParam_3 : decode cX12_isParam 3 = .ok (.aload_n 0, 1) := by decide +kernel
theorem dX12_isParam_4 : decode cX12_isParam 4 = .ok (.getfield 35, 3) := by decide +kernel
theorem dX12_isParam_7 : decode cX12_isParam 7 = .ok (.iload_n 1, 1) := by decide +kernel
theorem dX12_isParam_8 : decode cX12_isParam 8 = .ok (.iaload, 1) := by decide +kernel
theorem dX12_isParam_9 : decode cX12_isParam 9 = .ok (.if_icmp .ge 27, 3) := by decide +kernel
theorem dX12_isParam_12 : decode cX12_isParam 12 = .ok (.aload_n 0, 1) := by decide +kernel
theorem dX12_isParam_13 : decode cX12_isParam 13 = .ok (.getfield 56, 3) := by decide +kernel
theorem dX12_isParam_16 : decode cX12_isParam 16 = .ok (.sipush 144, 3) := by decide +kernel
theorem dX12_isParam_19 : decode cX12_isParam 19 = .ok (.iload_n 1, 1) := by decide +kernel
theorem dX12_isParam_20 : decode cX12_isParam 20 = .ok (.imul, 1) := by decide +kernel
theorem dX12_isParam_21 : decode cX12_isParam 21 = .ok (.iload_n 3, 1) := by decide +kernel
theorem dX12_isParam_22 : decode cX12_isParam 22 = .ok (.iadd, 1) := by decide +kernel
theorem dX12_isParam_23 : decode cX12_isParam 23 = .ok (.iaload, 1) := by decide +kernel
theorem dX12_isParam_24 : decode cX12_isParam 24 = .ok (.iload_n 2, 1) := by decide +kernel
theorem dX12_isParam_25 : decode cX12_isParam 25 = .ok (.if_icmp .ne 5, 3) := by decide +kernel
theorem dX12_isParam_30 : decode cX12_isParam 30 = .ok (.iinc 3 1, 3) := by decide +kernel
theorem dX12_isParam_33 : decode cX12_isParam 33 = .ok (.goto (-31), 3) := by decide +kernel
theorem dX12_isParam_28 : decode cX12_isParam 28 = .ok (.iconst 1, 1) := by decide +kernel
theorem dX12_isParam_29 : decode cX12_isParam 29 = .ok (.ireturn, 1) := by decide +kernel
set_option maxRecDepth 20000 in
theorem l_isParam (d : Nat) {b : Nat} {σ : MS} {r : Int} {g : Int} {post : Option Value → MS → Prop} (hr : 0 ≤ r ∧ r < 6) (hR : RG σ) (hpar : PAR σ) (h_g : -2147483648 ≤ g ∧ g ≤ 2147483647) (hx_36 : ∀ (n1 : Int) , (∀ j, 0 ≤ j → j < σ.2.1 11 r → ¬ σ.2.1 18 (144 * r + j) = g) → Tm (d + 1) m_X12_isParam 36 b σ [(3, .int (iI n1)), (0, .ref b), (1, .int (iI r)), (2, .int (iI g))] [] post) (hr1 : ∀ j, 0 ≤ j → j < σ.2.1 11 r → σ.2.1 18 (144 * r + j) = g → post (some (.int (iI 1))) σ) : ∀ (n : Nat) (n1 : Int) , (0 ≤ n1 ∧ n1 ≤ 4) → (∀ j, 0 ≤ j → j < n1 → ¬ σ.2.1 18 (144 * r + j) = g) → (4 - n1).toNat = n → Tm (d + 1) m_X12_isParam 2 b σ [(3, .int (iI n1)), (0, .ref b), (1, .int (iI r)), (2, .int (iI g))] [] post := by
  intro n
  induction n using Nat.strongRecOn with
  | _ n ih =>
    intro n1 h0 hj hm
    refine tm_iload_n dX12_isParam_2 rfl 0 rfl ?_
    refine tm_aload_n dX12_isParam_3 rfl 1 rfl ?_
    refine tm_get (k := 11) (v := .ref (b + 1 + 8)) lay_12 dX12_isParam_4 (by decide) fl12_35 rfl ?_
    refine tm_iload_n dX12_isParam_7 rfl 2 rfl ?_
    refine tm_iald (z := r) (v := σ.2.1 11 r) dX12_isParam_8 (show mT[8]? = some (11, 0, 6) from rfl) (by omega) (by omega) (by decide) (rfl) ?_
    have g1 := RG.a hR 11 (r)
    have := hpar (r) (by omega) (by omega)
    refine tm_icmp_ge (tgt := 36) dX12_isParam_9 (by decide) ⟨by omega, by omega⟩ ⟨by omega, by omega⟩ (fun h2 => ?_) (fun h2 => ?_)
    · exact tm_sub [0, 1, 2, 3] rfl (hx_36 (n1) (fun j a b => hj j a (by omega)))
    · refine tm_aload_n dX12_isParam_12 rfl 1 rfl ?_
      refine tm_get (k := 18) (v := .ref (b + 1 + 15)) lay_12 dX12_isParam_13 (by decide) fl12_56 rfl ?_
      refine tm_sipush dX12_isParam_16 (by decide) ?_
      refine tm_iload_n dX12_isParam_19 rfl 2 rfl ?_
      refine tm_imul dX12_isParam_20 ?_
      refine tm_iload_n dX12_isParam_21 rfl 0 rfl ?_
      refine tm_iadd dX12_isParam_22 ?_
      refine tm_iald (z := (144 * r) + n1) (v := σ.2.1 18 ((144 * r) + n1)) dX12_isParam_23 (show mT[15]? = some (18, 0, 864) from rfl) (by omega) (by omega) (by decide) (rfl) ?_
      have g3 := RG.a hR 18 ((144 * r) + n1)
      refine tm_iload_n dX12_isParam_24 rfl 3 rfl ?_
      refine tm_icmp_ne (tgt := 30) dX12_isParam_25 (by decide) ⟨by omega, by omega⟩ ⟨by omega, by omega⟩ (fun h4 => ?_) (fun h4 => ?_)
      · refine tm_iinc (q0 := 0) (L' := [(3, .int (iI (n1 + 1))), (0, .ref b), (1, .int (iI r)), (2, .int (iI g))]) dX12_isParam_30 rfl (by decide) rfl ?_
        refine tm_goto (tgt := 2) dX12_isParam_33 (by decide) ?_
        exact tm_sub [0, 1, 2, 3] rfl (ih _ (by omega) (n1 + 1) (by omega) (fun j a b => by
          by_cases e : j = n1
          · subst e; omega
          · exact hj j a (by omega)) rfl)
      · refine tm_iconst dX12_isParam_28 ?_
        exact tm_zret (v := 1) rfl (by decide) dX12_isParam_29 (hr1 n1 (by omega) (by omega) (by assumption))
theorem dX12_isParam_0 : decode cX12_isParam 0 = .ok (.iconst 0, 1) := by decide +kernel
theorem dX12_isParam_1 : decode cX12_isParam 1 = .ok (.istore_n 3, 1) := by decide +kernel
theorem dX12_isParam_36 : decode cX12_isParam 36 = .ok (.iconst 0, 1) := by decide +kernel
theorem dX12_isParam_37 : decode cX12_isParam 37 = .ok (.ireturn, 1) := by decide +kernel
set_option maxRecDepth 20000 in
theorem c_X12_isParam (d : Nat) {b : Nat} {σ : MS} {r : Int} {g : Int} (hr : 0 ≤ r ∧ r < 6) (hR : RG σ) (hpar : PAR σ) (h_g : -2147483648 ≤ g ∧ g ≤ 2147483647) : Tm (d + 1) m_X12_isParam 0 b σ [(0, .ref b), (1, .int (iI r)), (2, .int (iI g))] [] (fun ro σ2 => ∃ v : Int, ro = some (.int (iI v)) ∧ σ = σ2 ∧ ((v = 0 ∨ v = 1)) ∧ ((v = 1 ↔ ∃ j, 0 ≤ j ∧ j < σ.2.1 11 r ∧ σ.2.1 18 (144 * r + j) = g))) := by
  refine tm_iconst dX12_isParam_0 ?_
  refine tm_istore_n (L' := [(3, .int (iI 0)), (0, .ref b), (1, .int (iI r)), (2, .int (iI g))]) dX12_isParam_1 rfl (by decide) rfl ?_
  refine tm_sub [0, 1, 2, 3] rfl (l_isParam (d) (σ := σ) (r := r) (g := g) hr hR hpar (by omega) (fun n15 f4 => ?_) (fun i a b c => ⟨_, rfl, rfl, Or.inr rfl, fun _ => ⟨i, a, b, c⟩, fun _ => rfl⟩) _ (0) (by omega) (fun j a b => by omega) rfl)
  show Tm _ _ 36 b σ [(3, .int (iI n15)), (0, .ref b), (1, .int (iI r)), (2, .int (iI g))] [] _
  refine tm_iconst dX12_isParam_36 ?_
  exact tm_zret (v := 0) rfl (by decide) dX12_isParam_37 (⟨_, rfl, rfl, Or.inl rfl, fun h => absurd h (by decide), fun ⟨i, a, b, c⟩ => absurd c (f4 i a b)⟩)
theorem ml12_436 : Cond.methodLink RX12 436 yX12_writesTo ∈ pWW := pw9 (List.mem_of_getElem? (i := 137) rfl) rfl
theorem dX12_written_6 : decode cX12_written 6 = .ok (.iload 6, 2) := by decide +kernel
theorem dX12_written_8 : decode cX12_written 8 = .ok (.iload_n 3, 1) := by decide +kernel
theorem dX12_written_9 : decode cX12_written 9 = .ok (.if_icmp .gt 35, 3) := by decide +kernel
theorem dX12_written_12 : decode cX12_written 12 = .ok (.iload 5, 2) := by decide +kernel
theorem dX12_written_14 : decode cX12_written 14 = .ok (.aload_n 0, 1) := by decide +kernel
theorem dX12_written_15 : decode cX12_written 15 = .ok (.aload_n 0, 1) := by decide +kernel
theorem dX12_written_16 : decode cX12_written 16 = .ok (.iload_n 1, 1) := by decide +kernel
theorem dX12_written_17 : decode cX12_written 17 = .ok (.iload 6, 2) := by decide +kernel
theorem dX12_written_19 : decode cX12_written 19 = .ok (.invokevirtual 203, 3) := by decide +kernel
theorem dX12_written_22 : decode cX12_written 22 = .ok (.iload 4, 2) := by decide +kernel
theorem dX12_written_24 : decode cX12_written 24 = .ok (.invokevirtual 436, 3) := by decide +kernel
theorem dX12_written_27 : decode cX12_written 27 = .ok (.ifCond .eq 7, 3) := by decide +kernel
theorem dX12_written_34 : decode cX12_written 34 = .ok (.iconst 0, 1) := by decide +kernel
theorem dX12_written_35 : decode cX12_written 35 = .ok (.iadd, 1) := by decide +kernel
theorem dX12_written_36 : decode cX12_written 36 = .ok (.istore 5, 2) := by decide +kernel
theorem dX12_written_38 : decode cX12_written 38 = .ok (.iinc 6 1, 3) := by decide +kernel
theorem dX12_written_41 : decode cX12_written 41 = .ok (.goto (-35), 3) := by decide +kernel
theorem dX12_written_30 : decode cX12_written 30 = .ok (.iconst 1, 1) := by decide +kernel
theorem dX12_written_31 : decode cX12_written 31 = .ok (.goto 4, 3) := by decide +kernel
set_option maxRecDepth 20000 in
theorem l_written (d : Nat) {b : Nat} {σ : MS} {r : Int} {fr : Int} {to : Int} {g : Int} {post : Option Value → MS → Prop} (hr : 0 ≤ r ∧ r < 12) (hR : RG σ) (hto : -1 ≤ to ∧ to < 220) (h_g : -2147483648 ≤ g ∧ g ≤ 2147483647) (hx_44 : ∀ (n1 : Int) (k : Int) , (0 ≤ n1 ∧ n1 ≤ 221) → Tm (d + 3) m_X12_written 44 b σ [(6, .int (iI k)), (5, .int (iI n1)), (0, .ref b), (1, .int (iI r)), (2, .int (iI fr)), (3, .int (iI to)), (4, .int (iI g))] [] post) : ∀ (n : Nat) (n1 : Int) (k : Int) , (0 ≤ n1 ∧ n1 ≤ k ∧ k ≤ 221) → (221 - k).toNat = n → Tm (d + 3) m_X12_written 6 b σ [(6, .int (iI k)), (5, .int (iI n1)), (0, .ref b), (1, .int (iI r)), (2, .int (iI fr)), (3, .int (iI to)), (4, .int (iI g))] [] post := by
  intro n
  induction n using Nat.strongRecOn with
  | _ n ih =>
    intro n1 k h0 hm
    refine tm_iload dX12_written_6 0 rfl ?_
    refine tm_iload_n dX12_written_8 rfl 5 rfl ?_
    refine tm_icmp_gt (tgt := 44) dX12_written_9 (by decide) ⟨by omega, by omega⟩ ⟨by omega, by omega⟩ (fun h1 => ?_) (fun h1 => ?_)
    · exact tm_sub [0, 1, 2, 3, 4, 5, 6] rfl (hx_44 (n1) (k) (by omega))
    · refine tm_iload dX12_written_12 1 rfl ?_
      refine tm_aload_n dX12_written_14 rfl 2 rfl ?_
      refine tm_aload_n dX12_written_15 rfl 2 rfl ?_
      refine tm_iload_n dX12_written_16 rfl 3 rfl ?_
      refine tm_iload dX12_written_17 0 rfl ?_
      refine tm_callV (M := m_X12_written) (pc := 19) (ix := 203) (M' := m_X12_at) (As := [.int (iI r), .int (iI k)]) (rest := [.ref b, .int (iI n1)]) dX12_written_19 ok_X12_at im_X12_at se_X12_at ml12_203 np_X12_at rfl rfl (Nat.le_of_ble_eq_true rfl) (Nat.le_of_ble_eq_true rfl) rfl (c_X12_at (d + 1) (σ := σ) (x := r) (k := k) ) (fun r2 σ3 hp => ?_)
      obtain ⟨v4, rfl, rfl, f5⟩ := hp
      subst f5
      show Tm _ _ 22 b σ [(6, .int (iI k)), (5, .int (iI n1)), (0, .ref b), (1, .int (iI r)), (2, .int (iI fr)), (3, .int (iI to)), (4, .int (iI g))] [.int (iI (220 * r + k)), .ref b, .int (iI n1)] _
      refine tm_iload dX12_written_22 6 rfl ?_
      refine tm_callV (M := m_X12_written) (pc := 24) (ix := 436) (M' := m_X12_writesTo) (As := [.int (iI (220 * r + k)), .int (iI g)]) (rest := [.int (iI n1)]) dX12_written_24 ok_X12_writesTo im_X12_writesTo se_X12_writesTo ml12_436 np_X12_writesTo rfl rfl (Nat.le_of_ble_eq_true rfl) (Nat.le_of_ble_eq_true rfl) rfl (c_X12_writesTo (d) (σ := σ) (x := 220 * r + k) (g := g) (by omega) hR (by omega)) (fun r6 σ7 hp => ?_)
      obtain ⟨v8, rfl, rfl, f9, f10⟩ := hp
      show Tm _ _ 27 b σ [(6, .int (iI k)), (5, .int (iI n1)), (0, .ref b), (1, .int (iI r)), (2, .int (iI fr)), (3, .int (iI to)), (4, .int (iI g))] [.int (iI v8), .int (iI n1)] _
      refine tm_if_eq (tgt := 34) dX12_written_27 (by decide) ⟨by omega, by omega⟩ (fun h11 => ?_) (fun h11 => ?_)
      · refine tm_iconst dX12_written_34 ?_
        refine tm_iadd dX12_written_35 ?_
        refine tm_istore (L' := [(5, .int (iI (n1 + 0))), (6, .int (iI k)), (0, .ref b), (1, .int (iI r)), (2, .int (iI fr)), (3, .int (iI to)), (4, .int (iI g))]) dX12_written_36 (by decide) rfl ?_
        refine tm_iinc (q0 := 1) (L' := [(6, .int (iI (k + 1))), (5, .int (iI (n1 + 0))), (0, .ref b), (1, .int (iI r)), (2, .int (iI fr)), (3, .int (iI to)), (4, .int (iI g))]) dX12_written_38 rfl (by decide) rfl ?_
        refine tm_goto (tgt := 6) dX12_written_41 (by decide) ?_
        exact tm_sub [0, 1, 2, 3, 4, 5, 6] rfl (ih _ (by omega) (n1 + 0) (k + 1) (by omega) rfl)
      · refine tm_iconst dX12_written_30 ?_
        refine tm_goto (tgt := 35) dX12_written_31 (by decide) ?_
        refine tm_iadd dX12_written_35 ?_
        refine tm_istore (L' := [(5, .int (iI (n1 + 1))), (6, .int (iI k)), (0, .ref b), (1, .int (iI r)), (2, .int (iI fr)), (3, .int (iI to)), (4, .int (iI g))]) dX12_written_36 (by decide) rfl ?_
        refine tm_iinc (q0 := 1) (L' := [(6, .int (iI (k + 1))), (5, .int (iI (n1 + 1))), (0, .ref b), (1, .int (iI r)), (2, .int (iI fr)), (3, .int (iI to)), (4, .int (iI g))]) dX12_written_38 rfl (by decide) rfl ?_
        refine tm_goto (tgt := 6) dX12_written_41 (by decide) ?_
        exact tm_sub [0, 1, 2, 3, 4, 5, 6] rfl (ih _ (by omega) (n1 + 1) (k + 1) (by omega) rfl)
theorem dX12_written_0 : decode cX12_written 0 = .ok (.iconst 0, 1) := by decide +kernel
theorem dX12_written_1 : decode cX12_written 1 = .ok (.istore 5, 2) := by decide +kernel
theorem dX12_written_3 : decode cX12_written 3 = .ok (.iload_n 2, 1) := by decide +kernel
theorem dX12_written_4 : decode cX12_written 4 = .ok (.istore 6, 2) := by decide +kernel
theorem dX12_written_44 : decode cX12_written 44 = .ok (.iload 5, 2) := by decide +kernel
theorem dX12_written_46 : decode cX12_written 46 = .ok (.ireturn, 1) := by decide +kernel
set_option maxRecDepth 20000 in
theorem c_X12_written (d : Nat) {b : Nat} {σ : MS} {r : Int} {fr : Int} {to : Int} {g : Int} (hr : 0 ≤ r ∧ r < 12) (hR : RG σ) (hto : -1 ≤ to ∧ to < 220) (hfr : 0 ≤ fr ∧ fr ≤ 221) (h_g : -2147483648 ≤ g ∧ g ≤ 2147483647) : Tm (d + 3) m_X12_written 0 b σ [(0, .ref b), (1, .int (iI r)), (2, .int (iI fr)), (3, .int (iI to)), (4, .int (iI g))] [] (fun ro σ2 => ∃ v : Int, ro = some (.int (iI v)) ∧ σ = σ2 ∧ (0 ≤ v ∧ v ≤ 221)) := by
  refine tm_iconst dX12_written_0 ?_
  refine tm_istore (L' := [(5, .int (iI 0)), (0, .ref b), (1, .int (iI r)), (2, .int (iI fr)), (3, .int (iI to)), (4, .int (iI g))]) dX12_written_1 (by decide) rfl ?_
  refine tm_iload_n dX12_written_3 rfl 3 rfl ?_
  refine tm_istore (L' := [(6, .int (iI fr)), (5, .int (iI 0)), (0, .ref b), (1, .int (iI r)), (2, .int (iI fr)), (3, .int (iI to)), (4, .int (iI g))]) dX12_written_4 (by decide) rfl ?_
  refine tm_sub [0, 1, 2, 3, 4, 5, 6] rfl (l_written (d) (σ := σ) (r := r) (fr := fr) (to := to) (g := g) (by omega) hR (by omega) (by omega) (fun n16 k7 f5 => ?_) _ (0) (fr) (by omega) rfl)
  show Tm _ _ 44 b σ [(6, .int (iI k7)), (5, .int (iI n16)), (0, .ref b), (1, .int (iI r)), (2, .int (iI fr)), (3, .int (iI to)), (4, .int (iI g))] [] _
  refine tm_iload dX12_written_44 1 rfl ?_
  exact tm_iret rfl dX12_written_46 (⟨_, rfl, rfl, by omega⟩)
theorem fl12_88 : Cond.fieldLink RX12 88 (TX12 46).1 (TX12 46).2.1 (TX12 46).2.2.1 ∈ pWW := pw7 (List.mem_of_getElem? (i := 53) rfl) rfl
theorem dX12_findLabels_2 : decode cX12_findLabels 2 = .ok (.iload_n 2, 1) := by decide +kernel
theorem dX12_findLabels_3 : decode cX12_findLabels 3 = .ok (.aload_n 0, 1) := by decide +kernel
theorem dX12_findLabels_4 : decode cX12_findLabels 4 = .ok (.getfield 32, 3) := by decide +kernel
theorem dX12_findLabels_7 : decode cX12_findLabels 7 = .ok (.iload_n 1, 1) := by decide +kernel
theorem dX12_findLabels_8 : decode cX12_findLabels 8 = .ok (.iaload, 1) := by decide +kernel
theorem dX12_findLabels_9 : decode cX12_findLabels 9 = .ok (.if_icmp .ge 42, 3) := by decide +kernel
theorem dX12_findLabels_12 : decode cX12_findLabels 12 = .ok (.aload_n 0, 1) := by decide +kernel
theorem dX12_findLabels_13 : decode cX12_findLabels 13 = .ok (.getfield 13, 3) := by decide +kernel
theorem dX12_findLabels_16 : decode cX12_findLabels 16 = .ok (.aload_n 0, 1) := by decide +kernel
theorem dX12_findLabels_17 : decode cX12_findLabels 17 = .ok (.iload_n 1, 1) := by decide +kernel
theorem dX12_findLabels_18 : decode cX12_findLabels 18 = .ok (.iload_n 2, 1) := by decide +kernel
theorem dX12_findLabels_19 : decode cX12_findLabels 19 = .ok (.invokevirtual 203, 3) := by decide +kernel
theorem dX12_findLabels_22 : decode cX12_findLabels 22 = .ok (.iaload, 1) := by decide +kernel
theorem dX12_findLabels_23 : decode cX12_findLabels 23 = .ok (.bipush 13, 2) := by decide +kernel
theorem dX12_findLabels_25 : decode cX12_findLabels 25 = .ok (.if_icmp .ne 20, 3) := by decide +kernel
theorem dX12_findLabels_45 : decode cX12_findLabels 45 = .ok (.iinc 2 1, 3) := by decide +kernel
theorem dX12_findLabels_48 : decode cX12_findLabels 48 = .ok (.goto (-46), 3) := by decide +kernel
theorem dX12_findLabels_28 : decode cX12_findLabels 28 = .ok (.aload_n 0, 1) := by decide +kernel
theorem dX12_findLabels_29 : decode cX12_findLabels 29 = .ok (.getfield 88, 3) := by decide +kernel
theorem dX12_findLabels_32 : decode cX12_findLabels 32 = .ok (.aload_n 0, 1) := by decide +kernel
theorem dX12_findLabels_33 : decode cX12_findLabels 33 = .ok (.getfield 17, 3) := by decide +kernel
theorem dX12_findLabels_36 : decode cX12_findLabels 36 = .ok (.aload_n 0, 1) := by decide +kernel
theorem dX12_findLabels_37 : decode cX12_findLabels 37 = .ok (.iload_n 1, 1) := by decide +kernel
theorem dX12_findLabels_38 : decode cX12_findLabels 38 = .ok (.iload_n 2, 1) := by decide +kernel
theorem dX12_findLabels_39 : decode cX12_findLabels 39 = .ok (.invokevirtual 203, 3) := by decide +kernel
theorem dX12_findLabels_42 : decode cX12_findLabels 42 = .ok (.iaload, 1) := by decide +kernel
theorem dX12_findLabels_43 : decode cX12_findLabels 43 = .ok (.iload_n 2, 1) := by decide +kernel
theorem dX12_findLabels_44 : decode cX12_findLabels 44 = .ok (.iastore, 1) := by decide +kernel
set_option maxRecDepth 20000 in
theorem l_findLabels (d : Nat) {b : Nat} {σ0 : MS} {r : Int} {post : Option Value → MS → Prop} (hr : 0 ≤ r ∧ r < 12) (hR0 : RG σ0) (hit : ITM σ0) (hlb : LBR σ0 r) (hx_51 : ∀ (k : Int) (σ : MS) , (Fr [] [46] [] σ0 σ) → (RG σ) → (LAB σ) → (LFN σ0 σ r (σ0.2.1 9 r)) → Tm (d + 2) m_X12_findLabels 51 b σ [(2, .int (iI k)), (0, .ref b), (1, .int (iI r))] [] post) : ∀ (n : Nat) (k : Int) (σ : MS) , (Fr [] [46] [] σ0 σ) → (RG σ) → (0 ≤ k ∧ k ≤ σ0.2.1 9 r) → (LAB σ) → (LFN σ0 σ r k) → (220 - k).toNat = n → Tm (d + 2) m_X12_findLabels 2 b σ [(2, .int (iI k)), (0, .ref b), (1, .int (iI r))] [] post := by
  intro n
  induction n using Nat.strongRecOn with
  | _ n ih =>
    intro k σ hF hR h0 hl hn hm
    refine tm_iload_n dX12_findLabels_2 rfl 0 rfl ?_
    refine tm_aload_n dX12_findLabels_3 rfl 1 rfl ?_
    refine tm_get (k := 9) (v := .ref (b + 1 + 7)) lay_12 dX12_findLabels_4 (by decide) fl12_32 rfl ?_
    refine tm_iload_n dX12_findLabels_7 rfl 2 rfl ?_
    refine tm_iald (z := r) (v := σ0.2.1 9 r) dX12_findLabels_8 (show mT[7]? = some (9, 0, 13) from rfl) (by omega) (by omega) (by decide) (ra_F hF (by decide) (rfl)) ?_
    have g1 := RG.a hR0 9 (r)
    have := hit (r) (by omega) (by omega)
    refine tm_icmp_ge (tgt := 51) dX12_findLabels_9 (by decide) ⟨by omega, by omega⟩ ⟨by omega, by omega⟩ (fun h2 => ?_) (fun h2 => ?_)
    · exact tm_sub [0, 1, 2] rfl (hx_51 (k) σ (Fr.rfl.trans (Fr.sub hF (by decide) (by decide) (by decide))) hR hl (by rw [show σ0.2.1 9 r = k by omega]; exact hn))
    · refine tm_aload_n dX12_findLabels_12 rfl 1 rfl ?_
      refine tm_get (k := 3) (v := .ref (b + 1 + 1)) lay_12 dX12_findLabels_13 (by decide) fl12_13 rfl ?_
      refine tm_aload_n dX12_findLabels_16 rfl 1 rfl ?_
      refine tm_iload_n dX12_findLabels_17 rfl 2 rfl ?_
      refine tm_iload_n dX12_findLabels_18 rfl 0 rfl ?_
      refine tm_callV (M := m_X12_findLabels) (pc := 19) (ix := 203) (M' := m_X12_at) (As := [.int (iI r), .int (iI k)]) (rest := [.ref (b + 1 + 1)]) dX12_findLabels_19 ok_X12_at im_X12_at se_X12_at ml12_203 np_X12_at rfl rfl (Nat.le_of_ble_eq_true rfl) (Nat.le_of_ble_eq_true rfl) rfl (c_X12_at (d) (σ := σ) (x := r) (k := k) ) (fun r3 σ4 hp => ?_)
      obtain ⟨v5, rfl, rfl, f6⟩ := hp
      subst f6
      show Tm _ _ 22 b σ [(2, .int (iI k)), (0, .ref b), (1, .int (iI r))] [.int (iI (220 * r + k)), .ref (b + 1 + 1)] _
      refine tm_iald (z := 220 * r + k) (v := σ0.2.1 3 (220 * r + k)) dX12_findLabels_22 (show mT[1]? = some (3, 0, 2860) from rfl) (by omega) (by omega) (by decide) (ra_F hF (by decide) (rfl)) ?_
      have g7 := RG.a hR0 3 (220 * r + k)
      refine tm_bipush dX12_findLabels_23 (by decide) ?_
      refine tm_icmp_ne (tgt := 45) dX12_findLabels_25 (by decide) ⟨by omega, by omega⟩ ⟨by decide, by decide⟩ (fun h8 => ?_) (fun h8 => ?_)
      · refine tm_iinc (q0 := 0) (L' := [(2, .int (iI (k + 1))), (0, .ref b), (1, .int (iI r))]) dX12_findLabels_45 rfl (by decide) rfl ?_
        refine tm_goto (tgt := 2) dX12_findLabels_48 (by decide) ?_
        exact tm_sub [0, 1, 2] rfl (ih _ (by omega) (k + 1) σ (Fr.rfl.trans (Fr.sub hF (by decide) (by decide) (by decide))) hR (by omega) (by first | exact hl | exact hl.A (by omega)) (by first | exact hn.skip (by assumption) | exact hn.put (by omega) (by assumption)) rfl)
      · have hlk := hlb k (by omega) (by omega) (by assumption)
        refine tm_aload_n dX12_findLabels_28 rfl 1 rfl ?_
        refine tm_get (k := 46) (v := .ref (b + 1 + 24)) lay_12 dX12_findLabels_29 (by decide) fl12_88 rfl ?_
        refine tm_aload_n dX12_findLabels_32 rfl 1 rfl ?_
        refine tm_get (k := 4) (v := .ref (b + 1 + 2)) lay_12 dX12_findLabels_33 (by decide) fl12_17 rfl ?_
        refine tm_aload_n dX12_findLabels_36 rfl 1 rfl ?_
        refine tm_iload_n dX12_findLabels_37 rfl 2 rfl ?_
        refine tm_iload_n dX12_findLabels_38 rfl 0 rfl ?_
        refine tm_callV (M := m_X12_findLabels) (pc := 39) (ix := 203) (M' := m_X12_at) (As := [.int (iI r), .int (iI k)]) (rest := [.ref (b + 1 + 2), .ref (b + 1 + 24)]) dX12_findLabels_39 ok_X12_at im_X12_at se_X12_at ml12_203 np_X12_at rfl rfl (Nat.le_of_ble_eq_true rfl) (Nat.le_of_ble_eq_true rfl) rfl (c_X12_at (d) (σ := σ) (x := r) (k := k) ) (fun r9 σ10 hp => ?_)
        obtain ⟨v11, rfl, rfl, f12⟩ := hp
        subst f12
        show Tm _ _ 42 b σ [(2, .int (iI k)), (0, .ref b), (1, .int (iI r))] [.int (iI (220 * r + k)), .ref (b + 1 + 2), .ref (b + 1 + 24)] _
        refine tm_iald (z := 220 * r + k) (v := σ0.2.1 4 (220 * r + k)) dX12_findLabels_42 (show mT[2]? = some (4, 0, 2860) from rfl) (by omega) (by omega) (by decide) (ra_F hF (by decide) (rfl)) ?_
        have g13 := RG.a hR0 4 (220 * r + k)
        refine tm_iload_n dX12_findLabels_43 rfl 0 rfl ?_
        refine tm_iast (z := σ0.2.1 4 (220 * r + k)) (v := k) dX12_findLabels_44 (show mT[24]? = some (46, 0, 4096) from rfl) (by omega) (by omega) (by decide) ?_
        refine tm_iinc (q0 := 0) (L' := [(2, .int (iI (k + 1))), (0, .ref b), (1, .int (iI r))]) dX12_findLabels_45 rfl (by decide) rfl ?_
        refine tm_goto (tgt := 2) dX12_findLabels_48 (by decide) ?_
        exact tm_sub [0, 1, 2] rfl (ih _ (by omega) (k + 1) (sA 46 (σ0.2.1 4 (220 * r + k)) (k) σ) ((Fr.rfl.trans (Fr.sub hF (by decide) (by decide) (by decide))).A (by decide)) (hR.A (by omega)) (by omega) (by first | exact hl | exact hl.A (by omega)) (by first | exact hn.skip (by assumption) | exact hn.put (by omega) (by assumption)) rfl)
theorem dX12_findLabels_0 : decode cX12_findLabels 0 = .ok (.iconst 0, 1) := by decide +kernel
theorem dX12_findLabels_1 : decode cX12_findLabels 1 = .ok (.istore_n 2, 1) := by decide +kernel
theorem dX12_findLabels_51 : decode cX12_findLabels 51 = .ok (.return_, 1) := by decide +kernel
set_option maxRecDepth 20000 in
theorem c_X12_findLabels (d : Nat) {b : Nat} {σ : MS} {r : Int} (hr : 0 ≤ r ∧ r < 12) (hR : RG σ) (hit : ITM σ) (hlb : LBR σ r) (hl : LAB σ) : Tm (d + 2) m_X12_findLabels 0 b σ [(0, .ref b), (1, .int (iI r))] [] (fun ro σ2 => ro = none ∧ (Fr [] [46] [] σ σ2) ∧ (RG σ2) ∧ (LAB σ2) ∧ (LFN σ σ2 r (σ.2.1 9 r))) := by
  refine tm_iconst dX12_findLabels_0 ?_
  refine tm_istore_n (L' := [(2, .int (iI 0)), (0, .ref b), (1, .int (iI r))]) dX12_findLabels_1 rfl (by decide) rfl ?_
  refine tm_sub [0, 1, 2] rfl (l_findLabels (d) (σ0 := σ) (r := r) hr hR hit hlb (fun k7 σ8 F3 R4 f5 f6 => ?_) _ (0) σ Fr.rfl hR (by have := hit r (by omega) (by omega); omega) hl (fun j a c => by omega) rfl)
  show Tm _ _ 51 b σ8 [(2, .int (iI k7)), (0, .ref b), (1, .int (iI r))] [] _
  exact tm_vret rfl dX12_findLabels_51 (⟨rfl, (Fr.rfl.trans (Fr.sub F3 (by decide) (by decide) (by decide))), R4, f5, f6⟩)
theorem dX12_goesOn_0 : decode cX12_goesOn 0 = .ok (.aload_n 0, 1) := by decide +kernel
theorem dX12_goesOn_1 : decode cX12_goesOn 1 = .ok (.iload_n 1, 1) := by decide +kernel
theorem dX12_goesOn_2 : decode cX12_goesOn 2 = .ok (.iload_n 2, 1) := by decide +kernel
theorem dX12_goesOn_3 : decode cX12_goesOn 3 = .ok (.invokevirtual 203, 3) := by decide +kernel
theorem dX12_goesOn_6 : decode cX12_goesOn 6 = .ok (.istore 4, 2) := by decide +kernel
theorem dX12_goesOn_8 : decode cX12_goesOn 8 = .ok (.iload_n 3, 1) := by decide +kernel
theorem dX12_goesOn_9 : decode cX12_goesOn 9 = .ok (.iconst 1, 1) := by decide +kernel
theorem dX12_goesOn_10 : decode cX12_goesOn 10 = .ok (.if_icmp .ne 44, 3) := by decide +kernel
theorem dX12_goesOn_54 : decode cX12_goesOn 54 = .ok (.aload_n 0, 1) := by decide +kernel
theorem dX12_goesOn_55 : decode cX12_goesOn 55 = .ok (.getfield 13, 3) := by decide +kernel
theorem dX12_goesOn_58 : decode cX12_goesOn 58 = .ok (.iload 4, 2) := by decide +kernel
theorem dX12_goesOn_60 : decode cX12_goesOn 60 = .ok (.iaload, 1) := by decide +kernel
theorem dX12_goesOn_61 : decode cX12_goesOn 61 = .ok (.bipush 8, 2) := by decide +kernel
theorem dX12_goesOn_63 : decode cX12_goesOn 63 = .ok (.if_icmp .eq 15, 3) := by decide +kernel
theorem dX12_goesOn_78 : decode cX12_goesOn 78 = .ok (.iconst (-1), 1) := by decide +kernel
theorem dX12_goesOn_79 : decode cX12_goesOn 79 = .ok (.goto 6, 3) := by decide +kernel
theorem dX12_goesOn_85 : decode cX12_goesOn 85 = .ok (.ireturn, 1) := by decide +kernel
theorem dX12_goesOn_66 : decode cX12_goesOn 66 = .ok (.aload_n 0, 1) := by decide +kernel
theorem dX12_goesOn_67 : decode cX12_goesOn 67 = .ok (.getfield 13, 3) := by decide +kernel
theorem dX12_goesOn_70 : decode cX12_goesOn 70 = .ok (.iload 4, 2) := by decide +kernel
theorem dX12_goesOn_72 : decode cX12_goesOn 72 = .ok (.iaload, 1) := by decide +kernel
theorem dX12_goesOn_73 : decode cX12_goesOn 73 = .ok (.bipush 7, 2) := by decide +kernel
theorem dX12_goesOn_75 : decode cX12_goesOn 75 = .ok (.if_icmp .ne 7, 3) := by decide +kernel
theorem dX12_goesOn_82 : decode cX12_goesOn 82 = .ok (.iload_n 2, 1) := by decide +kernel
theorem dX12_goesOn_83 : decode cX12_goesOn 83 = .ok (.iconst 1, 1) := by decide +kernel
theorem dX12_goesOn_84 : decode cX12_goesOn 84 = .ok (.iadd, 1) := by decide +kernel
theorem dX12_goesOn_13 : decode cX12_goesOn 13 = .ok (.aload_n 0, 1) := by decide +kernel
theorem dX12_goesOn_14 : decode cX12_goesOn 14 = .ok (.getfield 13, 3) := by decide +kernel
theorem dX12_goesOn_17 : decode cX12_goesOn 17 = .ok (.iload 4, 2) := by decide +kernel
theorem dX12_goesOn_19 : decode cX12_goesOn 19 = .ok (.iaload, 1) := by decide +kernel
theorem dX12_goesOn_20 : decode cX12_goesOn 20 = .ok (.bipush 8, 2) := by decide +kernel
theorem dX12_goesOn_22 : decode cX12_goesOn 22 = .ok (.if_icmp .eq 15, 3) := by decide +kernel
theorem dX12_goesOn_37 : decode cX12_goesOn 37 = .ok (.aload_n 0, 1) := by decide +kernel
theorem dX12_goesOn_38 : decode cX12_goesOn 38 = .ok (.getfield 88, 3) := by decide +kernel
theorem dX12_goesOn_41 : decode cX12_goesOn 41 = .ok (.aload_n 0, 1) := by decide +kernel
theorem dX12_goesOn_42 : decode cX12_goesOn 42 = .ok (.getfield 17, 3) := by decide +kernel
theorem dX12_goesOn_45 : decode cX12_goesOn 45 = .ok (.iload 4, 2) := by decide +kernel
theorem dX12_goesOn_47 : decode cX12_goesOn 47 = .ok (.iaload, 1) := by decide +kernel
theorem dX12_goesOn_48 : decode cX12_goesOn 48 = .ok (.iaload, 1) := by decide +kernel
theorem dX12_goesOn_49 : decode cX12_goesOn 49 = .ok (.goto 4, 3) := by decide +kernel
theorem dX12_goesOn_53 : decode cX12_goesOn 53 = .ok (.ireturn, 1) := by decide +kernel
theorem dX12_goesOn_25 : decode cX12_goesOn 25 = .ok (.aload_n 0, 1) := by decide +kernel
theorem dX12_goesOn_26 : decode cX12_goesOn 26 = .ok (.getfield 13, 3) := by decide +kernel
theorem dX12_goesOn_29 : decode cX12_goesOn 29 = .ok (.iload 4, 2) := by decide +kernel
theorem dX12_goesOn_31 : decode cX12_goesOn 31 = .ok (.iaload, 1) := by decide +kernel
theorem dX12_goesOn_32 : decode cX12_goesOn 32 = .ok (.bipush 9, 2) := by decide +kernel
theorem dX12_goesOn_34 : decode cX12_goesOn 34 = .ok (.if_icmp .ne 18, 3) := by decide +kernel
theorem dX12_goesOn_52 : decode cX12_goesOn 52 = .ok (.iconst (-1), 1) := by decide +kernel
set_option maxRecDepth 20000 in
theorem c_X12_goesOn (d : Nat) {b : Nat} {σ : MS} {r : Int} {k : Int} {how : Int} (hr : 0 ≤ r ∧ r < 12) (hR : RG σ) (hk : 0 ≤ k ∧ k < 220) (hd : (σ.2.1 3 (220 * r + k) = 8 ∨ σ.2.1 3 (220 * r + k) = 9) → 0 ≤ σ.2.1 4 (220 * r + k) ∧ σ.2.1 4 (220 * r + k) < 4096) (h_how : -2147483648 ≤ how ∧ how ≤ 2147483647) : Tm (d + 2) m_X12_goesOn 0 b σ [(0, .ref b), (1, .int (iI r)), (2, .int (iI k)), (3, .int (iI how))] [] (fun ro σ2 => ∃ v : Int, ro = some (.int (iI v)) ∧ σ = σ2 ∧ ((how = 1 → (σ.2.1 3 (220 * r + k) = 8 ∨ σ.2.1 3 (220 * r + k) = 9) → v = σ.2.1 46 (σ.2.1 4 (220 * r + k)))) ∧ ((how = 1 → ¬ (σ.2.1 3 (220 * r + k) = 8 ∨ σ.2.1 3 (220 * r + k) = 9) → v = -1)) ∧ ((how ≠ 1 → (σ.2.1 3 (220 * r + k) = 8 ∨ σ.2.1 3 (220 * r + k) = 7) → v = -1)) ∧ ((how ≠ 1 → ¬ (σ.2.1 3 (220 * r + k) = 8 ∨ σ.2.1 3 (220 * r + k) = 7) → v = k + 1))) := by
  refine tm_aload_n dX12_goesOn_0 rfl 0 rfl ?_
  refine tm_iload_n dX12_goesOn_1 rfl 1 rfl ?_
  refine tm_iload_n dX12_goesOn_2 rfl 2 rfl ?_
  refine tm_callV (M := m_X12_goesOn) (pc := 3) (ix := 203) (M' := m_X12_at) (As := [.int (iI r), .int (iI k)]) (rest := []) dX12_goesOn_3 ok_X12_at im_X12_at se_X12_at ml12_203 np_X12_at rfl rfl (Nat.le_of_ble_eq_true rfl) (Nat.le_of_ble_eq_true rfl) rfl (c_X12_at (d) (σ := σ) (x := r) (k := k) ) (fun r1 σ2 hp => ?_)
  obtain ⟨v3, rfl, rfl, f4⟩ := hp
  subst f4
  show Tm _ _ 6 b σ [(0, .ref b), (1, .int (iI r)), (2, .int (iI k)), (3, .int (iI how))] [.int (iI (220 * r + k))] _
  refine tm_istore (L' := [(4, .int (iI (220 * r + k))), (0, .ref b), (1, .int (iI r)), (2, .int (iI k)), (3, .int (iI how))]) dX12_goesOn_6 (by decide) rfl ?_
  refine tm_iload_n dX12_goesOn_8 rfl 4 rfl ?_
  refine tm_iconst dX12_goesOn_9 ?_
  refine tm_icmp_ne (tgt := 54) dX12_goesOn_10 (by decide) ⟨by omega, by omega⟩ ⟨by decide, by decide⟩ (fun h5 => ?_) (fun h5 => ?_)
  · refine tm_aload_n dX12_goesOn_54 rfl 1 rfl ?_
    refine tm_get (k := 3) (v := .ref (b + 1 + 1)) lay_12 dX12_goesOn_55 (by decide) fl12_13 rfl ?_
    refine tm_iload dX12_goesOn_58 0 rfl ?_
    refine tm_iald (z := 220 * r + k) (v := σ.2.1 3 (220 * r + k)) dX12_goesOn_60 (show mT[1]? = some (3, 0, 2860) from rfl) (by omega) (by omega) (by decide) (rfl) ?_
    have g6 := RG.a hR 3 (220 * r + k)
    refine tm_bipush dX12_goesOn_61 (by decide) ?_
    refine tm_icmp_eq (tgt := 78) dX12_goesOn_63 (by decide) ⟨by omega, by omega⟩ ⟨by decide, by decide⟩ (fun h7 => ?_) (fun h7 => ?_)
    · refine tm_iconst dX12_goesOn_78 ?_
      refine tm_goto (tgt := 85) dX12_goesOn_79 (by decide) ?_
      exact tm_iret rfl dX12_goesOn_85 (⟨_, rfl, rfl, by omega, by omega, by omega, by omega⟩)
    · refine tm_aload_n dX12_goesOn_66 rfl 1 rfl ?_
      refine tm_get (k := 3) (v := .ref (b + 1 + 1)) lay_12 dX12_goesOn_67 (by decide) fl12_13 rfl ?_
      refine tm_iload dX12_goesOn_70 0 rfl ?_
      refine tm_iald (z := 220 * r + k) (v := σ.2.1 3 (220 * r + k)) dX12_goesOn_72 (show mT[1]? = some (3, 0, 2860) from rfl) (by omega) (by omega) (by decide) (rfl) ?_
      have g8 := RG.a hR 3 (220 * r + k)
      refine tm_bipush dX12_goesOn_73 (by decide) ?_
      refine tm_icmp_ne (tgt := 82) dX12_goesOn_75 (by decide) ⟨by omega, by omega⟩ ⟨by decide, by decide⟩ (fun h9 => ?_) (fun h9 => ?_)
      · refine tm_iload_n dX12_goesOn_82 rfl 3 rfl ?_
        refine tm_iconst dX12_goesOn_83 ?_
        refine tm_iadd dX12_goesOn_84 ?_
        exact tm_iret rfl dX12_goesOn_85 (⟨_, rfl, rfl, by omega, by omega, by omega, by omega⟩)
      · refine tm_iconst dX12_goesOn_78 ?_
        refine tm_goto (tgt := 85) dX12_goesOn_79 (by decide) ?_
        exact tm_iret rfl dX12_goesOn_85 (⟨_, rfl, rfl, by omega, by omega, by omega, by omega⟩)
  · refine tm_aload_n dX12_goesOn_13 rfl 1 rfl ?_
    refine tm_get (k := 3) (v := .ref (b + 1 + 1)) lay_12 dX12_goesOn_14 (by decide) fl12_13 rfl ?_
    refine tm_iload dX12_goesOn_17 0 rfl ?_
    refine tm_iald (z := 220 * r + k) (v := σ.2.1 3 (220 * r + k)) dX12_goesOn_19 (show mT[1]? = some (3, 0, 2860) from rfl) (by omega) (by omega) (by decide) (rfl) ?_
    have g10 := RG.a hR 3 (220 * r + k)
    refine tm_bipush dX12_goesOn_20 (by decide) ?_
    refine tm_icmp_eq (tgt := 37) dX12_goesOn_22 (by decide) ⟨by omega, by omega⟩ ⟨by decide, by decide⟩ (fun h11 => ?_) (fun h11 => ?_)
    · refine tm_aload_n dX12_goesOn_37 rfl 1 rfl ?_
      refine tm_get (k := 46) (v := .ref (b + 1 + 24)) lay_12 dX12_goesOn_38 (by decide) fl12_88 rfl ?_
      refine tm_aload_n dX12_goesOn_41 rfl 1 rfl ?_
      refine tm_get (k := 4) (v := .ref (b + 1 + 2)) lay_12 dX12_goesOn_42 (by decide) fl12_17 rfl ?_
      refine tm_iload dX12_goesOn_45 0 rfl ?_
      refine tm_iald (z := 220 * r + k) (v := σ.2.1 4 (220 * r + k)) dX12_goesOn_47 (show mT[2]? = some (4, 0, 2860) from rfl) (by omega) (by omega) (by decide) (rfl) ?_
      have g12 := RG.a hR 4 (220 * r + k)
      refine tm_iald (z := σ.2.1 4 (220 * r + k)) (v := σ.2.1 46 (σ.2.1 4 (220 * r + k))) dX12_goesOn_48 (show mT[24]? = some (46, 0, 4096) from rfl) (by omega) (by omega) (by decide) (rfl) ?_
      have g13 := RG.a hR 46 (σ.2.1 4 (220 * r + k))
      refine tm_goto (tgt := 53) dX12_goesOn_49 (by decide) ?_
      exact tm_iret rfl dX12_goesOn_53 (⟨_, rfl, rfl, by omega, by omega, by omega, by omega⟩)
    · refine tm_aload_n dX12_goesOn_25 rfl 1 rfl ?_
      refine tm_get (k := 3) (v := .ref (b + 1 + 1)) lay_12 dX12_goesOn_26 (by decide) fl12_13 rfl ?_
      refine tm_iload dX12_goesOn_29 0 rfl ?_
      refine tm_iald (z := 220 * r + k) (v := σ.2.1 3 (220 * r + k)) dX12_goesOn_31 (show mT[1]? = some (3, 0, 2860) from rfl) (by omega) (by omega) (by decide) (rfl) ?_
      have g14 := RG.a hR 3 (220 * r + k)
      refine tm_bipush dX12_goesOn_32 (by decide) ?_
      refine tm_icmp_ne (tgt := 52) dX12_goesOn_34 (by decide) ⟨by omega, by omega⟩ ⟨by decide, by decide⟩ (fun h15 => ?_) (fun h15 => ?_)
      · refine tm_iconst dX12_goesOn_52 ?_
        exact tm_iret rfl dX12_goesOn_53 (⟨_, rfl, rfl, by omega, by omega, by omega, by omega⟩)
      · refine tm_aload_n dX12_goesOn_37 rfl 1 rfl ?_
        refine tm_get (k := 46) (v := .ref (b + 1 + 24)) lay_12 dX12_goesOn_38 (by decide) fl12_88 rfl ?_
        refine tm_aload_n dX12_goesOn_41 rfl 1 rfl ?_
        refine tm_get (k := 4) (v := .ref (b + 1 + 2)) lay_12 dX12_goesOn_42 (by decide) fl12_17 rfl ?_
        refine tm_iload dX12_goesOn_45 0 rfl ?_
        refine tm_iald (z := 220 * r + k) (v := σ.2.1 4 (220 * r + k)) dX12_goesOn_47 (show mT[2]? = some (4, 0, 2860) from rfl) (by omega) (by omega) (by decide) (rfl) ?_
        have g16 := RG.a hR 4 (220 * r + k)
        refine tm_iald (z := σ.2.1 4 (220 * r + k)) (v := σ.2.1 46 (σ.2.1 4 (220 * r + k))) dX12_goesOn_48 (show mT[24]? = some (46, 0, 4096) from rfl) (by omega) (by omega) (by decide) (rfl) ?_
        have g17 := RG.a hR 46 (σ.2.1 4 (220 * r + k))
        refine tm_goto (tgt := 53) dX12_goesOn_49 (by decide) ?_
        exact tm_iret rfl dX12_goesOn_53 (⟨_, rfl, rfl, by omega, by omega, by omega, by omega⟩)
theorem dX12_labelIn_2 : decode cX12_labelIn 2 = .ok (.iload_n 3, 1) := by decide +kernel
theorem dX12_labelIn_3 : decode cX12_labelIn 3 = .ok (.aload_n 0, 1) := by decide +kernel
theorem dX12_labelIn_4 : decode cX12_labelIn 4 = .ok (.getfield 32, 3) := by decide +kernel
theorem dX12_labelIn_7 : decode cX12_labelIn 7 = .ok (.iload_n 1, 1) := by decide +kernel
theorem dX12_labelIn_8 : decode cX12_labelIn 8 = .ok (.iaload, 1) := by decide +kernel
theorem dX12_labelIn_9 : decode cX12_labelIn 9 = .ok (.if_icmp .ge 42, 3) := by decide +kernel
theorem dX12_labelIn_12 : decode cX12_labelIn 12 = .ok (.aload_n 0, 1) := by decide +kernel
theorem dX12_labelIn_13 : decode cX12_labelIn 13 = .ok (.getfield 13, 3) := by decide +kernel
theorem dX12_labelIn_16 : decode cX12_labelIn 16 = .ok (.aload_n 0, 1) := by decide +kernel
theorem dX12_labelIn_17 : decode cX12_labelIn 17 = .ok (.iload_n 1, 1) := by decide +kernel
theorem dX12_labelIn_18 : decode cX12_labelIn 18 = .ok (.iload_n 3, 1) := by decide +kernel
theorem dX12_labelIn_19 : decode cX12_labelIn 19 = .ok (.invokevirtual 203, 3) := by decide +kernel
theorem dX12_labelIn_22 : decode cX12_labelIn 22 = .ok (.iaload, 1) := by decide +kernel
theorem dX12_labelIn_23 : decode cX12_labelIn 23 = .ok (.bipush 13, 2) := by decide +kernel
theorem dX12_labelIn_25 : decode cX12_labelIn 25 = .ok (.if_icmp .ne 20, 3) := by decide +kernel
theorem dX12_labelIn_45 : decode cX12_labelIn 45 = .ok (.iinc 3 1, 3) := by decide +kernel
theorem dX12_labelIn_48 : decode cX12_labelIn 48 = .ok (.goto (-46), 3) := by decide +kernel
theorem dX12_labelIn_28 : decode cX12_labelIn 28 = .ok (.aload_n 0, 1) := by decide +kernel
theorem dX12_labelIn_29 : decode cX12_labelIn 29 = .ok (.getfield 17, 3) := by decide +kernel
theorem dX12_labelIn_32 : decode cX12_labelIn 32 = .ok (.aload_n 0, 1) := by decide +kernel
theorem dX12_labelIn_33 : decode cX12_labelIn 33 = .ok (.iload_n 1, 1) := by decide +kernel
theorem dX12_labelIn_34 : decode cX12_labelIn 34 = .ok (.iload_n 3, 1) := by decide +kernel
theorem dX12_labelIn_35 : decode cX12_labelIn 35 = .ok (.invokevirtual 203, 3) := by decide +kernel
theorem dX12_labelIn_38 : decode cX12_labelIn 38 = .ok (.iaload, 1) := by decide +kernel
theorem dX12_labelIn_39 : decode cX12_labelIn 39 = .ok (.iload_n 2, 1) := by decide +kernel
theorem dX12_labelIn_40 : decode cX12_labelIn 40 = .ok (.if_icmp .ne 5, 3) := by decide +kernel
theorem dX12_labelIn_43 : decode cX12_labelIn 43 = .ok (.iload_n 3, 1) := by decide +kernel
theorem dX12_labelIn_44 : decode cX12_labelIn 44 = .ok (.ireturn, 1) := by decide +kernel
set_option maxRecDepth 20000 in
theorem l_labelIn (d : Nat) {b : Nat} {σ : MS} {r : Int} {l : Int} {post : Option Value → MS → Prop} (hr : 0 ≤ r ∧ r < 12) (hR : RG σ) (hit : ITM σ) (h_l : -2147483648 ≤ l ∧ l ≤ 2147483647) (hx_51 : ∀ (k : Int) , (∀ j, 0 ≤ j → j < σ.2.1 9 r → ¬ (σ.2.1 3 (220 * r + j) = 13 ∧ σ.2.1 4 (220 * r + j) = l)) → Tm (d + 2) m_X12_labelIn 51 b σ [(3, .int (iI k)), (0, .ref b), (1, .int (iI r)), (2, .int (iI l))] [] post) (hr1 : ∀ j, 0 ≤ j → j < σ.2.1 9 r → σ.2.1 3 (220 * r + j) = 13 → σ.2.1 4 (220 * r + j) = l → post (some (.int (iI j))) σ) : ∀ (n : Nat) (k : Int) , (0 ≤ k ∧ k ≤ 220) → (∀ j, 0 ≤ j → j < k → ¬ (σ.2.1 3 (220 * r + j) = 13 ∧ σ.2.1 4 (220 * r + j) = l)) → (220 - k).toNat = n → Tm (d + 2) m_X12_labelIn 2 b σ [(3, .int (iI k)), (0, .ref b), (1, .int (iI r)), (2, .int (iI l))] [] post := by
  intro n
  induction n using Nat.strongRecOn with
  | _ n ih =>
    intro k h0 hj hm
    refine tm_iload_n dX12_labelIn_2 rfl 0 rfl ?_
    refine tm_aload_n dX12_labelIn_3 rfl 1 rfl ?_
    refine tm_get (k := 9) (v := .ref (b + 1 + 7)) lay_12 dX12_labelIn_4 (by decide) fl12_32 rfl ?_
    refine tm_iload_n dX12_labelIn_7 rfl 2 rfl ?_
    refine tm_iald (z := r) (v := σ.2.1 9 r) dX12_labelIn_8 (show mT[7]? = some (9, 0, 13) from rfl) (by omega) (by omega) (by decide) (rfl) ?_
    have g1 := RG.a hR 9 (r)
    have := hit (r) (by omega) (by omega)
    refine tm_icmp_ge (tgt := 51) dX12_labelIn_9 (by decide) ⟨by omega, by omega⟩ ⟨by omega, by omega⟩ (fun h2 => ?_) (fun h2 => ?_)
    · exact tm_sub [0, 1, 2, 3] rfl (hx_51 (k) (fun j a b => hj j a (by omega)))
    · refine tm_aload_n dX12_labelIn_12 rfl 1 rfl ?_
      refine tm_get (k := 3) (v := .ref (b + 1 + 1)) lay_12 dX12_labelIn_13 (by decide) fl12_13 rfl ?_
      refine tm_aload_n dX12_labelIn_16 rfl 1 rfl ?_
      refine tm_iload_n dX12_labelIn_17 rfl 2 rfl ?_
      refine tm_iload_n dX12_labelIn_18 rfl 0 rfl ?_
      refine tm_callV (M := m_X12_labelIn) (pc := 19) (ix := 203) (M' := m_X12_at) (As := [.int (iI r), .int (iI k)]) (rest := [.ref (b + 1 + 1)]) dX12_labelIn_19 ok_X12_at im_X12_at se_X12_at ml12_203 np_X12_at rfl rfl (Nat.le_of_ble_eq_true rfl) (Nat.le_of_ble_eq_true rfl) rfl (c_X12_at (d) (σ := σ) (x := r) (k := k) ) (fun r3 σ4 hp => ?_)
      obtain ⟨v5, rfl, rfl, f6⟩ := hp
      subst f6
      show Tm _ _ 22 b σ [(3, .int (iI k)), (0, .ref b), (1, .int (iI r)), (2, .int (iI l))] [.int (iI (220 * r + k)), .ref (b + 1 + 1)] _
      refine tm_iald (z := 220 * r + k) (v := σ.2.1 3 (220 * r + k)) dX12_labelIn_22 (show mT[1]? = some (3, 0, 2860) from rfl) (by omega) (by omega) (by decide) (rfl) ?_
      have g7 := RG.a hR 3 (220 * r + k)
      refine tm_bipush dX12_labelIn_23 (by decide) ?_
      refine tm_icmp_ne (tgt := 45) dX12_labelIn_25 (by decide) ⟨by omega, by omega⟩ ⟨by decide, by decide⟩ (fun h8 => ?_) (fun h8 => ?_)
      · refine tm_iinc (q0 := 0) (L' := [(3, .int (iI (k + 1))), (0, .ref b), (1, .int (iI r)), (2, .int (iI l))]) dX12_labelIn_45 rfl (by decide) rfl ?_
        refine tm_goto (tgt := 2) dX12_labelIn_48 (by decide) ?_
        exact tm_sub [0, 1, 2, 3] rfl (ih _ (by omega) (k + 1) (by omega) (fun j a b => by
          by_cases e : j = k
          · subst e; omega
          · exact hj j a (by omega)) rfl)
      · refine tm_aload_n dX12_labelIn_28 rfl 1 rfl ?_
        refine tm_get (k := 4) (v := .ref (b + 1 + 2)) lay_12 dX12_labelIn_29 (by decide) fl12_17 rfl ?_
        refine tm_aload_n dX12_labelIn_32 rfl 1 rfl ?_
        refine tm_iload_n dX12_labelIn_33 rfl 2 rfl ?_
        refine tm_iload_n dX12_labelIn_34 rfl 0 rfl ?_
        refine tm_callV (M := m_X12_labelIn) (pc := 35) (ix := 203) (M' := m_X12_at) (As := [.int (iI r), .int (iI k)]) (rest := [.ref (b + 1 + 2)]) dX12_labelIn_35 ok_X12_at im_X12_at se_X12_at ml12_203 np_X12_at rfl rfl (Nat.le_of_ble_eq_true rfl) (Nat.le_of_ble_eq_true rfl) rfl (c_X12_at (d) (σ := σ) (x := r) (k := k) ) (fun r9 σ10 hp => ?_)
        obtain ⟨v11, rfl, rfl, f12⟩ := hp
        subst f12
        show Tm _ _ 38 b σ [(3, .int (iI k)), (0, .ref b), (1, .int (iI r)), (2, .int (iI l))] [.int (iI (220 * r + k)), .ref (b + 1 + 2)] _
        refine tm_iald (z := 220 * r + k) (v := σ.2.1 4 (220 * r + k)) dX12_labelIn_38 (show mT[2]? = some (4, 0, 2860) from rfl) (by omega) (by omega) (by decide) (rfl) ?_
        have g13 := RG.a hR 4 (220 * r + k)
        refine tm_iload_n dX12_labelIn_39 rfl 3 rfl ?_
        refine tm_icmp_ne (tgt := 45) dX12_labelIn_40 (by decide) ⟨by omega, by omega⟩ ⟨by omega, by omega⟩ (fun h14 => ?_) (fun h14 => ?_)
        · refine tm_iinc (q0 := 0) (L' := [(3, .int (iI (k + 1))), (0, .ref b), (1, .int (iI r)), (2, .int (iI l))]) dX12_labelIn_45 rfl (by decide) rfl ?_
          refine tm_goto (tgt := 2) dX12_labelIn_48 (by decide) ?_
          exact tm_sub [0, 1, 2, 3] rfl (ih _ (by omega) (k + 1) (by omega) (fun j a b => by
          by_cases e : j = k
          · subst e; omega
          · exact hj j a (by omega)) rfl)
        · refine tm_iload_n dX12_labelIn_43 rfl 0 rfl ?_
          exact tm_iret rfl dX12_labelIn_44 (hr1 k (by omega) (by omega) (by assumption) (by assumption))
theorem dX12_labelIn_0 : decode cX12_labelIn 0 = .ok (.iconst 0, 1) := by decide +kernel
theorem dX12_labelIn_1 : decode cX12_labelIn 1 = .ok (.istore_n 3, 1) := by decide +kernel
theorem dX12_labelIn_51 : decode cX12_labelIn 51 = .ok (.iconst 0, 1) := by decide +kernel
theorem dX12_labelIn_52 : decode cX12_labelIn 52 = .ok (.ireturn, 1) := by decide +kernel
set_option maxRecDepth 20000 in
theorem c_X12_labelIn (d : Nat) {b : Nat} {σ : MS} {r : Int} {l : Int} (hr : 0 ≤ r ∧ r < 12) (hR : RG σ) (hit : ITM σ) (hex : ∃ j, 0 ≤ j ∧ j < σ.2.1 9 r ∧ σ.2.1 3 (220 * r + j) = 13 ∧ σ.2.1 4 (220 * r + j) = l) (h_l : -2147483648 ≤ l ∧ l ≤ 2147483647) : Tm (d + 2) m_X12_labelIn 0 b σ [(0, .ref b), (1, .int (iI r)), (2, .int (iI l))] [] (fun ro σ2 => ∃ v : Int, ro = some (.int (iI v)) ∧ σ = σ2 ∧ (0 ≤ v ∧ v < σ.2.1 9 r) ∧ (σ.2.1 3 (220 * r + v) = 13 ∧ σ.2.1 4 (220 * r + v) = l)) := by
  refine tm_iconst dX12_labelIn_0 ?_
  refine tm_istore_n (L' := [(3, .int (iI 0)), (0, .ref b), (1, .int (iI r)), (2, .int (iI l))]) dX12_labelIn_1 rfl (by decide) rfl ?_
  refine tm_sub [0, 1, 2, 3] rfl (l_labelIn (d) (σ := σ) (r := r) (l := l) hr hR hit (by omega) (fun k5 f4 => ?_) (fun j a b c e => ⟨_, rfl, rfl, ⟨a, b⟩, c, e⟩) _ (0) (by omega) (fun j a b => by omega) rfl)
  show Tm _ _ 51 b σ [(3, .int (iI k5)), (0, .ref b), (1, .int (iI r)), (2, .int (iI l))] [] _
  refine tm_iconst dX12_labelIn_51 ?_
  exact tm_iret rfl dX12_labelIn_52 (by obtain ⟨j, a, b, c, e⟩ := hex; exact absurd ⟨c, e⟩ (f4 j a b))
