def JMP (σ : MS) (r : Int) : Prop := ∀ k, 0 ≤ k → k < σ.2.1 9 r → (σ.2.1 3 (220 * r + k) = 8 ∨ σ.2.1 3 (220 * r + k) = 9 ∨ σ.2.1 3 (220 * r + k) = 13) → 0 ≤ σ.2.1 4 (220 * r + k) ∧ σ.2.1 4 (220 * r + k) < 4096
theorem JMP.lbr {σ : MS} {r : Int} (h : JMP σ r) : LBR σ r := fun k a b c => h k a b (Or.inr (Or.inr c))
theorem OKS.jmp {σ : MS} {F r : Int} (h : OKS σ F r) : JMP σ r := fun k a b c => (h k a b).2.2.1 c
theorem OKS.of {σ : MS} {F r : Int} (h : OKS σ F r) {k : Int} (a : 0 ≤ k) (b : k < σ.2.1 9 r) : σ.2.1 3 (220 * r + k) = 10 → 0 ≤ σ.2.1 5 (220 * r + k) ∧ σ.2.1 5 (220 * r + k) < 6 := (h k a b).2.2.2.2.2.2.1
theorem OKS.kind {σ : MS} {F r : Int} (h : OKS σ F r) {k : Int} (a : 0 ≤ k) (b : k < σ.2.1 9 r) : 0 ≤ σ.2.1 3 (220 * r + k) ∧ σ.2.1 3 (220 * r + k) ≤ 15 := (h k a b).1
theorem OKS.dest {σ : MS} {F r : Int} (h : OKS σ F r) {k : Int} (a : 0 ≤ k) (b : k < σ.2.1 9 r) : (σ.2.1 3 (220 * r + k) ≤ 5 ∨ σ.2.1 3 (220 * r + k) = 10) → 0 ≤ σ.2.1 4 (220 * r + k) ∧ σ.2.1 4 (220 * r + k) < 192 := (h k a b).2.1
theorem OKS.arg {σ : MS} {F r : Int} (h : OKS σ F r) {k : Int} (a : 0 ≤ k) (b : k < σ.2.1 9 r) {i : Int} (c : 0 ≤ i) (e : i < 4) : (0 ≤ σ.2.1 7 (4 * (220 * r + k) + i) ∧ σ.2.1 7 (4 * (220 * r + k) + i) ≤ 2) ∧ (σ.2.1 7 (4 * (220 * r + k) + i) = 2 → (0 ≤ σ.2.1 8 (4 * (220 * r + k) + i) ∧ σ.2.1 8 (4 * (220 * r + k) + i) < 192) ∧ i < nArgs σ (220 * r + k)) := (h k a b).2.2.2.2.2.2.2.1 i c e
/-- no register of the first items or frames is as great as m -/
def RGI (σ : MS) (r m n : Int) : Prop := ∀ k, 0 ≤ k → k < n → ((σ.2.1 3 (220 * r + k) ≤ 5 ∨ σ.2.1 3 (220 * r + k) = 10) → σ.2.1 4 (220 * r + k) < m) ∧ ∀ i, 0 ≤ i → i < nArgs σ (220 * r + k) → σ.2.1 7 (4 * (220 * r + k) + i) = 2 → σ.2.1 8 (4 * (220 * r + k) + i) < m
def RGN (σ : MS) (r m F : Int) : Prop := ∀ f, 0 ≤ f → f < F → ∀ n, 0 ≤ n → n < σ.2.1 12 (σ.2.1 15 (12 * r + f)) → σ.2.1 18 (144 * r + 12 * f + n) < m
theorem RGN.up {σ : MS} {r m m2 F : Int} (h : RGN σ r m F) (hm : m ≤ m2) : RGN σ r m2 F := fun f a b n c e => Int.lt_of_lt_of_le (h f a b n c e) hm
theorem RGI.up {σ : MS} {r m m2 F : Int} (h : RGI σ r m F) (hm : m ≤ m2) : RGI σ r m2 F := fun k a b => ⟨fun c => Int.lt_of_lt_of_le ((h k a b).1 c) hm, fun i c e g => Int.lt_of_lt_of_le ((h k a b).2 i c e g) hm⟩

theorem fl12_38 : Cond.fieldLink RX12 38 (TX12 12).1 (TX12 12).2.1 (TX12 12).2.2.1 ∈ pWW := pw7 (List.mem_of_getElem? (i := 19) rfl) rfl
theorem fl12_47 : Cond.fieldLink RX12 47 (TX12 15).1 (TX12 15).2.1 (TX12 15).2.2.1 ∈ pWW := pw7 (List.mem_of_getElem? (i := 22) rfl) rfl
theorem dX12_registers_17 : decode cX12_registers 17 = .ok (.iload 4, 2) := by decide +kernel
theorem dX12_registers_19 : decode cX12_registers 19 = .ok (.aload_n 0, 1) := by decide +kernel
theorem dX12_registers_20 : decode cX12_registers 20 = .ok (.getfield 38, 3) := by decide +kernel
theorem dX12_registers_23 : decode cX12_registers 23 = .ok (.aload_n 0, 1) := by decide +kernel
theorem dX12_registers_24 : decode cX12_registers 24 = .ok (.getfield 47, 3) := by decide +kernel
theorem dX12_registers_27 : decode cX12_registers 27 = .ok (.bipush 12, 2) := by decide +kernel
theorem dX12_registers_29 : decode cX12_registers 29 = .ok (.iload_n 1, 1) := by decide +kernel
theorem dX12_registers_30 : decode cX12_registers 30 = .ok (.imul, 1) := by decide +kernel
theorem dX12_registers_31 : decode cX12_registers 31 = .ok (.iload_n 3, 1) := by decide +kernel
theorem dX12_registers_32 : decode cX12_registers 32 = .ok (.iadd, 1) := by decide +kernel
theorem dX12_registers_33 : decode cX12_registers 33 = .ok (.iaload, 1) := by decide +kernel
theorem dX12_registers_34 : decode cX12_registers 34 = .ok (.iaload, 1) := by decide +kernel
theorem dX12_registers_35 : decode cX12_registers 35 = .ok (.if_icmp .ge 44, 3) := by decide +kernel
theorem dX12_registers_38 : decode cX12_registers 38 = .ok (.aload_n 0, 1) := by decide +kernel
theorem dX12_registers_39 : decode cX12_registers 39 = .ok (.getfield 56, 3) := by decide +kernel
theorem dX12_registers_42 : decode cX12_registers 42 = .ok (.sipush 144, 3) := by decide +kernel
theorem dX12_registers_45 : decode cX12_registers 45 = .ok (.iload_n 1, 1) := by decide +kernel
theorem dX12_registers_46 : decode cX12_registers 46 = .ok (.imul, 1) := by decide +kernel
theorem dX12_registers_47 : decode cX12_registers 47 = .ok (.bipush 12, 2) := by decide +kernel
theorem dX12_registers_49 : decode cX12_registers 49 = .ok (.iload_n 3, 1) := by decide +kernel
theorem dX12_registers_50 : decode cX12_registers 50 = .ok (.imul, 1) := by decide +kernel
theorem dX12_registers_51 : decode cX12_registers 51 = .ok (.iadd, 1) := by decide +kernel
theorem dX12_registers_52 : decode cX12_registers 52 = .ok (.iload 4, 2) := by decide +kernel
theorem dX12_registers_54 : decode cX12_registers 54 = .ok (.iadd, 1) := by decide +kernel
theorem dX12_registers_55 : decode cX12_registers 55 = .ok (.iaload, 1) := by decide +kernel
theorem dX12_registers_56 : decode cX12_registers 56 = .ok (.istore 5, 2) := by decide +kernel
theorem dX12_registers_58 : decode cX12_registers 58 = .ok (.iload 5, 2) := by decide +kernel
theorem dX12_registers_60 : decode cX12_registers 60 = .ok (.iload_n 2, 1) := by decide +kernel
theorem dX12_registers_61 : decode cX12_registers 61 = .ok (.if_icmp .lt 10, 3) := by decide +kernel
theorem dX12_registers_71 : decode cX12_registers 71 = .ok (.iload_n 2, 1) := by decide +kernel
theorem dX12_registers_72 : decode cX12_registers 72 = .ok (.istore_n 2, 1) := by decide +kernel
theorem dX12_registers_73 : decode cX12_registers 73 = .ok (.iinc 4 1, 3) := by decide +kernel
theorem dX12_registers_76 : decode cX12_registers 76 = .ok (.goto (-59), 3) := by decide +kernel
theorem dX12_registers_64 : decode cX12_registers 64 = .ok (.iload 5, 2) := by decide +kernel
theorem dX12_registers_66 : decode cX12_registers 66 = .ok (.iconst 1, 1) := by decide +kernel
theorem dX12_registers_67 : decode cX12_registers 67 = .ok (.iadd, 1) := by decide +kernel
theorem dX12_registers_68 : decode cX12_registers 68 = .ok (.goto 4, 3) := by decide +kernel
set_option maxRecDepth 20000 in
theorem l_regs2 (d : Nat) {b : Nat} {σ : MS} {r : Int} {f : Int} {post : Option Value → MS → Prop} (hr : 0 ≤ r ∧ r < 6) (hR : RG σ) (hof : OKF σ r) (hnam : NAM σ) (hf : 0 ≤ f ∧ f < σ.2.1 14 r) (hx_79 : ∀ (m : Int) (n1 : Int) , (0 ≤ m ∧ m ≤ 192) → (RGN σ r m (f + 1)) → Tm (d + 1) m_X12_registers 79 b σ [(4, .int (iI n1)), (3, .int (iI f)), (2, .int (iI m)), (0, .ref b), (1, .int (iI r))] [] post) : ∀ (n : Nat) (m : Int) (n1 : Int) , (0 ≤ m ∧ m ≤ 192 ∧ 0 ≤ n1 ∧ n1 ≤ 12) → (RGN σ r m f) → (∀ j, 0 ≤ j → j < n1 → σ.2.1 18 (144 * r + 12 * f + j) < m) → (12 - n1).toNat = n → Tm (d + 1) m_X12_registers 17 b σ [(4, .int (iI n1)), (3, .int (iI f)), (2, .int (iI m)), (0, .ref b), (1, .int (iI r))] [] post := by
  intro n
  induction n using Nat.strongRecOn with
  | _ n ih =>
    intro m n1 h0 hg hj hm
    have q1 := hof.1
    have q2 := (hof.2 f (by omega) (by omega)).1
    have q3 := hnam _ q2.1 q2.2
    refine tm_iload dX12_registers_17 0 rfl ?_
    refine tm_aload_n dX12_registers_19 rfl 3 rfl ?_
    refine tm_get (k := 12) (v := .ref (b + 1 + 9)) lay_12 dX12_registers_20 (by decide) fl12_38 rfl ?_
    refine tm_aload_n dX12_registers_23 rfl 3 rfl ?_
    refine tm_get (k := 15) (v := .ref (b + 1 + 12)) lay_12 dX12_registers_24 (by decide) fl12_47 rfl ?_
    refine tm_bipush dX12_registers_27 (by decide) ?_
    refine tm_iload_n dX12_registers_29 rfl 4 rfl ?_
    refine tm_imul dX12_registers_30 ?_
    refine tm_iload_n dX12_registers_31 rfl 1 rfl ?_
    refine tm_iadd dX12_registers_32 ?_
    refine tm_iald (z := (12 * r) + f) (v := σ.2.1 15 ((12 * r) + f)) dX12_registers_33 (show mT[12]? = some (15, 0, 72) from rfl) (by omega) (by omega) (by decide) (rfl) ?_
    have g1 := RG.a hR 15 ((12 * r) + f)
    refine tm_iald (z := σ.2.1 15 ((12 * r) + f)) (v := σ.2.1 12 (σ.2.1 15 ((12 * r) + f))) dX12_registers_34 (show mT[9]? = some (12, 0, 6) from rfl) (by omega) (by omega) (by decide) (rfl) ?_
    have g2 := RG.a hR 12 (σ.2.1 15 ((12 * r) + f))
    refine tm_icmp_ge (tgt := 79) dX12_registers_35 (by decide) ⟨by omega, by omega⟩ ⟨by omega, by omega⟩ (fun h3 => ?_) (fun h3 => ?_)
    · exact tm_sub [0, 1, 2, 3, 4] rfl (hx_79 (m) (n1) (by omega) (fun g a c n e i => by
        by_cases q : g = f
        · subst q; exact hj n e (by omega)
        · exact hg g a (by omega) n e i))
    · have q4 := (hof.2 f (by omega) (by omega)).2 n1 (by omega) (by omega)
      refine tm_aload_n dX12_registers_38 rfl 3 rfl ?_
      refine tm_get (k := 18) (v := .ref (b + 1 + 15)) lay_12 dX12_registers_39 (by decide) fl12_56 rfl ?_
      refine tm_sipush dX12_registers_42 (by decide) ?_
      refine tm_iload_n dX12_registers_45 rfl 4 rfl ?_
      refine tm_imul dX12_registers_46 ?_
      refine tm_bipush dX12_registers_47 (by decide) ?_
      refine tm_iload_n dX12_registers_49 rfl 1 rfl ?_
      refine tm_imul dX12_registers_50 ?_
      refine tm_iadd dX12_registers_51 ?_
      refine tm_iload dX12_registers_52 0 rfl ?_
      refine tm_iadd dX12_registers_54 ?_
      refine tm_iald (z := ((144 * r) + (12 * f)) + n1) (v := σ.2.1 18 (((144 * r) + (12 * f)) + n1)) dX12_registers_55 (show mT[15]? = some (18, 0, 864) from rfl) (by omega) (by omega) (by decide) (rfl) ?_
      have g4 := RG.a hR 18 (((144 * r) + (12 * f)) + n1)
      refine tm_istore (L' := [(5, .int (iI (σ.2.1 18 (((144 * r) + (12 * f)) + n1)))), (4, .int (iI n1)), (3, .int (iI f)), (2, .int (iI m)), (0, .ref b), (1, .int (iI r))]) dX12_registers_56 (by decide) rfl ?_
      refine tm_iload dX12_registers_58 0 rfl ?_
      refine tm_iload_n dX12_registers_60 rfl 3 rfl ?_
      refine tm_icmp_lt (tgt := 71) dX12_registers_61 (by decide) ⟨by omega, by omega⟩ ⟨by omega, by omega⟩ (fun h5 => ?_) (fun h5 => ?_)
      · refine tm_iload_n dX12_registers_71 rfl 3 rfl ?_
        refine tm_istore_n (L' := [(2, .int (iI m)), (5, .int (iI (σ.2.1 18 (((144 * r) + (12 * f)) + n1)))), (4, .int (iI n1)), (3, .int (iI f)), (0, .ref b), (1, .int (iI r))]) dX12_registers_72 rfl (by decide) rfl ?_
        refine tm_iinc (q0 := 2) (L' := [(4, .int (iI (n1 + 1))), (2, .int (iI m)), (5, .int (iI (σ.2.1 18 (((144 * r) + (12 * f)) + n1)))), (3, .int (iI f)), (0, .ref b), (1, .int (iI r))]) dX12_registers_73 rfl (by decide) rfl ?_
        refine tm_goto (tgt := 17) dX12_registers_76 (by decide) ?_
        exact tm_sub [0, 3, 1, 4, 5] rfl (ih _ (by omega) (m) (n1 + 1) (by omega) (hg.up (by omega)) (fun j a c => by
          by_cases e : j = n1
          · subst e; omega
          · have := hj j a (by omega); omega) rfl)
      · refine tm_iload dX12_registers_64 0 rfl ?_
        refine tm_iconst dX12_registers_66 ?_
        refine tm_iadd dX12_registers_67 ?_
        refine tm_goto (tgt := 72) dX12_registers_68 (by decide) ?_
        refine tm_istore_n (L' := [(2, .int (iI ((σ.2.1 18 (((144 * r) + (12 * f)) + n1)) + 1))), (5, .int (iI (σ.2.1 18 (((144 * r) + (12 * f)) + n1)))), (4, .int (iI n1)), (3, .int (iI f)), (0, .ref b), (1, .int (iI r))]) dX12_registers_72 rfl (by decide) rfl ?_
        refine tm_iinc (q0 := 2) (L' := [(4, .int (iI (n1 + 1))), (2, .int (iI ((σ.2.1 18 (((144 * r) + (12 * f)) + n1)) + 1))), (5, .int (iI (σ.2.1 18 (((144 * r) + (12 * f)) + n1)))), (3, .int (iI f)), (0, .ref b), (1, .int (iI r))]) dX12_registers_73 rfl (by decide) rfl ?_
        refine tm_goto (tgt := 17) dX12_registers_76 (by decide) ?_
        exact tm_sub [0, 3, 1, 4, 5] rfl (ih _ (by omega) ((σ.2.1 18 (((144 * r) + (12 * f)) + n1)) + 1) (n1 + 1) (by omega) (hg.up (by omega)) (fun j a c => by
          by_cases e : j = n1
          · subst e; omega
          · have := hj j a (by omega); omega) rfl)
theorem fl12_44 : Cond.fieldLink RX12 44 (TX12 14).1 (TX12 14).2.1 (TX12 14).2.2.1 ∈ pWW := pw7 (List.mem_of_getElem? (i := 21) rfl) rfl
theorem dX12_registers_4 : decode cX12_registers 4 = .ok (.iload_n 3, 1) := by decide +kernel
theorem dX12_registers_5 : decode cX12_registers 5 = .ok (.aload_n 0, 1) := by decide +kernel
theorem dX12_registers_6 : decode cX12_registers 6 = .ok (.getfield 44, 3) := by decide +kernel
theorem dX12_registers_9 : decode cX12_registers 9 = .ok (.iload_n 1, 1) := by decide +kernel
theorem dX12_registers_10 : decode cX12_registers 10 = .ok (.iaload, 1) := by decide +kernel
theorem dX12_registers_11 : decode cX12_registers 11 = .ok (.if_icmp .ge 74, 3) := by decide +kernel
theorem dX12_registers_14 : decode cX12_registers 14 = .ok (.iconst 0, 1) := by decide +kernel
theorem dX12_registers_15 : decode cX12_registers 15 = .ok (.istore 4, 2) := by decide +kernel
theorem dX12_registers_79 : decode cX12_registers 79 = .ok (.iinc 3 1, 3) := by decide +kernel
theorem dX12_registers_82 : decode cX12_registers 82 = .ok (.goto (-78), 3) := by decide +kernel
set_option maxRecDepth 20000 in
theorem l_regs1 (d : Nat) {b : Nat} {σ : MS} {r : Int} {post : Option Value → MS → Prop} (hr : 0 ≤ r ∧ r < 6) (hR : RG σ) (hof : OKF σ r) (hnam : NAM σ) (hx_85 : ∀ (m : Int) (f : Int) , (0 ≤ m ∧ m ≤ 192) → (RGN σ r m (σ.2.1 14 r)) → Tm (d + 1) m_X12_registers 85 b σ [(3, .int (iI f)), (2, .int (iI m)), (0, .ref b), (1, .int (iI r))] [] post) : ∀ (n : Nat) (m : Int) (f : Int) , (0 ≤ m ∧ m ≤ 192 ∧ 0 ≤ f ∧ f ≤ σ.2.1 14 r) → (RGN σ r m f) → (12 - f).toNat = n → Tm (d + 1) m_X12_registers 4 b σ [(3, .int (iI f)), (2, .int (iI m)), (0, .ref b), (1, .int (iI r))] [] post := by
  intro n
  induction n using Nat.strongRecOn with
  | _ n ih =>
    intro m f h0 hg hm
    have q1 := hof.1
    refine tm_iload_n dX12_registers_4 rfl 0 rfl ?_
    refine tm_aload_n dX12_registers_5 rfl 2 rfl ?_
    refine tm_get (k := 14) (v := .ref (b + 1 + 11)) lay_12 dX12_registers_6 (by decide) fl12_44 rfl ?_
    refine tm_iload_n dX12_registers_9 rfl 3 rfl ?_
    refine tm_iald (z := r) (v := σ.2.1 14 r) dX12_registers_10 (show mT[11]? = some (14, 0, 6) from rfl) (by omega) (by omega) (by decide) (rfl) ?_
    have g1 := RG.a hR 14 (r)
    refine tm_icmp_ge (tgt := 85) dX12_registers_11 (by decide) ⟨by omega, by omega⟩ ⟨by omega, by omega⟩ (fun h2 => ?_) (fun h2 => ?_)
    · exact tm_sub [0, 1, 2, 3] rfl (hx_85 (m) (f) (by omega) (by rw [show σ.2.1 14 r = f by omega]; exact hg))
    · refine tm_iconst dX12_registers_14 ?_
      refine tm_istore (L' := [(4, .int (iI 0)), (3, .int (iI f)), (2, .int (iI m)), (0, .ref b), (1, .int (iI r))]) dX12_registers_15 (by decide) rfl ?_
      refine tm_sub [0, 1, 2, 3, 4] rfl (l_regs2 (d) (σ := σ) (r := r) (f := f) hr hR hof hnam (by omega) (fun m9 n110 f7 f8 => ?_) _ (m) (0) (by omega) hg (fun j a c => by omega) rfl)
      show Tm _ _ 79 b σ [(4, .int (iI n110)), (3, .int (iI f)), (2, .int (iI m9)), (0, .ref b), (1, .int (iI r))] [] _
      refine tm_iinc (q0 := 1) (L' := [(3, .int (iI (f + 1))), (4, .int (iI n110)), (2, .int (iI m9)), (0, .ref b), (1, .int (iI r))]) dX12_registers_79 rfl (by decide) rfl ?_
      refine tm_goto (tgt := 4) dX12_registers_82 (by decide) ?_
      exact tm_sub [0, 2, 3, 4] rfl (ih _ (by omega) (m9) (f + 1) (by omega) (by assumption) rfl)
theorem dX12_registers_146 : decode cX12_registers 146 = .ok (.iload 5, 2) := by decide +kernel
theorem dX12_registers_148 : decode cX12_registers 148 = .ok (.aload_n 0, 1) := by decide +kernel
theorem dX12_registers_149 : decode cX12_registers 149 = .ok (.iload 4, 2) := by decide +kernel
theorem dX12_registers_151 : decode cX12_registers 151 = .ok (.invokevirtual 199, 3) := by decide +kernel
theorem dX12_registers_154 : decode cX12_registers 154 = .ok (.if_icmp .ge 60, 3) := by decide +kernel
theorem dX12_registers_157 : decode cX12_registers 157 = .ok (.aload_n 0, 1) := by decide +kernel
theorem dX12_registers_158 : decode cX12_registers 158 = .ok (.getfield 26, 3) := by decide +kernel
theorem dX12_registers_161 : decode cX12_registers 161 = .ok (.iconst 4, 1) := by decide +kernel
theorem dX12_registers_162 : decode cX12_registers 162 = .ok (.iload 4, 2) := by decide +kernel
theorem dX12_registers_164 : decode cX12_registers 164 = .ok (.imul, 1) := by decide +kernel
theorem dX12_registers_165 : decode cX12_registers 165 = .ok (.iload 5, 2) := by decide +kernel
theorem dX12_registers_167 : decode cX12_registers 167 = .ok (.iadd, 1) := by decide +kernel
theorem dX12_registers_168 : decode cX12_registers 168 = .ok (.iaload, 1) := by decide +kernel
theorem dX12_registers_169 : decode cX12_registers 169 = .ok (.iconst 2, 1) := by decide +kernel
theorem dX12_registers_170 : decode cX12_registers 170 = .ok (.if_icmp .ne 36, 3) := by decide +kernel
theorem dX12_registers_206 : decode cX12_registers 206 = .ok (.iload_n 2, 1) := by decide +kernel
theorem dX12_registers_207 : decode cX12_registers 207 = .ok (.istore_n 2, 1) := by decide +kernel
theorem dX12_registers_208 : decode cX12_registers 208 = .ok (.iinc 5 1, 3) := by decide +kernel
theorem dX12_registers_211 : decode cX12_registers 211 = .ok (.goto (-65), 3) := by decide +kernel
theorem dX12_registers_173 : decode cX12_registers 173 = .ok (.aload_n 0, 1) := by decide +kernel
theorem dX12_registers_174 : decode cX12_registers 174 = .ok (.getfield 29, 3) := by decide +kernel
theorem dX12_registers_177 : decode cX12_registers 177 = .ok (.iconst 4, 1) := by decide +kernel
theorem dX12_registers_178 : decode cX12_registers 178 = .ok (.iload 4, 2) := by decide +kernel
theorem dX12_registers_180 : decode cX12_registers 180 = .ok (.imul, 1) := by decide +kernel
theorem dX12_registers_181 : decode cX12_registers 181 = .ok (.iload 5, 2) := by decide +kernel
theorem dX12_registers_183 : decode cX12_registers 183 = .ok (.iadd, 1) := by decide +kernel
theorem dX12_registers_184 : decode cX12_registers 184 = .ok (.iaload, 1) := by decide +kernel
theorem dX12_registers_185 : decode cX12_registers 185 = .ok (.iload_n 2, 1) := by decide +kernel
theorem dX12_registers_186 : decode cX12_registers 186 = .ok (.if_icmp .lt 20, 3) := by decide +kernel
theorem dX12_registers_189 : decode cX12_registers 189 = .ok (.aload_n 0, 1) := by decide +kernel
theorem dX12_registers_190 : decode cX12_registers 190 = .ok (.getfield 29, 3) := by decide +kernel
theorem dX12_registers_193 : decode cX12_registers 193 = .ok (.iconst 4, 1) := by decide +kernel
theorem dX12_registers_194 : decode cX12_registers 194 = .ok (.iload 4, 2) := by decide +kernel
theorem dX12_registers_196 : decode cX12_registers 196 = .ok (.imul, 1) := by decide +kernel
theorem dX12_registers_197 : decode cX12_registers 197 = .ok (.iload 5, 2) := by decide +kernel
theorem dX12_registers_199 : decode cX12_registers 199 = .ok (.iadd, 1) := by decide +kernel
theorem dX12_registers_200 : decode cX12_registers 200 = .ok (.iaload, 1) := by decide +kernel
theorem dX12_registers_201 : decode cX12_registers 201 = .ok (.iconst 1, 1) := by decide +kernel
theorem dX12_registers_202 : decode cX12_registers 202 = .ok (.iadd, 1) := by decide +kernel
theorem dX12_registers_203 : decode cX12_registers 203 = .ok (.goto 4, 3) := by decide +kernel
set_option maxRecDepth 20000 in
theorem l_regs4 (d : Nat) {b : Nat} {σ : MS} {r : Int} {F : Int} {k : Int} {m0 : Int} {post : Option Value → MS → Prop} (hr : 0 ≤ r ∧ r < 12) (hR : RG σ) (hit : ITM σ) (hpar : PAR σ) (hok : OKS σ F r) (hk : 0 ≤ k ∧ k < σ.2.1 9 r) (hx_214 : ∀ (m : Int) (i : Int) , (0 ≤ m ∧ m ≤ 192 ∧ m0 ≤ m) → (∀ j, 0 ≤ j → j < nArgs σ (220 * r + k) → σ.2.1 7 (4 * (220 * r + k) + j) = 2 → σ.2.1 8 (4 * (220 * r + k) + j) < m) → Tm (d + 4) m_X12_registers 214 b σ [(5, .int (iI i)), (4, .int (iI (220 * r + k))), (3, .int (iI k)), (2, .int (iI m)), (0, .ref b), (1, .int (iI r))] [] post) : ∀ (n : Nat) (m : Int) (i : Int) , (0 ≤ m ∧ m ≤ 192 ∧ m0 ≤ m ∧ 0 ≤ i ∧ i ≤ 4) → (∀ j, 0 ≤ j → j < i → σ.2.1 7 (4 * (220 * r + k) + j) = 2 → σ.2.1 8 (4 * (220 * r + k) + j) < m) → (4 - i).toNat = n → Tm (d + 4) m_X12_registers 146 b σ [(5, .int (iI i)), (4, .int (iI (220 * r + k))), (3, .int (iI k)), (2, .int (iI m)), (0, .ref b), (1, .int (iI r))] [] post := by
  intro n
  induction n using Nat.strongRecOn with
  | _ n ih =>
    intro m i h0 hj hm
    have q1 := hit r (by omega) (by omega)
    refine tm_iload dX12_registers_146 0 rfl ?_
    refine tm_aload_n dX12_registers_148 rfl 4 rfl ?_
    refine tm_iload dX12_registers_149 1 rfl ?_
    refine tm_callV (M := m_X12_registers) (pc := 151) (ix := 199) (M' := m_X12_args) (As := [.int (iI (220 * r + k))]) (rest := [.int (iI i)]) dX12_registers_151 ok_X12_args im_X12_args se_X12_args ml12_199 np_X12_args rfl rfl (Nat.le_of_ble_eq_true rfl) (Nat.le_of_ble_eq_true rfl) rfl (c_X12_args (d) (σ := σ) (x := 220 * r + k) (by omega) hR (hok.of (by omega) (by omega)) hpar) (fun r1 σ2 hp => ?_)
    obtain ⟨v3, rfl, rfl, f4, f5⟩ := hp
    show Tm _ _ 154 b σ [(5, .int (iI i)), (4, .int (iI (220 * r + k))), (3, .int (iI k)), (2, .int (iI m)), (0, .ref b), (1, .int (iI r))] [.int (iI v3), .int (iI i)] _
    refine tm_icmp_ge (tgt := 214) dX12_registers_154 (by decide) ⟨by omega, by omega⟩ ⟨by omega, by omega⟩ (fun h6 => ?_) (fun h6 => ?_)
    · exact tm_sub [0, 1, 2, 3, 4, 5] rfl (hx_214 (m) (i) (by omega) (fun j a c e => hj j a (by omega) e))
    · have q2 := hok.arg (k := k) (by omega) (by omega) (i := i) (by omega) (by omega)
      refine tm_aload_n dX12_registers_157 rfl 4 rfl ?_
      refine tm_get (k := 7) (v := .ref (b + 1 + 5)) lay_12 dX12_registers_158 (by decide) fl12_26 rfl ?_
      refine tm_iconst dX12_registers_161 ?_
      refine tm_iload dX12_registers_162 1 rfl ?_
      refine tm_imul dX12_registers_164 ?_
      refine tm_iload dX12_registers_165 0 rfl ?_
      refine tm_iadd dX12_registers_167 ?_
      refine tm_iald (z := (4 * (220 * r + k)) + i) (v := σ.2.1 7 ((4 * (220 * r + k)) + i)) dX12_registers_168 (show mT[5]? = some (7, 0, 11440) from rfl) (by omega) (by omega) (by decide) (rfl) ?_
      have g7 := RG.a hR 7 ((4 * (220 * r + k)) + i)
      refine tm_iconst dX12_registers_169 ?_
      refine tm_icmp_ne (tgt := 206) dX12_registers_170 (by decide) ⟨by omega, by omega⟩ ⟨by decide, by decide⟩ (fun h8 => ?_) (fun h8 => ?_)
      · refine tm_iload_n dX12_registers_206 rfl 3 rfl ?_
        refine tm_istore_n (L' := [(2, .int (iI m)), (5, .int (iI i)), (4, .int (iI (220 * r + k))), (3, .int (iI k)), (0, .ref b), (1, .int (iI r))]) dX12_registers_207 rfl (by decide) rfl ?_
        refine tm_iinc (q0 := 1) (L' := [(5, .int (iI (i + 1))), (2, .int (iI m)), (4, .int (iI (220 * r + k))), (3, .int (iI k)), (0, .ref b), (1, .int (iI r))]) dX12_registers_208 rfl (by decide) rfl ?_
        refine tm_goto (tgt := 146) dX12_registers_211 (by decide) ?_
        exact tm_sub [0, 2, 3, 1, 4, 5] rfl (ih _ (by omega) (m) (i + 1) (by omega) (fun j a c e => by
          by_cases q : j = i
          · subst q; omega
          · have := hj j a (by omega) e; omega) rfl)
      · refine tm_aload_n dX12_registers_173 rfl 4 rfl ?_
        refine tm_get (k := 8) (v := .ref (b + 1 + 6)) lay_12 dX12_registers_174 (by decide) fl12_29 rfl ?_
        refine tm_iconst dX12_registers_177 ?_
        refine tm_iload dX12_registers_178 1 rfl ?_
        refine tm_imul dX12_registers_180 ?_
        refine tm_iload dX12_registers_181 0 rfl ?_
        refine tm_iadd dX12_registers_183 ?_
        refine tm_iald (z := (4 * (220 * r + k)) + i) (v := σ.2.1 8 ((4 * (220 * r + k)) + i)) dX12_registers_184 (show mT[6]? = some (8, 0, 11440) from rfl) (by omega) (by omega) (by decide) (rfl) ?_
        have g9 := RG.a hR 8 ((4 * (220 * r + k)) + i)
        refine tm_iload_n dX12_registers_185 rfl 3 rfl ?_
        refine tm_icmp_lt (tgt := 206) dX12_registers_186 (by decide) ⟨by omega, by omega⟩ ⟨by omega, by omega⟩ (fun h10 => ?_) (fun h10 => ?_)
        · refine tm_iload_n dX12_registers_206 rfl 3 rfl ?_
          refine tm_istore_n (L' := [(2, .int (iI m)), (5, .int (iI i)), (4, .int (iI (220 * r + k))), (3, .int (iI k)), (0, .ref b), (1, .int (iI r))]) dX12_registers_207 rfl (by decide) rfl ?_
          refine tm_iinc (q0 := 1) (L' := [(5, .int (iI (i + 1))), (2, .int (iI m)), (4, .int (iI (220 * r + k))), (3, .int (iI k)), (0, .ref b), (1, .int (iI r))]) dX12_registers_208 rfl (by decide) rfl ?_
          refine tm_goto (tgt := 146) dX12_registers_211 (by decide) ?_
          exact tm_sub [0, 2, 3, 1, 4, 5] rfl (ih _ (by omega) (m) (i + 1) (by omega) (fun j a c e => by
          by_cases q : j = i
          · subst q; omega
          · have := hj j a (by omega) e; omega) rfl)
        · refine tm_aload_n dX12_registers_189 rfl 4 rfl ?_
          refine tm_get (k := 8) (v := .ref (b + 1 + 6)) lay_12 dX12_registers_190 (by decide) fl12_29 rfl ?_
          refine tm_iconst dX12_registers_193 ?_
          refine tm_iload dX12_registers_194 1 rfl ?_
          refine tm_imul dX12_registers_196 ?_
          refine tm_iload dX12_registers_197 0 rfl ?_
          refine tm_iadd dX12_registers_199 ?_
          refine tm_iald (z := (4 * (220 * r + k)) + i) (v := σ.2.1 8 ((4 * (220 * r + k)) + i)) dX12_registers_200 (show mT[6]? = some (8, 0, 11440) from rfl) (by omega) (by omega) (by decide) (rfl) ?_
          have g11 := RG.a hR 8 ((4 * (220 * r + k)) + i)
          refine tm_iconst dX12_registers_201 ?_
          refine tm_iadd dX12_registers_202 ?_
          refine tm_goto (tgt := 207) dX12_registers_203 (by decide) ?_
          refine tm_istore_n (L' := [(2, .int (iI ((σ.2.1 8 ((4 * (220 * r + k)) + i)) + 1))), (5, .int (iI i)), (4, .int (iI (220 * r + k))), (3, .int (iI k)), (0, .ref b), (1, .int (iI r))]) dX12_registers_207 rfl (by decide) rfl ?_
          refine tm_iinc (q0 := 1) (L' := [(5, .int (iI (i + 1))), (2, .int (iI ((σ.2.1 8 ((4 * (220 * r + k)) + i)) + 1))), (4, .int (iI (220 * r + k))), (3, .int (iI k)), (0, .ref b), (1, .int (iI r))]) dX12_registers_208 rfl (by decide) rfl ?_
          refine tm_goto (tgt := 146) dX12_registers_211 (by decide) ?_
          exact tm_sub [0, 2, 3, 1, 4, 5] rfl (ih _ (by omega) ((σ.2.1 8 ((4 * (220 * r + k)) + i)) + 1) (i + 1) (by omega) (fun j a c e => by
          by_cases q : j = i
          · subst q; omega
          · have := hj j a (by omega) e; omega) rfl)
theorem dX12_registers_87 : decode cX12_registers 87 = .ok (.iload_n 3, 1) := by decide +kernel
theorem dX12_registers_88 : decode cX12_registers 88 = .ok (.aload_n 0, 1) := by decide +kernel
theorem dX12_registers_89 : decode cX12_registers 89 = .ok (.getfield 32, 3) := by decide +kernel
theorem dX12_registers_92 : decode cX12_registers 92 = .ok (.iload_n 1, 1) := by decide +kernel
theorem dX12_registers_93 : decode cX12_registers 93 = .ok (.iaload, 1) := by decide +kernel
theorem dX12_registers_94 : decode cX12_registers 94 = .ok (.if_icmp .ge 126, 3) := by decide +kernel
theorem dX12_registers_97 : decode cX12_registers 97 = .ok (.aload_n 0, 1) := by decide +kernel
theorem dX12_registers_98 : decode cX12_registers 98 = .ok (.iload_n 1, 1) := by decide +kernel
theorem dX12_registers_99 : decode cX12_registers 99 = .ok (.iload_n 3, 1) := by decide +kernel
theorem dX12_registers_100 : decode cX12_registers 100 = .ok (.invokevirtual 203, 3) := by decide +kernel
theorem dX12_registers_103 : decode cX12_registers 103 = .ok (.istore 4, 2) := by decide +kernel
theorem dX12_registers_105 : decode cX12_registers 105 = .ok (.aload_n 0, 1) := by decide +kernel
theorem dX12_registers_106 : decode cX12_registers 106 = .ok (.getfield 13, 3) := by decide +kernel
theorem dX12_registers_109 : decode cX12_registers 109 = .ok (.iload 4, 2) := by decide +kernel
theorem dX12_registers_111 : decode cX12_registers 111 = .ok (.iaload, 1) := by decide +kernel
theorem dX12_registers_112 : decode cX12_registers 112 = .ok (.invokestatic 192, 3) := by decide +kernel
theorem dX12_registers_115 : decode cX12_registers 115 = .ok (.ifCond .eq 26, 3) := by decide +kernel
theorem dX12_registers_141 : decode cX12_registers 141 = .ok (.iload_n 2, 1) := by decide +kernel
theorem dX12_registers_142 : decode cX12_registers 142 = .ok (.istore_n 2, 1) := by decide +kernel
theorem dX12_registers_143 : decode cX12_registers 143 = .ok (.iconst 0, 1) := by decide +kernel
theorem dX12_registers_144 : decode cX12_registers 144 = .ok (.istore 5, 2) := by decide +kernel
theorem dX12_registers_214 : decode cX12_registers 214 = .ok (.iinc 3 1, 3) := by decide +kernel
theorem dX12_registers_217 : decode cX12_registers 217 = .ok (.goto (-130), 3) := by decide +kernel
theorem dX12_registers_118 : decode cX12_registers 118 = .ok (.aload_n 0, 1) := by decide +kernel
theorem dX12_registers_119 : decode cX12_registers 119 = .ok (.getfield 17, 3) := by decide +kernel
theorem dX12_registers_122 : decode cX12_registers 122 = .ok (.iload 4, 2) := by decide +kernel
theorem dX12_registers_124 : decode cX12_registers 124 = .ok (.iaload, 1) := by decide +kernel
theorem dX12_registers_125 : decode cX12_registers 125 = .ok (.iload_n 2, 1) := by decide +kernel
theorem dX12_registers_126 : decode cX12_registers 126 = .ok (.if_icmp .lt 15, 3) := by decide +kernel
theorem dX12_registers_129 : decode cX12_registers 129 = .ok (.aload_n 0, 1) := by decide +kernel
theorem dX12_registers_130 : decode cX12_registers 130 = .ok (.getfield 17, 3) := by decide +kernel
theorem dX12_registers_133 : decode cX12_registers 133 = .ok (.iload 4, 2) := by decide +kernel
theorem dX12_registers_135 : decode cX12_registers 135 = .ok (.iaload, 1) := by decide +kernel
theorem dX12_registers_136 : decode cX12_registers 136 = .ok (.iconst 1, 1) := by decide +kernel
theorem dX12_registers_137 : decode cX12_registers 137 = .ok (.iadd, 1) := by decide +kernel
theorem dX12_registers_138 : decode cX12_registers 138 = .ok (.goto 4, 3) := by decide +kernel
set_option maxRecDepth 20000 in
theorem l_regs3 (d : Nat) {b : Nat} {σ : MS} {r : Int} {F : Int} {m0 : Int} {post : Option Value → MS → Prop} (hr : 0 ≤ r ∧ r < 12) (hR : RG σ) (hit : ITM σ) (hpar : PAR σ) (hok : OKS σ F r) (hx_220 : ∀ (m : Int) (k : Int) , (0 ≤ m ∧ m ≤ 192 ∧ m0 ≤ m) → (RGI σ r m (σ.2.1 9 r)) → Tm (d + 4) m_X12_registers 220 b σ [(3, .int (iI k)), (2, .int (iI m)), (0, .ref b), (1, .int (iI r))] [] post) : ∀ (n : Nat) (m : Int) (k : Int) , (0 ≤ m ∧ m ≤ 192 ∧ m0 ≤ m ∧ 0 ≤ k ∧ k ≤ σ.2.1 9 r) → (RGI σ r m k) → (220 - k).toNat = n → Tm (d + 4) m_X12_registers 87 b σ [(3, .int (iI k)), (2, .int (iI m)), (0, .ref b), (1, .int (iI r))] [] post := by
  intro n
  induction n using Nat.strongRecOn with
  | _ n ih =>
    intro m k h0 hg hm
    have q1 := hit r (by omega) (by omega)
    refine tm_iload_n dX12_registers_87 rfl 0 rfl ?_
    refine tm_aload_n dX12_registers_88 rfl 2 rfl ?_
    refine tm_get (k := 9) (v := .ref (b + 1 + 7)) lay_12 dX12_registers_89 (by decide) fl12_32 rfl ?_
    refine tm_iload_n dX12_registers_92 rfl 3 rfl ?_
    refine tm_iald (z := r) (v := σ.2.1 9 r) dX12_registers_93 (show mT[7]? = some (9, 0, 13) from rfl) (by omega) (by omega) (by decide) (rfl) ?_
    have g1 := RG.a hR 9 (r)
    refine tm_icmp_ge (tgt := 220) dX12_registers_94 (by decide) ⟨by omega, by omega⟩ ⟨by omega, by omega⟩ (fun h2 => ?_) (fun h2 => ?_)
    · exact tm_sub [0, 1, 2, 3] rfl (hx_220 (m) (k) (by omega) (by rw [show σ.2.1 9 r = k by omega]; exact hg))
    · refine tm_aload_n dX12_registers_97 rfl 2 rfl ?_
      refine tm_iload_n dX12_registers_98 rfl 3 rfl ?_
      refine tm_iload_n dX12_registers_99 rfl 0 rfl ?_
      refine tm_callV (M := m_X12_registers) (pc := 100) (ix := 203) (M' := m_X12_at) (As := [.int (iI r), .int (iI k)]) (rest := []) dX12_registers_100 ok_X12_at im_X12_at se_X12_at ml12_203 np_X12_at rfl rfl (Nat.le_of_ble_eq_true rfl) (Nat.le_of_ble_eq_true rfl) rfl (c_X12_at (d + 2) (σ := σ) (x := r) (k := k) ) (fun r3 σ4 hp => ?_)
      obtain ⟨v5, rfl, rfl, f6⟩ := hp
      subst f6
      show Tm _ _ 103 b σ [(3, .int (iI k)), (2, .int (iI m)), (0, .ref b), (1, .int (iI r))] [.int (iI (220 * r + k))] _
      refine tm_istore (L' := [(4, .int (iI (220 * r + k))), (3, .int (iI k)), (2, .int (iI m)), (0, .ref b), (1, .int (iI r))]) dX12_registers_103 (by decide) rfl ?_
      have q2 := hok.dest (k := k) (by omega) (by omega)
      refine tm_aload_n dX12_registers_105 rfl 3 rfl ?_
      refine tm_get (k := 3) (v := .ref (b + 1 + 1)) lay_12 dX12_registers_106 (by decide) fl12_13 rfl ?_
      refine tm_iload dX12_registers_109 0 rfl ?_
      refine tm_iald (z := 220 * r + k) (v := σ.2.1 3 (220 * r + k)) dX12_registers_111 (show mT[1]? = some (3, 0, 2860) from rfl) (by omega) (by omega) (by decide) (rfl) ?_
      have g7 := RG.a hR 3 (220 * r + k)
      refine tm_callS (M := m_X12_registers) (pc := 112) (ix := 192) (M' := m_X12_writes) (As := [.int (iI (σ.2.1 3 (220 * r + k)))]) (rest := []) dX12_registers_112 ok_X12_writes stt_X12_writes ml12_192 np_X12_writes rfl (Nat.le_of_ble_eq_true rfl) (Nat.le_of_ble_eq_true rfl) rfl (c_X12_writes (d + 2) (σ := σ) (x := σ.2.1 3 (220 * r + k)) (by omega)) (fun r8 σ9 hp => ?_)
      obtain ⟨v10, rfl, rfl, f11, f12⟩ := hp
      show Tm _ _ 115 b σ [(4, .int (iI (220 * r + k))), (3, .int (iI k)), (2, .int (iI m)), (0, .ref b), (1, .int (iI r))] [.int (iI v10)] _
      refine tm_if_eq (tgt := 141) dX12_registers_115 (by decide) ⟨by omega, by omega⟩ (fun h13 => ?_) (fun h13 => ?_)
      · refine tm_iload_n dX12_registers_141 rfl 2 rfl ?_
        refine tm_istore_n (L' := [(2, .int (iI m)), (4, .int (iI (220 * r + k))), (3, .int (iI k)), (0, .ref b), (1, .int (iI r))]) dX12_registers_142 rfl (by decide) rfl ?_
        refine tm_iconst dX12_registers_143 ?_
        refine tm_istore (L' := [(5, .int (iI 0)), (2, .int (iI m)), (4, .int (iI (220 * r + k))), (3, .int (iI k)), (0, .ref b), (1, .int (iI r))]) dX12_registers_144 (by decide) rfl ?_
        refine tm_sub [0, 2, 3, 1, 4, 5] rfl (l_regs4 (d) (σ := σ) (r := r) (k := k) (F := F) (m0 := m) hr hR hit hpar hok (by omega) (fun m20 i21 f18 f19 => ?_) _ (m) (0) (by omega) (fun j a c => by omega) rfl)
        show Tm _ _ 214 b σ [(5, .int (iI i21)), (4, .int (iI (220 * r + k))), (3, .int (iI k)), (2, .int (iI m20)), (0, .ref b), (1, .int (iI r))] [] _
        refine tm_iinc (q0 := 2) (L' := [(3, .int (iI (k + 1))), (5, .int (iI i21)), (4, .int (iI (220 * r + k))), (2, .int (iI m20)), (0, .ref b), (1, .int (iI r))]) dX12_registers_214 rfl (by decide) rfl ?_
        refine tm_goto (tgt := 87) dX12_registers_217 (by decide) ?_
        exact tm_sub [0, 3, 4, 5] rfl (ih _ (by omega) (m20) (k + 1) (by omega) (fun j a c => by
          by_cases e : j = k
          · subst e; exact ⟨fun g => by omega, by assumption⟩
          · exact (hg.up (by omega)) j a (by omega)) rfl)
      · refine tm_aload_n dX12_registers_118 rfl 3 rfl ?_
        refine tm_get (k := 4) (v := .ref (b + 1 + 2)) lay_12 dX12_registers_119 (by decide) fl12_17 rfl ?_
        refine tm_iload dX12_registers_122 0 rfl ?_
        refine tm_iald (z := 220 * r + k) (v := σ.2.1 4 (220 * r + k)) dX12_registers_124 (show mT[2]? = some (4, 0, 2860) from rfl) (by omega) (by omega) (by decide) (rfl) ?_
        have g22 := RG.a hR 4 (220 * r + k)
        refine tm_iload_n dX12_registers_125 rfl 2 rfl ?_
        refine tm_icmp_lt (tgt := 141) dX12_registers_126 (by decide) ⟨by omega, by omega⟩ ⟨by omega, by omega⟩ (fun h23 => ?_) (fun h23 => ?_)
        · refine tm_iload_n dX12_registers_141 rfl 2 rfl ?_
          refine tm_istore_n (L' := [(2, .int (iI m)), (4, .int (iI (220 * r + k))), (3, .int (iI k)), (0, .ref b), (1, .int (iI r))]) dX12_registers_142 rfl (by decide) rfl ?_
          refine tm_iconst dX12_registers_143 ?_
          refine tm_istore (L' := [(5, .int (iI 0)), (2, .int (iI m)), (4, .int (iI (220 * r + k))), (3, .int (iI k)), (0, .ref b), (1, .int (iI r))]) dX12_registers_144 (by decide) rfl ?_
          refine tm_sub [0, 2, 3, 1, 4, 5] rfl (l_regs4 (d) (σ := σ) (r := r) (k := k) (F := F) (m0 := m) hr hR hit hpar hok (by omega) (fun m30 i31 f28 f29 => ?_) _ (m) (0) (by omega) (fun j a c => by omega) rfl)
          show Tm _ _ 214 b σ [(5, .int (iI i31)), (4, .int (iI (220 * r + k))), (3, .int (iI k)), (2, .int (iI m30)), (0, .ref b), (1, .int (iI r))] [] _
          refine tm_iinc (q0 := 2) (L' := [(3, .int (iI (k + 1))), (5, .int (iI i31)), (4, .int (iI (220 * r + k))), (2, .int (iI m30)), (0, .ref b), (1, .int (iI r))]) dX12_registers_214 rfl (by decide) rfl ?_
          refine tm_goto (tgt := 87) dX12_registers_217 (by decide) ?_
          exact tm_sub [0, 3, 4, 5] rfl (ih _ (by omega) (m30) (k + 1) (by omega) (fun j a c => by
          by_cases e : j = k
          · subst e; exact ⟨fun g => by omega, by assumption⟩
          · exact (hg.up (by omega)) j a (by omega)) rfl)
        · refine tm_aload_n dX12_registers_129 rfl 3 rfl ?_
          refine tm_get (k := 4) (v := .ref (b + 1 + 2)) lay_12 dX12_registers_130 (by decide) fl12_17 rfl ?_
          refine tm_iload dX12_registers_133 0 rfl ?_
          refine tm_iald (z := 220 * r + k) (v := σ.2.1 4 (220 * r + k)) dX12_registers_135 (show mT[2]? = some (4, 0, 2860) from rfl) (by omega) (by omega) (by decide) (rfl) ?_
          have g32 := RG.a hR 4 (220 * r + k)
          refine tm_iconst dX12_registers_136 ?_
          refine tm_iadd dX12_registers_137 ?_
          refine tm_goto (tgt := 142) dX12_registers_138 (by decide) ?_
          refine tm_istore_n (L' := [(2, .int (iI ((σ.2.1 4 (220 * r + k)) + 1))), (4, .int (iI (220 * r + k))), (3, .int (iI k)), (0, .ref b), (1, .int (iI r))]) dX12_registers_142 rfl (by decide) rfl ?_
          refine tm_iconst dX12_registers_143 ?_
          refine tm_istore (L' := [(5, .int (iI 0)), (2, .int (iI ((σ.2.1 4 (220 * r + k)) + 1))), (4, .int (iI (220 * r + k))), (3, .int (iI k)), (0, .ref b), (1, .int (iI r))]) dX12_registers_144 (by decide) rfl ?_
          refine tm_sub [0, 2, 3, 1, 4, 5] rfl (l_regs4 (d) (σ := σ) (r := r) (k := k) (F := F) (m0 := (σ.2.1 4 (220 * r + k)) + 1) hr hR hit hpar hok (by omega) (fun m39 i40 f37 f38 => ?_) _ ((σ.2.1 4 (220 * r + k)) + 1) (0) (by omega) (fun j a c => by omega) rfl)
          show Tm _ _ 214 b σ [(5, .int (iI i40)), (4, .int (iI (220 * r + k))), (3, .int (iI k)), (2, .int (iI m39)), (0, .ref b), (1, .int (iI r))] [] _
          refine tm_iinc (q0 := 2) (L' := [(3, .int (iI (k + 1))), (5, .int (iI i40)), (4, .int (iI (220 * r + k))), (2, .int (iI m39)), (0, .ref b), (1, .int (iI r))]) dX12_registers_214 rfl (by decide) rfl ?_
          refine tm_goto (tgt := 87) dX12_registers_217 (by decide) ?_
          exact tm_sub [0, 3, 4, 5] rfl (ih _ (by omega) (m39) (k + 1) (by omega) (fun j a c => by
          by_cases e : j = k
          · subst e; exact ⟨fun g => by omega, by assumption⟩
          · exact (hg.up (by omega)) j a (by omega)) rfl)
theorem dX12_registers_0 : decode cX12_registers 0 = .ok (.iconst 0, 1) := by decide +kernel
theorem dX12_registers_1 : decode cX12_registers 1 = .ok (.istore_n 2, 1) := by decide +kernel
theorem dX12_registers_2 : decode cX12_registers 2 = .ok (.iconst 0, 1) := by decide +kernel
theorem dX12_registers_3 : decode cX12_registers 3 = .ok (.istore_n 3, 1) := by decide +kernel
theorem dX12_registers_85 : decode cX12_registers 85 = .ok (.iconst 0, 1) := by decide +kernel
theorem dX12_registers_86 : decode cX12_registers 86 = .ok (.istore_n 3, 1) := by decide +kernel
theorem dX12_registers_220 : decode cX12_registers 220 = .ok (.iload_n 2, 1) := by decide +kernel
theorem dX12_registers_221 : decode cX12_registers 221 = .ok (.ireturn, 1) := by decide +kernel
set_option maxRecDepth 20000 in
theorem c_X12_registers (d : Nat) {b : Nat} {σ : MS} {r : Int} {F : Int} (hr : 0 ≤ r ∧ r < 6) (hR : RG σ) (hof : OKF σ r) (hnam : NAM σ) (hit : ITM σ) (hpar : PAR σ) (hok : OKS σ F r) : Tm (d + 4) m_X12_registers 0 b σ [(0, .ref b), (1, .int (iI r))] [] (fun ro σ2 => ∃ v : Int, ro = some (.int (iI v)) ∧ σ = σ2 ∧ (0 ≤ v ∧ v ≤ 192) ∧ (RGN σ r v (σ.2.1 14 r)) ∧ (RGI σ r v (σ.2.1 9 r))) := by
  refine tm_iconst dX12_registers_0 ?_
  refine tm_istore_n (L' := [(2, .int (iI 0)), (0, .ref b), (1, .int (iI r))]) dX12_registers_1 rfl (by decide) rfl ?_
  refine tm_iconst dX12_registers_2 ?_
  refine tm_istore_n (L' := [(3, .int (iI 0)), (2, .int (iI 0)), (0, .ref b), (1, .int (iI r))]) dX12_registers_3 rfl (by decide) rfl ?_
  refine tm_sub [0, 1, 2, 3] rfl (l_regs1 (d + 3) (σ := σ) (r := r) hr hR hof hnam (fun m7 f8 f5 f6 => ?_) _ (0) (0) (by have := hof.1; omega) (fun g a c => by omega) rfl)
  show Tm _ _ 85 b σ [(3, .int (iI f8)), (2, .int (iI m7)), (0, .ref b), (1, .int (iI r))] [] _
  refine tm_iconst dX12_registers_85 ?_
  refine tm_istore_n (L' := [(3, .int (iI 0)), (2, .int (iI m7)), (0, .ref b), (1, .int (iI r))]) dX12_registers_86 rfl (by decide) rfl ?_
  refine tm_sub [0, 1, 2, 3] rfl (l_regs3 (d) (σ := σ) (r := r) (F := F) (m0 := m7) (by omega) hR hit hpar hok (fun m15 k16 f13 f14 => ?_) _ (m7) (0) (by have := hit r (by omega) (by omega); omega) (fun g a c => by omega) rfl)
  show Tm _ _ 220 b σ [(3, .int (iI k16)), (2, .int (iI m15)), (0, .ref b), (1, .int (iI r))] [] _
  refine tm_iload_n dX12_registers_220 rfl 1 rfl ?_
  exact tm_iret rfl dX12_registers_221 (⟨_, rfl, rfl, by omega, RGN.up (by assumption) (by omega), by assumption⟩)
