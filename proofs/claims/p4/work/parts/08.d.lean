def TGT (σ : MS) (r : Int) : Prop := ∀ k, 0 ≤ k → k < σ.2.1 9 r → (σ.2.1 3 (220 * r + k) = 8 ∨ σ.2.1 3 (220 * r + k) = 9) → 0 ≤ σ.2.1 46 (σ.2.1 4 (220 * r + k)) ∧ σ.2.1 46 (σ.2.1 4 (220 * r + k)) < σ.2.1 9 r ∧ σ.2.1 3 (220 * r + σ.2.1 46 (σ.2.1 4 (220 * r + k))) = 13
theorem TGT.fr {ss ks js : List Nat} {σ τ : MS} {r : Int} (h : TGT σ r) (f : Fr ss ks js σ τ) (hk : ∀ k ∈ [3, 4, 9, 46], k ∉ ks) : TGT τ r := by
  unfold TGT
  rw [f.q hk (k := 3) (by decide), f.q hk (k := 4) (by decide), f.q hk (k := 9) (by decide), f.q hk (k := 46) (by decide)]
  exact h
theorem LEX.tgt {σ τ : MS} {r : Int} (h : LEX σ r) (f : LFN σ τ r (σ.2.1 9 r)) (g : Fr [] [46] [] σ τ) : TGT τ r := fun k a b c => by
  rw [g.2.1 9 (by decide)] at b ⊢
  rw [g.2.1 3 (by decide)] at c ⊢
  rw [g.2.1 4 (by decide)]
  exact h.to f a b c
def FR0 (σ : MS) (r : Int) : Prop := σ.2.1 15 (12 * r + 0) = r

theorem dX12_findStates_43 : decode cX12_findStates 43 = .ok (.iload_n 3, 1) := by decide +kernel
theorem dX12_findStates_44 : decode cX12_findStates 44 = .ok (.sipush 144, 3) := by decide +kernel
theorem dX12_findStates_47 : decode cX12_findStates 47 = .ok (.if_icmp .ge 65, 3) := by decide +kernel
theorem dX12_findStates_50 : decode cX12_findStates 50 = .ok (.sipush 31824, 3) := by decide +kernel
theorem dX12_findStates_53 : decode cX12_findStates 53 = .ok (.iload_n 1, 1) := by decide +kernel
theorem dX12_findStates_54 : decode cX12_findStates 54 = .ok (.imul, 1) := by decide +kernel
theorem dX12_findStates_55 : decode cX12_findStates 55 = .ok (.sipush 144, 3) := by decide +kernel
theorem dX12_findStates_58 : decode cX12_findStates 58 = .ok (.iload_n 2, 1) := by decide +kernel
theorem dX12_findStates_59 : decode cX12_findStates 59 = .ok (.imul, 1) := by decide +kernel
theorem dX12_findStates_60 : decode cX12_findStates 60 = .ok (.iadd, 1) := by decide +kernel
theorem dX12_findStates_61 : decode cX12_findStates 61 = .ok (.iload_n 3, 1) := by decide +kernel
theorem dX12_findStates_62 : decode cX12_findStates 62 = .ok (.iadd, 1) := by decide +kernel
theorem dX12_findStates_63 : decode cX12_findStates 63 = .ok (.istore 4, 2) := by decide +kernel
theorem dX12_findStates_65 : decode cX12_findStates 65 = .ok (.aload_n 0, 1) := by decide +kernel
theorem dX12_findStates_66 : decode cX12_findStates 66 = .ok (.getfield 99, 3) := by decide +kernel
theorem dX12_findStates_69 : decode cX12_findStates 69 = .ok (.iload 4, 2) := by decide +kernel
theorem dX12_findStates_71 : decode cX12_findStates 71 = .ok (.bipush 11, 2) := by decide +kernel
theorem dX12_findStates_73 : decode cX12_findStates 73 = .ok (.iastore, 1) := by decide +kernel
theorem dX12_findStates_74 : decode cX12_findStates 74 = .ok (.aload_n 0, 1) := by decide +kernel
theorem dX12_findStates_75 : decode cX12_findStates 75 = .ok (.getfield 102, 3) := by decide +kernel
theorem dX12_findStates_78 : decode cX12_findStates 78 = .ok (.iload 4, 2) := by decide +kernel
theorem dX12_findStates_80 : decode cX12_findStates 80 = .ok (.iconst 0, 1) := by decide +kernel
theorem dX12_findStates_81 : decode cX12_findStates 81 = .ok (.iastore, 1) := by decide +kernel
theorem dX12_findStates_82 : decode cX12_findStates 82 = .ok (.aload_n 0, 1) := by decide +kernel
theorem dX12_findStates_83 : decode cX12_findStates 83 = .ok (.getfield 105, 3) := by decide +kernel
theorem dX12_findStates_86 : decode cX12_findStates 86 = .ok (.iload 4, 2) := by decide +kernel
theorem dX12_findStates_88 : decode cX12_findStates 88 = .ok (.iconst 0, 1) := by decide +kernel
theorem dX12_findStates_89 : decode cX12_findStates 89 = .ok (.iastore, 1) := by decide +kernel
theorem dX12_findStates_90 : decode cX12_findStates 90 = .ok (.aload_n 0, 1) := by decide +kernel
theorem dX12_findStates_91 : decode cX12_findStates 91 = .ok (.getfield 108, 3) := by decide +kernel
theorem dX12_findStates_94 : decode cX12_findStates 94 = .ok (.iload 4, 2) := by decide +kernel
theorem dX12_findStates_96 : decode cX12_findStates 96 = .ok (.iconst 0, 1) := by decide +kernel
theorem dX12_findStates_97 : decode cX12_findStates 97 = .ok (.iastore, 1) := by decide +kernel
theorem dX12_findStates_98 : decode cX12_findStates 98 = .ok (.aload_n 0, 1) := by decide +kernel
theorem dX12_findStates_99 : decode cX12_findStates 99 = .ok (.getfield 111, 3) := by decide +kernel
theorem dX12_findStates_102 : decode cX12_findStates 102 = .ok (.iload 4, 2) := by decide +kernel
theorem dX12_findStates_104 : decode cX12_findStates 104 = .ok (.iconst 0, 1) := by decide +kernel
theorem dX12_findStates_105 : decode cX12_findStates 105 = .ok (.iastore, 1) := by decide +kernel
theorem dX12_findStates_106 : decode cX12_findStates 106 = .ok (.iinc 3 1, 3) := by decide +kernel
theorem dX12_findStates_109 : decode cX12_findStates 109 = .ok (.goto (-66), 3) := by decide +kernel
set_option maxHeartbeats 2000000 in
set_option maxRecDepth 20000 in
theorem l_states2 (d : Nat) {b : Nat} {σ0 : MS} {r : Int} {k : Int} {post : Option Value → MS → Prop} (hr : 0 ≤ r ∧ r < 6) (hk : 0 ≤ k ∧ k ≤ 220) (hx_112 : ∀ (n1 : Int) (σ : MS) , (Fr [] [49, 50, 51, 52, 53] [] σ0 σ) → (RG σ) → (SSA σ) → (∀ n, 0 ≤ n → n < 144 → σ.2.1 49 (31824 * r + 144 * k + n) = 11) → (∀ y, y < 31824 * r + 144 * k → σ.2.1 49 y = σ0.2.1 49 y) → Tm (d + 1) m_X12_findStates 112 b σ [(3, .int (iI n1)), (2, .int (iI k)), (0, .ref b), (1, .int (iI r))] [] post) : ∀ (n : Nat) (n1 : Int) (σ : MS) , (Fr [] [49, 50, 51, 52, 53] [] σ0 σ) → (RG σ) → (0 ≤ n1 ∧ n1 ≤ 144) → (SSA σ) → (∀ n, 0 ≤ n → n < n1 → σ.2.1 49 (31824 * r + 144 * k + n) = 11) → (∀ y, y < 31824 * r + 144 * k → σ.2.1 49 y = σ0.2.1 49 y) → (144 - n1).toNat = n → Tm (d + 1) m_X12_findStates 43 b σ [(3, .int (iI n1)), (2, .int (iI k)), (0, .ref b), (1, .int (iI r))] [] post := by
  intro n
  induction n using Nat.strongRecOn with
  | _ n ih =>
    intro n1 σ hF hR h0 hss hun hre hm
    refine tm_iload_n dX12_findStates_43 rfl 0 rfl ?_
    refine tm_sipush dX12_findStates_44 (by decide) ?_
    refine tm_icmp_ge (tgt := 112) dX12_findStates_47 (by decide) ⟨by omega, by omega⟩ ⟨by decide, by decide⟩ (fun h1 => ?_) (fun h1 => ?_)
    · exact tm_sub [0, 1, 2, 3] rfl (hx_112 (n1) σ (Fr.rfl.trans (Fr.sub hF (by decide) (by decide) (by decide))) hR hss (fun n a c => hun n a (by omega)) hre)
    · refine tm_sipush dX12_findStates_50 (by decide) ?_
      refine tm_iload_n dX12_findStates_53 rfl 3 rfl ?_
      refine tm_imul dX12_findStates_54 ?_
      refine tm_sipush dX12_findStates_55 (by decide) ?_
      refine tm_iload_n dX12_findStates_58 rfl 1 rfl ?_
      refine tm_imul dX12_findStates_59 ?_
      refine tm_iadd dX12_findStates_60 ?_
      refine tm_iload_n dX12_findStates_61 rfl 0 rfl ?_
      refine tm_iadd dX12_findStates_62 ?_
      refine tm_istore (L' := [(4, .int (iI (((31824 * r) + (144 * k)) + n1))), (3, .int (iI n1)), (2, .int (iI k)), (0, .ref b), (1, .int (iI r))]) dX12_findStates_63 (by decide) rfl ?_
      refine tm_aload_n dX12_findStates_65 rfl 3 rfl ?_
      refine tm_get (k := 49) (v := .ref (b + 1 + 27)) lay_12 dX12_findStates_66 (by decide) fl12_99 rfl ?_
      refine tm_iload dX12_findStates_69 0 rfl ?_
      refine tm_bipush dX12_findStates_71 (by decide) ?_
      refine tm_iast (z := ((31824 * r) + (144 * k)) + n1) (v := 11) dX12_findStates_73 (show mT[27]? = some (49, 0, 190944) from rfl) (by omega) (by omega) (by decide) ?_
      refine tm_aload_n dX12_findStates_74 rfl 3 rfl ?_
      refine tm_get (k := 50) (v := .ref (b + 1 + 28)) lay_12 dX12_findStates_75 (by decide) fl12_102 rfl ?_
      refine tm_iload dX12_findStates_78 0 rfl ?_
      refine tm_iconst dX12_findStates_80 ?_
      refine tm_iast (z := ((31824 * r) + (144 * k)) + n1) (v := 0) dX12_findStates_81 (show mT[28]? = some (50, 0, 190944) from rfl) (by omega) (by omega) (by decide) ?_
      refine tm_aload_n dX12_findStates_82 rfl 3 rfl ?_
      refine tm_get (k := 51) (v := .ref (b + 1 + 29)) lay_12 dX12_findStates_83 (by decide) fl12_105 rfl ?_
      refine tm_iload dX12_findStates_86 0 rfl ?_
      refine tm_iconst dX12_findStates_88 ?_
      refine tm_iast (z := ((31824 * r) + (144 * k)) + n1) (v := 0) dX12_findStates_89 (show mT[29]? = some (51, 0, 190944) from rfl) (by omega) (by omega) (by decide) ?_
      refine tm_aload_n dX12_findStates_90 rfl 3 rfl ?_
      refine tm_get (k := 52) (v := .ref (b + 1 + 30)) lay_12 dX12_findStates_91 (by decide) fl12_108 rfl ?_
      refine tm_iload dX12_findStates_94 0 rfl ?_
      refine tm_iconst dX12_findStates_96 ?_
      refine tm_iast (z := ((31824 * r) + (144 * k)) + n1) (v := 0) dX12_findStates_97 (show mT[30]? = some (52, 0, 190944) from rfl) (by omega) (by omega) (by decide) ?_
      refine tm_aload_n dX12_findStates_98 rfl 3 rfl ?_
      refine tm_get (k := 53) (v := .ref (b + 1 + 31)) lay_12 dX12_findStates_99 (by decide) fl12_111 rfl ?_
      refine tm_iload dX12_findStates_102 0 rfl ?_
      refine tm_iconst dX12_findStates_104 ?_
      refine tm_iast (z := ((31824 * r) + (144 * k)) + n1) (v := 0) dX12_findStates_105 (show mT[31]? = some (53, 0, 190944) from rfl) (by omega) (by omega) (by decide) ?_
      refine tm_iinc (q0 := 1) (L' := [(3, .int (iI (n1 + 1))), (4, .int (iI (((31824 * r) + (144 * k)) + n1))), (2, .int (iI k)), (0, .ref b), (1, .int (iI r))]) dX12_findStates_106 rfl (by decide) rfl ?_
      refine tm_goto (tgt := 43) dX12_findStates_109 (by decide) ?_
      exact tm_sub [0, 2, 3, 4] rfl (ih _ (by omega) (n1 + 1) (sA 53 (((31824 * r) + (144 * k)) + n1) (0) (sA 52 (((31824 * r) + (144 * k)) + n1) (0) (sA 51 (((31824 * r) + (144 * k)) + n1) (0) (sA 50 (((31824 * r) + (144 * k)) + n1) (0) (sA 49 (((31824 * r) + (144 * k)) + n1) (11) σ))))) ((((((Fr.rfl.trans (Fr.sub hF (by decide) (by decide) (by decide))).A (by decide)).A (by decide)).A (by decide)).A (by decide)).A (by decide)) (((((hR.A (by omega)).A (by omega)).A (by omega)).A (by omega)).A (by omega)) (by omega) (hss.put (n := 31824 * r + 144 * k + n1) (w := 11) (ka := 0) (a := 0) (kb := 0) (c := 0) (by omega) (by omega)) (fun n a c => (congrFun (fSt_w (n := 31824 * r + 144 * k + n1) (w := 11) (ka := 0) (a := 0) (kb := 0) (c := 0) (σ := σ)) _).trans (by
          by_cases q : n = n1
          · exact if_pos (by omega)
          · exact (if_neg (by omega)).trans (hun n a (by omega)))) (fun y c => (congrFun (fSt_w (n := 31824 * r + 144 * k + n1) (w := 11) (ka := 0) (a := 0) (kb := 0) (c := 0) (σ := σ)) _).trans ((if_neg (by omega)).trans (hre y c))) rfl)
theorem dX12_findStates_24 : decode cX12_findStates 24 = .ok (.iload_n 2, 1) := by decide +kernel
theorem dX12_findStates_25 : decode cX12_findStates 25 = .ok (.aload_n 0, 1) := by decide +kernel
theorem dX12_findStates_26 : decode cX12_findStates 26 = .ok (.getfield 32, 3) := by decide +kernel
theorem dX12_findStates_29 : decode cX12_findStates 29 = .ok (.iload_n 1, 1) := by decide +kernel
theorem dX12_findStates_30 : decode cX12_findStates 30 = .ok (.iaload, 1) := by decide +kernel
theorem dX12_findStates_31 : decode cX12_findStates 31 = .ok (.if_icmp .gt 87, 3) := by decide +kernel
theorem dX12_findStates_34 : decode cX12_findStates 34 = .ok (.aload_n 0, 1) := by decide +kernel
theorem dX12_findStates_35 : decode cX12_findStates 35 = .ok (.getfield 91, 3) := by decide +kernel
theorem dX12_findStates_38 : decode cX12_findStates 38 = .ok (.iload_n 2, 1) := by decide +kernel
theorem dX12_findStates_39 : decode cX12_findStates 39 = .ok (.iconst 0, 1) := by decide +kernel
theorem dX12_findStates_40 : decode cX12_findStates 40 = .ok (.bastore, 1) := by decide +kernel
theorem dX12_findStates_41 : decode cX12_findStates 41 = .ok (.iconst 0, 1) := by decide +kernel
theorem dX12_findStates_42 : decode cX12_findStates 42 = .ok (.istore_n 3, 1) := by decide +kernel
theorem dX12_findStates_112 : decode cX12_findStates 112 = .ok (.iinc 2 1, 3) := by decide +kernel
theorem dX12_findStates_115 : decode cX12_findStates 115 = .ok (.goto (-91), 3) := by decide +kernel
set_option maxHeartbeats 2000000 in
set_option maxRecDepth 20000 in
theorem l_states1 (d : Nat) {b : Nat} {σ0 : MS} {r : Int} {post : Option Value → MS → Prop} (hr : 0 ≤ r ∧ r < 6) (hR0 : RG σ0) (hit : 0 ≤ σ0.2.1 9 r ∧ σ0.2.1 9 r ≤ 220) (hx_118 : ∀ (k : Int) (σ : MS) , (Fr [] [47, 49, 50, 51, 52, 53] [] σ0 σ) → (RG σ) → (BO 47 σ) → (SSA σ) → (UNR σ r (σ0.2.1 9 r)) → Tm (d + 1) m_X12_findStates 118 b σ [(2, .int (iI k)), (0, .ref b), (1, .int (iI r))] [] post) : ∀ (n : Nat) (k : Int) (σ : MS) , (Fr [] [47, 49, 50, 51, 52, 53] [] σ0 σ) → (RG σ) → (0 ≤ k ∧ k ≤ 221) → (BO 47 σ) → (SSA σ) → (∀ j, 0 ≤ j → j < k → ∀ n, 0 ≤ n → n < 144 → σ.2.1 49 (31824 * r + 144 * j + n) = 11) → (221 - k).toNat = n → Tm (d + 1) m_X12_findStates 24 b σ [(2, .int (iI k)), (0, .ref b), (1, .int (iI r))] [] post := by
  intro n
  induction n using Nat.strongRecOn with
  | _ n ih =>
    intro k σ hF hR h0 hbo hss hun hm
    refine tm_iload_n dX12_findStates_24 rfl 0 rfl ?_
    refine tm_aload_n dX12_findStates_25 rfl 1 rfl ?_
    refine tm_get (k := 9) (v := .ref (b + 1 + 7)) lay_12 dX12_findStates_26 (by decide) fl12_32 rfl ?_
    refine tm_iload_n dX12_findStates_29 rfl 2 rfl ?_
    refine tm_iald (z := r) (v := σ0.2.1 9 r) dX12_findStates_30 (show mT[7]? = some (9, 0, 13) from rfl) (by omega) (by omega) (by decide) (ra_F hF (by decide) (rfl)) ?_
    have g1 := RG.a hR0 9 (r)
    refine tm_icmp_gt (tgt := 118) dX12_findStates_31 (by decide) ⟨by omega, by omega⟩ ⟨by omega, by omega⟩ (fun h2 => ?_) (fun h2 => ?_)
    · exact tm_sub [0, 1, 2] rfl (hx_118 (k) σ (Fr.rfl.trans (Fr.sub hF (by decide) (by decide) (by decide))) hR hbo hss (fun j a c e n g i => hun j a (by omega) n g i))
    · refine tm_aload_n dX12_findStates_34 rfl 1 rfl ?_
      refine tm_get (k := 47) (v := .ref (b + 1 + 25)) lay_12 dX12_findStates_35 (by decide) fl12_91 rfl ?_
      refine tm_iload_n dX12_findStates_38 rfl 0 rfl ?_
      refine tm_iconst dX12_findStates_39 ?_
      refine tm_zast (z := k) (v := 0) dX12_findStates_40 (show mT[25]? = some (47, 2, 221) from rfl) (by omega) (by omega) (by decide) (by omega) ?_
      refine tm_iconst dX12_findStates_41 ?_
      refine tm_istore_n (L' := [(3, .int (iI 0)), (2, .int (iI k)), (0, .ref b), (1, .int (iI r))]) dX12_findStates_42 rfl (by decide) rfl ?_
      refine tm_sub [0, 1, 2, 3] rfl (l_states2 (d) (σ0 := (sA 47 (k) (0) σ)) (r := r) (k := k) (by omega) (by omega) (fun n110 σ11 F5 R6 f7 f8 f9 => ?_) _ (0) (sA 47 (k) (0) σ) Fr.rfl (hR.A (by omega)) (by omega) hss (fun n a c => by omega) (fun y _ => rfl) rfl)
      show Tm _ _ 112 b σ11 [(3, .int (iI n110)), (2, .int (iI k)), (0, .ref b), (1, .int (iI r))] [] _
      refine tm_iinc (q0 := 1) (L' := [(2, .int (iI (k + 1))), (3, .int (iI n110)), (0, .ref b), (1, .int (iI r))]) dX12_findStates_112 rfl (by decide) rfl ?_
      refine tm_goto (tgt := 24) dX12_findStates_115 (by decide) ?_
      exact tm_sub [0, 2, 3] rfl (ih _ (by omega) (k + 1) σ11 (((Fr.rfl.trans (Fr.sub hF (by decide) (by decide) (by decide))).A (by decide)).trans (Fr.sub F5 (by decide) (by decide) (by decide))) R6 (by omega) ((hbo.A (by omega)).fr F5 (by decide)) f7 (fun j a c n g i => by
          by_cases q : j = k
          · subst q; exact f8 n g i
          · exact (f9 _ (by omega)).trans (hun j a (by omega) n g i)) rfl)
theorem dX12_findStates_120 : decode cX12_findStates 120 = .ok (.iload_n 2, 1) := by decide +kernel
theorem dX12_findStates_121 : decode cX12_findStates 121 = .ok (.sipush 144, 3) := by decide +kernel
theorem dX12_findStates_124 : decode cX12_findStates 124 = .ok (.if_icmp .ge 93, 3) := by decide +kernel
theorem dX12_findStates_127 : decode cX12_findStates 127 = .ok (.aload_n 0, 1) := by decide +kernel
theorem dX12_findStates_128 : decode cX12_findStates 128 = .ok (.iload_n 2, 1) := by decide +kernel
theorem dX12_findStates_129 : decode cX12_findStates 129 = .ok (.bipush 11, 2) := by decide +kernel
theorem dX12_findStates_131 : decode cX12_findStates 131 = .ok (.iconst 0, 1) := by decide +kernel
theorem dX12_findStates_132 : decode cX12_findStates 132 = .ok (.iconst 0, 1) := by decide +kernel
theorem dX12_findStates_133 : decode cX12_findStates 133 = .ok (.iconst 0, 1) := by decide +kernel
theorem dX12_findStates_134 : decode cX12_findStates 134 = .ok (.iconst 0, 1) := by decide +kernel
theorem dX12_findStates_135 : decode cX12_findStates 135 = .ok (.invokevirtual 416, 3) := by decide +kernel
theorem dX12_findStates_138 : decode cX12_findStates 138 = .ok (.iload_n 2, 1) := by decide +kernel
theorem dX12_findStates_139 : decode cX12_findStates 139 = .ok (.aload_n 0, 1) := by decide +kernel
theorem dX12_findStates_140 : decode cX12_findStates 140 = .ok (.getfield 38, 3) := by decide +kernel
theorem dX12_findStates_143 : decode cX12_findStates 143 = .ok (.iload_n 1, 1) := by decide +kernel
theorem dX12_findStates_144 : decode cX12_findStates 144 = .ok (.iaload, 1) := by decide +kernel
theorem dX12_findStates_145 : decode cX12_findStates 145 = .ok (.if_icmp .ge 66, 3) := by decide +kernel
theorem dX12_findStates_211 : decode cX12_findStates 211 = .ok (.iinc 2 1, 3) := by decide +kernel
theorem dX12_findStates_214 : decode cX12_findStates 214 = .ok (.goto (-94), 3) := by decide +kernel
theorem dX12_findStates_148 : decode cX12_findStates 148 = .ok (.aload_n 0, 1) := by decide +kernel
theorem dX12_findStates_149 : decode cX12_findStates 149 = .ok (.iload_n 2, 1) := by decide +kernel
theorem dX12_findStates_150 : decode cX12_findStates 150 = .ok (.iload_n 2, 1) := by decide +kernel
theorem dX12_findStates_151 : decode cX12_findStates 151 = .ok (.aload_n 0, 1) := by decide +kernel
theorem dX12_findStates_152 : decode cX12_findStates 152 = .ok (.getfield 35, 3) := by decide +kernel
theorem dX12_findStates_155 : decode cX12_findStates 155 = .ok (.iload_n 1, 1) := by decide +kernel
theorem dX12_findStates_156 : decode cX12_findStates 156 = .ok (.iaload, 1) := by decide +kernel
theorem dX12_findStates_157 : decode cX12_findStates 157 = .ok (.if_icmp .ge 7, 3) := by decide +kernel
theorem dX12_findStates_164 : decode cX12_findStates 164 = .ok (.iconst 1, 1) := by decide +kernel
theorem dX12_findStates_165 : decode cX12_findStates 165 = .ok (.iload_n 2, 1) := by decide +kernel
theorem dX12_findStates_166 : decode cX12_findStates 166 = .ok (.aload_n 0, 1) := by decide +kernel
theorem dX12_findStates_167 : decode cX12_findStates 167 = .ok (.getfield 35, 3) := by decide +kernel
theorem dX12_findStates_170 : decode cX12_findStates 170 = .ok (.iload_n 1, 1) := by decide +kernel
theorem dX12_findStates_171 : decode cX12_findStates 171 = .ok (.iaload, 1) := by decide +kernel
theorem dX12_findStates_172 : decode cX12_findStates 172 = .ok (.if_icmp .ge 7, 3) := by decide +kernel
theorem dX12_findStates_179 : decode cX12_findStates 179 = .ok (.iconst 1, 1) := by decide +kernel
theorem dX12_findStates_180 : decode cX12_findStates 180 = .ok (.iload_n 2, 1) := by decide +kernel
theorem dX12_findStates_181 : decode cX12_findStates 181 = .ok (.aload_n 0, 1) := by decide +kernel
theorem dX12_findStates_182 : decode cX12_findStates 182 = .ok (.getfield 35, 3) := by decide +kernel
theorem dX12_findStates_185 : decode cX12_findStates 185 = .ok (.iload_n 1, 1) := by decide +kernel
theorem dX12_findStates_186 : decode cX12_findStates 186 = .ok (.iaload, 1) := by decide +kernel
theorem dX12_findStates_187 : decode cX12_findStates 187 = .ok (.if_icmp .ge 18, 3) := by decide +kernel
theorem dX12_findStates_205 : decode cX12_findStates 205 = .ok (.iconst 0, 1) := by decide +kernel
theorem dX12_findStates_206 : decode cX12_findStates 206 = .ok (.iconst 0, 1) := by decide +kernel
theorem dX12_findStates_207 : decode cX12_findStates 207 = .ok (.iconst 0, 1) := by decide +kernel
theorem dX12_findStates_208 : decode cX12_findStates 208 = .ok (.invokevirtual 416, 3) := by decide +kernel
theorem dX12_findStates_160 : decode cX12_findStates 160 = .ok (.iconst 2, 1) := by decide +kernel
theorem dX12_findStates_161 : decode cX12_findStates 161 = .ok (.goto 4, 3) := by decide +kernel
theorem dX12_findStates_175 : decode cX12_findStates 175 = .ok (.iconst 2, 1) := by decide +kernel
theorem dX12_findStates_176 : decode cX12_findStates 176 = .ok (.goto 4, 3) := by decide +kernel
theorem dX12_findStates_190 : decode cX12_findStates 190 = .ok (.aload_n 0, 1) := by decide +kernel
theorem dX12_findStates_191 : decode cX12_findStates 191 = .ok (.getfield 56, 3) := by decide +kernel
theorem dX12_findStates_194 : decode cX12_findStates 194 = .ok (.sipush 144, 3) := by decide +kernel
theorem dX12_findStates_197 : decode cX12_findStates 197 = .ok (.iload_n 1, 1) := by decide +kernel
theorem dX12_findStates_198 : decode cX12_findStates 198 = .ok (.imul, 1) := by decide +kernel
theorem dX12_findStates_199 : decode cX12_findStates 199 = .ok (.iload_n 2, 1) := by decide +kernel
theorem dX12_findStates_200 : decode cX12_findStates 200 = .ok (.iadd, 1) := by decide +kernel
theorem dX12_findStates_201 : decode cX12_findStates 201 = .ok (.iaload, 1) := by decide +kernel
theorem dX12_findStates_202 : decode cX12_findStates 202 = .ok (.goto 4, 3) := by decide +kernel
set_option maxHeartbeats 2000000 in
set_option maxRecDepth 20000 in
theorem l_states3 (d : Nat) {b : Nat} {σ0 : MS} {r : Int} {post : Option Value → MS → Prop} (hr : 0 ≤ r ∧ r < 6) (hR0 : RG σ0) (hpm : 0 ≤ σ0.2.1 12 r ∧ σ0.2.1 12 r ≤ 12 ∧ 0 ≤ σ0.2.1 11 r ∧ σ0.2.1 11 r ≤ 4) (hnm : ∀ n, 0 ≤ n → n < σ0.2.1 12 r → 0 ≤ σ0.2.1 18 (144 * r + n) ∧ σ0.2.1 18 (144 * r + n) < 192) (hx_217 : ∀ (n1 : Int) (σ : MS) , (Fr [] [54, 55, 56, 57, 58] [] σ0 σ) → (RG σ) → (SCA σ) → Tm (d + 2) m_X12_findStates 217 b σ [(2, .int (iI n1)), (0, .ref b), (1, .int (iI r))] [] post) : ∀ (n : Nat) (n1 : Int) (σ : MS) , (Fr [] [54, 55, 56, 57, 58] [] σ0 σ) → (RG σ) → (0 ≤ n1 ∧ n1 ≤ 144) → (SCA σ) → (144 - n1).toNat = n → Tm (d + 2) m_X12_findStates 120 b σ [(2, .int (iI n1)), (0, .ref b), (1, .int (iI r))] [] post := by
  intro n
  induction n using Nat.strongRecOn with
  | _ n ih =>
    intro n1 σ hF hR h0 hsc hm
    refine tm_iload_n dX12_findStates_120 rfl 0 rfl ?_
    refine tm_sipush dX12_findStates_121 (by decide) ?_
    refine tm_icmp_ge (tgt := 217) dX12_findStates_124 (by decide) ⟨by omega, by omega⟩ ⟨by decide, by decide⟩ (fun h1 => ?_) (fun h1 => ?_)
    · exact tm_sub [0, 1, 2] rfl (hx_217 (n1) σ (Fr.rfl.trans (Fr.sub hF (by decide) (by decide) (by decide))) hR hsc)
    · refine tm_aload_n dX12_findStates_127 rfl 1 rfl ?_
      refine tm_iload_n dX12_findStates_128 rfl 0 rfl ?_
      refine tm_bipush dX12_findStates_129 (by decide) ?_
      refine tm_iconst dX12_findStates_131 ?_
      refine tm_iconst dX12_findStates_132 ?_
      refine tm_iconst dX12_findStates_133 ?_
      refine tm_iconst dX12_findStates_134 ?_
      refine tm_callV (M := m_X12_findStates) (pc := 135) (ix := 416) (M' := m_X12_setNow) (As := [.int (iI n1), .int (iI 11), .int (iI 0), .int (iI 0), .int (iI 0), .int (iI 0)]) (rest := []) dX12_findStates_135 ok_X12_setNow im_X12_setNow se_X12_setNow ml12_416 np_X12_setNow rfl rfl (Nat.le_of_ble_eq_true rfl) (Nat.le_of_ble_eq_true rfl) rfl (c_X12_setNow (d) (σ := σ) (n := n1) (w := 11) (ka := 0) (a := 0) (kb := 0) (c := 0) (by omega)) (fun r2 σ3 hp => ?_)
      obtain ⟨rfl, f5⟩ := hp
      subst f5
      show Tm _ _ 138 b (fNow (n1) (11) (0) (0) (0) (0) σ) [(2, .int (iI n1)), (0, .ref b), (1, .int (iI r))] [] _
      refine tm_iload_n dX12_findStates_138 rfl 0 rfl ?_
      refine tm_aload_n dX12_findStates_139 rfl 1 rfl ?_
      refine tm_get (k := 12) (v := .ref (b + 1 + 9)) lay_12 dX12_findStates_140 (by decide) fl12_38 rfl ?_
      refine tm_iload_n dX12_findStates_143 rfl 2 rfl ?_
      refine tm_iald (z := r) (v := σ0.2.1 12 r) dX12_findStates_144 (show mT[9]? = some (12, 0, 6) from rfl) (by omega) (by omega) (by decide) (ra_F fNow_fr (by decide) (ra_F hF (by decide) (rfl))) ?_
      have g6 := RG.a hR0 12 (r)
      refine tm_icmp_ge (tgt := 211) dX12_findStates_145 (by decide) ⟨by omega, by omega⟩ ⟨by omega, by omega⟩ (fun h7 => ?_) (fun h7 => ?_)
      · refine tm_iinc (q0 := 0) (L' := [(2, .int (iI (n1 + 1))), (0, .ref b), (1, .int (iI r))]) dX12_findStates_211 rfl (by decide) rfl ?_
        refine tm_goto (tgt := 120) dX12_findStates_214 (by decide) ?_
        exact tm_sub [0, 1, 2] rfl (ih _ (by omega) (n1 + 1) (fNow (n1) (11) (0) (0) (0) (0) σ) ((Fr.rfl.trans (Fr.sub hF (by decide) (by decide) (by decide))).trans (Fr.sub fNow_fr (by decide) (by decide) (by decide))) (hR.now (by omega)) (by omega) (hsc.put (by omega) (by omega)) rfl)
      · have hq := hnm n1 (by omega) (by omega)
        refine tm_aload_n dX12_findStates_148 rfl 1 rfl ?_
        refine tm_iload_n dX12_findStates_149 rfl 0 rfl ?_
        refine tm_iload_n dX12_findStates_150 rfl 0 rfl ?_
        refine tm_aload_n dX12_findStates_151 rfl 1 rfl ?_
        refine tm_get (k := 11) (v := .ref (b + 1 + 8)) lay_12 dX12_findStates_152 (by decide) fl12_35 rfl ?_
        refine tm_iload_n dX12_findStates_155 rfl 2 rfl ?_
        refine tm_iald (z := r) (v := σ0.2.1 11 r) dX12_findStates_156 (show mT[8]? = some (11, 0, 6) from rfl) (by omega) (by omega) (by decide) (ra_F fNow_fr (by decide) (ra_F hF (by decide) (rfl))) ?_
        have g8 := RG.a hR0 11 (r)
        refine tm_icmp_ge (tgt := 164) dX12_findStates_157 (by decide) ⟨by omega, by omega⟩ ⟨by omega, by omega⟩ (fun h9 => ?_) (fun h9 => ?_)
        · refine tm_iconst dX12_findStates_164 ?_
          refine tm_iload_n dX12_findStates_165 rfl 0 rfl ?_
          refine tm_aload_n dX12_findStates_166 rfl 1 rfl ?_
          refine tm_get (k := 11) (v := .ref (b + 1 + 8)) lay_12 dX12_findStates_167 (by decide) fl12_35 rfl ?_
          refine tm_iload_n dX12_findStates_170 rfl 2 rfl ?_
          refine tm_iald (z := r) (v := σ0.2.1 11 r) dX12_findStates_171 (show mT[8]? = some (11, 0, 6) from rfl) (by omega) (by omega) (by decide) (ra_F fNow_fr (by decide) (ra_F hF (by decide) (rfl))) ?_
          have g10 := RG.a hR0 11 (r)
          refine tm_icmp_ge (tgt := 179) dX12_findStates_172 (by decide) ⟨by omega, by omega⟩ ⟨by omega, by omega⟩ (fun h11 => ?_) (fun h11 => ?_)
          · refine tm_iconst dX12_findStates_179 ?_
            refine tm_iload_n dX12_findStates_180 rfl 0 rfl ?_
            refine tm_aload_n dX12_findStates_181 rfl 1 rfl ?_
            refine tm_get (k := 11) (v := .ref (b + 1 + 8)) lay_12 dX12_findStates_182 (by decide) fl12_35 rfl ?_
            refine tm_iload_n dX12_findStates_185 rfl 2 rfl ?_
            refine tm_iald (z := r) (v := σ0.2.1 11 r) dX12_findStates_186 (show mT[8]? = some (11, 0, 6) from rfl) (by omega) (by omega) (by decide) (ra_F fNow_fr (by decide) (ra_F hF (by decide) (rfl))) ?_
            have g12 := RG.a hR0 11 (r)
            refine tm_icmp_ge (tgt := 205) dX12_findStates_187 (by decide) ⟨by omega, by omega⟩ ⟨by omega, by omega⟩ (fun h13 => ?_) (fun h13 => ?_)
            · refine tm_iconst dX12_findStates_205 ?_
              refine tm_iconst dX12_findStates_206 ?_
              refine tm_iconst dX12_findStates_207 ?_
              refine tm_callV (M := m_X12_findStates) (pc := 208) (ix := 416) (M' := m_X12_setNow) (As := [.int (iI n1), .int (iI 1), .int (iI 1), .int (iI 0), .int (iI 0), .int (iI 0)]) (rest := []) dX12_findStates_208 ok_X12_setNow im_X12_setNow se_X12_setNow ml12_416 np_X12_setNow rfl rfl (Nat.le_of_ble_eq_true rfl) (Nat.le_of_ble_eq_true rfl) rfl (c_X12_setNow (d) (σ := (fNow (n1) (11) (0) (0) (0) (0) σ)) (n := n1) (w := 1) (ka := 1) (a := 0) (kb := 0) (c := 0) (by omega)) (fun r14 σ15 hp => ?_)
              obtain ⟨rfl, f17⟩ := hp
              subst f17
              show Tm _ _ 211 b (fNow (n1) (1) (1) (0) (0) (0) (fNow (n1) (11) (0) (0) (0) (0) σ)) [(2, .int (iI n1)), (0, .ref b), (1, .int (iI r))] [] _
              refine tm_iinc (q0 := 0) (L' := [(2, .int (iI (n1 + 1))), (0, .ref b), (1, .int (iI r))]) dX12_findStates_211 rfl (by decide) rfl ?_
              refine tm_goto (tgt := 120) dX12_findStates_214 (by decide) ?_
              exact tm_sub [0, 1, 2] rfl (ih _ (by omega) (n1 + 1) (fNow (n1) (1) (1) (0) (0) (0) (fNow (n1) (11) (0) (0) (0) (0) σ)) (((Fr.rfl.trans (Fr.sub hF (by decide) (by decide) (by decide))).trans (Fr.sub fNow_fr (by decide) (by decide) (by decide))).trans (Fr.sub fNow_fr (by decide) (by decide) (by decide))) ((hR.now (by omega)).now (by omega)) (by omega) (SCA.put (hsc.put (by omega) (by omega)) (by omega) (by omega)) rfl)
            · exact absurd h13 (by omega)
          · exact absurd h11 (by omega)
        · refine tm_iconst dX12_findStates_160 ?_
          refine tm_goto (tgt := 165) dX12_findStates_161 (by decide) ?_
          refine tm_iload_n dX12_findStates_165 rfl 0 rfl ?_
          refine tm_aload_n dX12_findStates_166 rfl 1 rfl ?_
          refine tm_get (k := 11) (v := .ref (b + 1 + 8)) lay_12 dX12_findStates_167 (by decide) fl12_35 rfl ?_
          refine tm_iload_n dX12_findStates_170 rfl 2 rfl ?_
          refine tm_iald (z := r) (v := σ0.2.1 11 r) dX12_findStates_171 (show mT[8]? = some (11, 0, 6) from rfl) (by omega) (by omega) (by decide) (ra_F fNow_fr (by decide) (ra_F hF (by decide) (rfl))) ?_
          have g18 := RG.a hR0 11 (r)
          refine tm_icmp_ge (tgt := 179) dX12_findStates_172 (by decide) ⟨by omega, by omega⟩ ⟨by omega, by omega⟩ (fun h19 => ?_) (fun h19 => ?_)
          · exact absurd h19 (by omega)
          · refine tm_iconst dX12_findStates_175 ?_
            refine tm_goto (tgt := 180) dX12_findStates_176 (by decide) ?_
            refine tm_iload_n dX12_findStates_180 rfl 0 rfl ?_
            refine tm_aload_n dX12_findStates_181 rfl 1 rfl ?_
            refine tm_get (k := 11) (v := .ref (b + 1 + 8)) lay_12 dX12_findStates_182 (by decide) fl12_35 rfl ?_
            refine tm_iload_n dX12_findStates_185 rfl 2 rfl ?_
            refine tm_iald (z := r) (v := σ0.2.1 11 r) dX12_findStates_186 (show mT[8]? = some (11, 0, 6) from rfl) (by omega) (by omega) (by decide) (ra_F fNow_fr (by decide) (ra_F hF (by decide) (rfl))) ?_
            have g20 := RG.a hR0 11 (r)
            refine tm_icmp_ge (tgt := 205) dX12_findStates_187 (by decide) ⟨by omega, by omega⟩ ⟨by omega, by omega⟩ (fun h21 => ?_) (fun h21 => ?_)
            · exact absurd h21 (by omega)
            · refine tm_aload_n dX12_findStates_190 rfl 1 rfl ?_
              refine tm_get (k := 18) (v := .ref (b + 1 + 15)) lay_12 dX12_findStates_191 (by decide) fl12_56 rfl ?_
              refine tm_sipush dX12_findStates_194 (by decide) ?_
              refine tm_iload_n dX12_findStates_197 rfl 2 rfl ?_
              refine tm_imul dX12_findStates_198 ?_
              refine tm_iload_n dX12_findStates_199 rfl 0 rfl ?_
              refine tm_iadd dX12_findStates_200 ?_
              refine tm_iald (z := (144 * r) + n1) (v := σ0.2.1 18 ((144 * r) + n1)) dX12_findStates_201 (show mT[15]? = some (18, 0, 864) from rfl) (by omega) (by omega) (by decide) (ra_F fNow_fr (by decide) (ra_F hF (by decide) (rfl))) ?_
              have g22 := RG.a hR0 18 ((144 * r) + n1)
              refine tm_goto (tgt := 206) dX12_findStates_202 (by decide) ?_
              refine tm_iconst dX12_findStates_206 ?_
              refine tm_iconst dX12_findStates_207 ?_
              refine tm_callV (M := m_X12_findStates) (pc := 208) (ix := 416) (M' := m_X12_setNow) (As := [.int (iI n1), .int (iI 2), .int (iI 2), .int (iI (σ0.2.1 18 ((144 * r) + n1))), .int (iI 0), .int (iI 0)]) (rest := []) dX12_findStates_208 ok_X12_setNow im_X12_setNow se_X12_setNow ml12_416 np_X12_setNow rfl rfl (Nat.le_of_ble_eq_true rfl) (Nat.le_of_ble_eq_true rfl) rfl (c_X12_setNow (d) (σ := (fNow (n1) (11) (0) (0) (0) (0) σ)) (n := n1) (w := 2) (ka := 2) (a := σ0.2.1 18 ((144 * r) + n1)) (kb := 0) (c := 0) (by omega)) (fun r23 σ24 hp => ?_)
              obtain ⟨rfl, f26⟩ := hp
              subst f26
              show Tm _ _ 211 b (fNow (n1) (2) (2) (σ0.2.1 18 ((144 * r) + n1)) (0) (0) (fNow (n1) (11) (0) (0) (0) (0) σ)) [(2, .int (iI n1)), (0, .ref b), (1, .int (iI r))] [] _
              refine tm_iinc (q0 := 0) (L' := [(2, .int (iI (n1 + 1))), (0, .ref b), (1, .int (iI r))]) dX12_findStates_211 rfl (by decide) rfl ?_
              refine tm_goto (tgt := 120) dX12_findStates_214 (by decide) ?_
              exact tm_sub [0, 1, 2] rfl (ih _ (by omega) (n1 + 1) (fNow (n1) (2) (2) (σ0.2.1 18 ((144 * r) + n1)) (0) (0) (fNow (n1) (11) (0) (0) (0) (0) σ)) (((Fr.rfl.trans (Fr.sub hF (by decide) (by decide) (by decide))).trans (Fr.sub fNow_fr (by decide) (by decide) (by decide))).trans (Fr.sub fNow_fr (by decide) (by decide) (by decide))) ((hR.now (by omega)).now (by omega)) (by omega) (SCA.put (hsc.put (by omega) (by omega)) (by omega) (by omega)) rfl)
theorem ml12_423 : Cond.methodLink RX12 423 yX12_comes ∈ pWW := pw9 (List.mem_of_getElem? (i := 86) rfl) rfl
theorem dX12_findStates_263 : decode cX12_findStates 263 = .ok (.iload 4, 2) := by decide +kernel
theorem dX12_findStates_265 : decode cX12_findStates 265 = .ok (.iconst 2, 1) := by decide +kernel
theorem dX12_findStates_266 : decode cX12_findStates 266 = .ok (.if_icmp .ge 43, 3) := by decide +kernel
theorem dX12_findStates_269 : decode cX12_findStates 269 = .ok (.aload_n 0, 1) := by decide +kernel
theorem dX12_findStates_270 : decode cX12_findStates 270 = .ok (.iload_n 1, 1) := by decide +kernel
theorem dX12_findStates_271 : decode cX12_findStates 271 = .ok (.iload_n 3, 1) := by decide +kernel
theorem dX12_findStates_272 : decode cX12_findStates 272 = .ok (.iload 4, 2) := by decide +kernel
theorem dX12_findStates_274 : decode cX12_findStates 274 = .ok (.invokevirtual 413, 3) := by decide +kernel
theorem dX12_findStates_277 : decode cX12_findStates 277 = .ok (.istore 5, 2) := by decide +kernel
theorem dX12_findStates_279 : decode cX12_findStates 279 = .ok (.iload_n 2, 1) := by decide +kernel
theorem dX12_findStates_280 : decode cX12_findStates 280 = .ok (.iload 5, 2) := by decide +kernel
theorem dX12_findStates_282 : decode cX12_findStates 282 = .ok (.iconst (-1), 1) := by decide +kernel
theorem dX12_findStates_283 : decode cX12_findStates 283 = .ok (.if_icmp .eq 17, 3) := by decide +kernel
theorem dX12_findStates_300 : decode cX12_findStates 300 = .ok (.iconst 0, 1) := by decide +kernel
theorem dX12_findStates_301 : decode cX12_findStates 301 = .ok (.ior, 1) := by decide +kernel
theorem dX12_findStates_302 : decode cX12_findStates 302 = .ok (.istore_n 2, 1) := by decide +kernel
theorem dX12_findStates_303 : decode cX12_findStates 303 = .ok (.iinc 4 1, 3) := by decide +kernel
theorem dX12_findStates_306 : decode cX12_findStates 306 = .ok (.goto (-43), 3) := by decide +kernel
theorem dX12_findStates_286 : decode cX12_findStates 286 = .ok (.aload_n 0, 1) := by decide +kernel
theorem dX12_findStates_287 : decode cX12_findStates 287 = .ok (.iload_n 1, 1) := by decide +kernel
theorem dX12_findStates_288 : decode cX12_findStates 288 = .ok (.iload 5, 2) := by decide +kernel
theorem dX12_findStates_290 : decode cX12_findStates 290 = .ok (.invokevirtual 423, 3) := by decide +kernel
theorem dX12_findStates_293 : decode cX12_findStates 293 = .ok (.ifCond .eq 7, 3) := by decide +kernel
theorem dX12_findStates_296 : decode cX12_findStates 296 = .ok (.iconst 1, 1) := by decide +kernel
theorem dX12_findStates_297 : decode cX12_findStates 297 = .ok (.goto 4, 3) := by decide +kernel
set_option maxHeartbeats 2000000 in
set_option maxRecDepth 20000 in
theorem l_states6 (d : Nat) {b : Nat} {σ0 : MS} {r : Int} {F : Int} {m : Int} {k : Int} {C0 : Int} {post : Option Value → MS → Prop} (hr : 0 ≤ r ∧ r < 6) (hR0 : RG σ0) (hit : ITM σ0) (hpar : PAR σ0) (hok : OKS σ0 F r) (hF12 : 1 ≤ F ∧ F ≤ 12) (htg : TGT σ0 r) (hm : m = σ0.2.1 9 r) (hk : 0 ≤ k ∧ k < m) (hx_309 : ∀ (w : Int) (i : Int) (σ : MS) , (Fr [] [47, 49, 50, 51, 52, 53] [] σ0 σ) → (RG σ) → (w = 0 ∨ w = 1) → (BO 47 σ) → (SSA σ) → (SCA σ) → (UNR σ r m) → ((cz (σ.2.1 47) 221 : Int) + (cw (σ.2.1 49) (31824 * r) 31824 : Int) + w ≤ C0) → Tm (d + 4) m_X12_findStates 309 b σ [(4, .int (iI i)), (3, .int (iI k)), (2, .int (iI w)), (0, .ref b), (1, .int (iI r))] [] post) : ∀ (n : Nat) (w : Int) (i : Int) (σ : MS) , (Fr [] [47, 49, 50, 51, 52, 53] [] σ0 σ) → (RG σ) → ((w = 0 ∨ w = 1) ∧ 0 ≤ i ∧ i ≤ 2) → (BO 47 σ) → (SSA σ) → (SCA σ) → (UNR σ r m) → ((cz (σ.2.1 47) 221 : Int) + (cw (σ.2.1 49) (31824 * r) 31824 : Int) + w ≤ C0) → (2 - i).toNat = n → Tm (d + 4) m_X12_findStates 263 b σ [(4, .int (iI i)), (3, .int (iI k)), (2, .int (iI w)), (0, .ref b), (1, .int (iI r))] [] post := by
  intro n
  induction n using Nat.strongRecOn with
  | _ n ih =>
    intro w i σ hF hR h0 hbo hss hsc hun hcn hm
    have hit1 := hit.fr hF (by decide)
    have hpar1 := hpar.fr hF (by decide)
    have hok1 := hok.fr hF (by decide)
    have htg1 := htg.fr hF (by decide)
    have q1 := hit r (by omega) (by omega)
    have q9 : σ.2.1 9 r = σ0.2.1 9 r := by rw [hF.2.1 9 (by decide)]
    have q5 := htg1 k (by omega) (by omega)
    refine tm_iload dX12_findStates_263 0 rfl ?_
    refine tm_iconst dX12_findStates_265 ?_
    refine tm_icmp_ge (tgt := 309) dX12_findStates_266 (by decide) ⟨by omega, by omega⟩ ⟨by decide, by decide⟩ (fun h1 => ?_) (fun h1 => ?_)
    · exact tm_sub [0, 1, 2, 3, 4] rfl (hx_309 (w) (i) σ (Fr.rfl.trans (Fr.sub hF (by decide) (by decide) (by decide))) hR (by omega) hbo hss hsc hun hcn)
    · refine tm_aload_n dX12_findStates_269 rfl 3 rfl ?_
      refine tm_iload_n dX12_findStates_270 rfl 4 rfl ?_
      refine tm_iload_n dX12_findStates_271 rfl 1 rfl ?_
      refine tm_iload dX12_findStates_272 0 rfl ?_
      refine tm_callV (M := m_X12_findStates) (pc := 274) (ix := 413) (M' := m_X12_goesOn) (As := [.int (iI r), .int (iI k), .int (iI i)]) (rest := []) dX12_findStates_274 ok_X12_goesOn im_X12_goesOn se_X12_goesOn ml12_413 np_X12_goesOn rfl rfl (Nat.le_of_ble_eq_true rfl) (Nat.le_of_ble_eq_true rfl) rfl (c_X12_goesOn (d + 1) (σ := σ) (r := r) (k := k) (how := i) (by omega) hR (by omega) (fun q => hok1.jmp _ (by omega) (by omega) (by omega)) (by omega)) (fun r2 σ3 hp => ?_)
      obtain ⟨v4, rfl, rfl, f5, f6, f7, f8⟩ := hp
      show Tm _ _ 277 b σ [(4, .int (iI i)), (3, .int (iI k)), (2, .int (iI w)), (0, .ref b), (1, .int (iI r))] [.int (iI v4)] _
      refine tm_istore (L' := [(5, .int (iI v4)), (4, .int (iI i)), (3, .int (iI k)), (2, .int (iI w)), (0, .ref b), (1, .int (iI r))]) dX12_findStates_277 (by decide) rfl ?_
      refine tm_iload_n dX12_findStates_279 rfl 3 rfl ?_
      refine tm_iload dX12_findStates_280 0 rfl ?_
      refine tm_iconst dX12_findStates_282 ?_
      refine tm_icmp_eq (tgt := 300) dX12_findStates_283 (by decide) ⟨by omega, by omega⟩ ⟨by decide, by decide⟩ (fun h9 => ?_) (fun h9 => ?_)
      · refine tm_iconst dX12_findStates_300 ?_
        refine tm_iorZ (x := w) (y := 0) dX12_findStates_301 (by omega) (by omega) (fun c10 g11 => ?_)
        refine tm_istore_n (L' := [(2, .int (iI c10)), (5, .int (iI v4)), (4, .int (iI i)), (3, .int (iI k)), (0, .ref b), (1, .int (iI r))]) dX12_findStates_302 rfl (by decide) rfl ?_
        refine tm_iinc (q0 := 2) (L' := [(4, .int (iI (i + 1))), (2, .int (iI c10)), (5, .int (iI v4)), (3, .int (iI k)), (0, .ref b), (1, .int (iI r))]) dX12_findStates_303 rfl (by decide) rfl ?_
        refine tm_goto (tgt := 263) dX12_findStates_306 (by decide) ?_
        exact tm_sub [0, 3, 1, 4, 5] rfl (ih _ (by omega) (c10) (i + 1) σ (Fr.rfl.trans (Fr.sub hF (by decide) (by decide) (by decide))) hR (by omega) (by assumption) (by assumption) (by first | exact hsc | exact hsc.fr (by assumption) (by decide)) (by assumption) (by omega) rfl)
      · refine tm_aload_n dX12_findStates_286 rfl 4 rfl ?_
        refine tm_iload_n dX12_findStates_287 rfl 5 rfl ?_
        refine tm_iload dX12_findStates_288 0 rfl ?_
        refine tm_callV (M := m_X12_findStates) (pc := 290) (ix := 423) (M' := m_X12_comes) (As := [.int (iI r), .int (iI v4)]) (rest := [.int (iI w)]) dX12_findStates_290 ok_X12_comes im_X12_comes se_X12_comes ml12_423 np_X12_comes rfl rfl (Nat.le_of_ble_eq_true rfl) (Nat.le_of_ble_eq_true rfl) rfl (c_X12_comes (d + 2) (σ := σ) (r := r) (to := v4) (m := m) (by omega) hR hbo hsc hss (by omega) hun) (fun r12 σ13 hp => ?_)
        obtain ⟨v14, rfl, f15, f16, f17, f18, f19, f20, f21, f22, f23⟩ := hp
        show Tm _ _ 293 b σ13 [(5, .int (iI v4)), (4, .int (iI i)), (3, .int (iI k)), (2, .int (iI w)), (0, .ref b), (1, .int (iI r))] [.int (iI v14), .int (iI w)] _
        refine tm_if_eq (tgt := 300) dX12_findStates_293 (by decide) ⟨by omega, by omega⟩ (fun h24 => ?_) (fun h24 => ?_)
        · refine tm_iconst dX12_findStates_300 ?_
          refine tm_iorZ (x := w) (y := 0) dX12_findStates_301 (by omega) (by omega) (fun c25 g26 => ?_)
          refine tm_istore_n (L' := [(2, .int (iI c25)), (5, .int (iI v4)), (4, .int (iI i)), (3, .int (iI k)), (0, .ref b), (1, .int (iI r))]) dX12_findStates_302 rfl (by decide) rfl ?_
          refine tm_iinc (q0 := 2) (L' := [(4, .int (iI (i + 1))), (2, .int (iI c25)), (5, .int (iI v4)), (3, .int (iI k)), (0, .ref b), (1, .int (iI r))]) dX12_findStates_303 rfl (by decide) rfl ?_
          refine tm_goto (tgt := 263) dX12_findStates_306 (by decide) ?_
          exact tm_sub [0, 3, 1, 4, 5] rfl (ih _ (by omega) (c25) (i + 1) σ13 ((Fr.rfl.trans (Fr.sub hF (by decide) (by decide) (by decide))).trans (Fr.sub f16 (by decide) (by decide) (by decide))) f17 (by omega) (by assumption) (by assumption) (by first | exact hsc | exact hsc.fr (by assumption) (by decide)) (by assumption) (by omega) rfl)
        · refine tm_iconst dX12_findStates_296 ?_
          refine tm_goto (tgt := 301) dX12_findStates_297 (by decide) ?_
          refine tm_iorZ (x := w) (y := 1) dX12_findStates_301 (by omega) (by omega) (fun c27 g28 => ?_)
          refine tm_istore_n (L' := [(2, .int (iI c27)), (5, .int (iI v4)), (4, .int (iI i)), (3, .int (iI k)), (0, .ref b), (1, .int (iI r))]) dX12_findStates_302 rfl (by decide) rfl ?_
          refine tm_iinc (q0 := 2) (L' := [(4, .int (iI (i + 1))), (2, .int (iI c27)), (5, .int (iI v4)), (3, .int (iI k)), (0, .ref b), (1, .int (iI r))]) dX12_findStates_303 rfl (by decide) rfl ?_
          refine tm_goto (tgt := 263) dX12_findStates_306 (by decide) ?_
          exact tm_sub [0, 3, 1, 4, 5] rfl (ih _ (by omega) (c27) (i + 1) σ13 ((Fr.rfl.trans (Fr.sub hF (by decide) (by decide) (by decide))).trans (Fr.sub f16 (by decide) (by decide) (by decide))) f17 (by omega) (by assumption) (by assumption) (by first | exact hsc | exact hsc.fr (by assumption) (by decide)) (by assumption) (by omega) rfl)
theorem ml12_427 : Cond.methodLink RX12 427 yX12_behindItem ∈ pWW := pw9 (List.mem_of_getElem? (i := 90) rfl) rfl
theorem dX12_findStates_232 : decode cX12_findStates 232 = .ok (.iload_n 3, 1) := by decide +kernel
theorem dX12_findStates_233 : decode cX12_findStates 233 = .ok (.aload_n 0, 1) := by decide +kernel
theorem dX12_findStates_234 : decode cX12_findStates 234 = .ok (.getfield 32, 3) := by decide +kernel
theorem dX12_findStates_237 : decode cX12_findStates 237 = .ok (.iload_n 1, 1) := by decide +kernel
theorem dX12_findStates_238 : decode cX12_findStates 238 = .ok (.iaload, 1) := by decide +kernel
theorem dX12_findStates_239 : decode cX12_findStates 239 = .ok (.if_icmp .ge 76, 3) := by decide +kernel
theorem dX12_findStates_242 : decode cX12_findStates 242 = .ok (.aload_n 0, 1) := by decide +kernel
theorem dX12_findStates_243 : decode cX12_findStates 243 = .ok (.getfield 91, 3) := by decide +kernel
theorem dX12_findStates_246 : decode cX12_findStates 246 = .ok (.iload_n 3, 1) := by decide +kernel
theorem dX12_findStates_247 : decode cX12_findStates 247 = .ok (.baload, 1) := by decide +kernel
theorem dX12_findStates_248 : decode cX12_findStates 248 = .ok (.ifCond .ne 6, 3) := by decide +kernel
theorem dX12_findStates_254 : decode cX12_findStates 254 = .ok (.aload_n 0, 1) := by decide +kernel
theorem dX12_findStates_255 : decode cX12_findStates 255 = .ok (.iload_n 1, 1) := by decide +kernel
theorem dX12_findStates_256 : decode cX12_findStates 256 = .ok (.iload_n 3, 1) := by decide +kernel
theorem dX12_findStates_257 : decode cX12_findStates 257 = .ok (.invokevirtual 427, 3) := by decide +kernel
theorem dX12_findStates_260 : decode cX12_findStates 260 = .ok (.iconst 0, 1) := by decide +kernel
theorem dX12_findStates_261 : decode cX12_findStates 261 = .ok (.istore 4, 2) := by decide +kernel
theorem dX12_findStates_309 : decode cX12_findStates 309 = .ok (.iinc 3 1, 3) := by decide +kernel
theorem dX12_findStates_312 : decode cX12_findStates 312 = .ok (.goto (-80), 3) := by decide +kernel
theorem dX12_findStates_251 : decode cX12_findStates 251 = .ok (.goto 58, 3) := by decide +kernel
set_option maxHeartbeats 2000000 in
set_option maxRecDepth 20000 in
theorem l_states5 (d : Nat) {b : Nat} {σ0 : MS} {r : Int} {F : Int} {m : Int} {C0 : Int} {post : Option Value → MS → Prop} (hr : 0 ≤ r ∧ r < 6) (hR0 : RG σ0) (hit : ITM σ0) (hpar : PAR σ0) (hok : OKS σ0 F r) (hF12 : 1 ≤ F ∧ F ≤ 12) (htg : TGT σ0 r) (hm : m = σ0.2.1 9 r) (hx_315 : ∀ (w : Int) (k : Int) (σ : MS) , (Fr [] [47, 49, 50, 51, 52, 53, 54, 55, 56, 57, 58] [] σ0 σ) → (RG σ) → (w = 0 ∨ w = 1) → (BO 47 σ) → (SSA σ) → (SCA σ) → (UNR σ r m) → ((cz (σ.2.1 47) 221 : Int) + (cw (σ.2.1 49) (31824 * r) 31824 : Int) + w ≤ C0) → Tm (d + 5) m_X12_findStates 315 b σ [(3, .int (iI k)), (2, .int (iI w)), (0, .ref b), (1, .int (iI r))] [] post) : ∀ (n : Nat) (w : Int) (k : Int) (σ : MS) , (Fr [] [47, 49, 50, 51, 52, 53, 54, 55, 56, 57, 58] [] σ0 σ) → (RG σ) → ((w = 0 ∨ w = 1) ∧ 0 ≤ k ∧ k ≤ m) → (BO 47 σ) → (SSA σ) → (SCA σ) → (UNR σ r m) → ((cz (σ.2.1 47) 221 : Int) + (cw (σ.2.1 49) (31824 * r) 31824 : Int) + w ≤ C0) → (m - k).toNat = n → Tm (d + 5) m_X12_findStates 232 b σ [(3, .int (iI k)), (2, .int (iI w)), (0, .ref b), (1, .int (iI r))] [] post := by
  intro n
  induction n using Nat.strongRecOn with
  | _ n ih =>
    intro w k σ hF hR h0 hbo hss hsc hun hcn hm
    have hit1 := hit.fr hF (by decide)
    have hpar1 := hpar.fr hF (by decide)
    have hok1 := hok.fr hF (by decide)
    have htg1 := htg.fr hF (by decide)
    have q1 := hit r (by omega) (by omega)
    have q9 : σ.2.1 9 r = σ0.2.1 9 r := by rw [hF.2.1 9 (by decide)]
    refine tm_iload_n dX12_findStates_232 rfl 0 rfl ?_
    refine tm_aload_n dX12_findStates_233 rfl 2 rfl ?_
    refine tm_get (k := 9) (v := .ref (b + 1 + 7)) lay_12 dX12_findStates_234 (by decide) fl12_32 rfl ?_
    refine tm_iload_n dX12_findStates_237 rfl 3 rfl ?_
    refine tm_iald (z := r) (v := σ0.2.1 9 r) dX12_findStates_238 (show mT[7]? = some (9, 0, 13) from rfl) (by omega) (by omega) (by decide) (ra_F hF (by decide) (rfl)) ?_
    have g1 := RG.a hR0 9 (r)
    refine tm_icmp_ge (tgt := 315) dX12_findStates_239 (by decide) ⟨by omega, by omega⟩ ⟨by omega, by omega⟩ (fun h2 => ?_) (fun h2 => ?_)
    · exact tm_sub [0, 1, 2, 3] rfl (hx_315 (w) (k) σ (Fr.rfl.trans (Fr.sub hF (by decide) (by decide) (by decide))) hR (by omega) hbo hss hsc hun hcn)
    · refine tm_aload_n dX12_findStates_242 rfl 2 rfl ?_
      refine tm_get (k := 47) (v := .ref (b + 1 + 25)) lay_12 dX12_findStates_243 (by decide) fl12_91 rfl ?_
      refine tm_iload_n dX12_findStates_246 rfl 0 rfl ?_
      refine tm_zald (z := k) (v := σ.2.1 47 k) dX12_findStates_247 (show mT[25]? = some (47, 2, 221) from rfl) (by omega) (by omega) (by decide) (rfl) ?_
      have g3 := RG.a hR 47 (k)
      have := hbo (k)
      refine tm_if_ne (tgt := 254) dX12_findStates_248 (by decide) ⟨by omega, by omega⟩ (fun h4 => ?_) (fun h4 => ?_)
      · refine tm_aload_n dX12_findStates_254 rfl 2 rfl ?_
        refine tm_iload_n dX12_findStates_255 rfl 3 rfl ?_
        refine tm_iload_n dX12_findStates_256 rfl 0 rfl ?_
        refine tm_callV (M := m_X12_findStates) (pc := 257) (ix := 427) (M' := m_X12_behindItem) (As := [.int (iI r), .int (iI k)]) (rest := []) dX12_findStates_257 ok_X12_behindItem im_X12_behindItem se_X12_behindItem ml12_427 np_X12_behindItem rfl rfl (Nat.le_of_ble_eq_true rfl) (Nat.le_of_ble_eq_true rfl) rfl (c_X12_behindItem (d) (σ := σ) (r := r) (k := k) (F := F) (by omega) hR hit1 hpar1 hok1 hF12 hss hsc (by omega)) (fun r5 σ6 hp => ?_)
        obtain ⟨rfl, f8, f9, f10⟩ := hp
        show Tm _ _ 260 b σ6 [(3, .int (iI k)), (2, .int (iI w)), (0, .ref b), (1, .int (iI r))] [] _
        refine tm_iconst dX12_findStates_260 ?_
        refine tm_istore (L' := [(4, .int (iI 0)), (3, .int (iI k)), (2, .int (iI w)), (0, .ref b), (1, .int (iI r))]) dX12_findStates_261 (by decide) rfl ?_
        refine tm_sub [0, 1, 2, 3, 4] rfl (l_states6 (d + 1) (σ0 := σ6) (r := r) (k := k) (F := F) (m := m) (C0 := C0) hr f9 (hit1.fr f8 (by decide)) (hpar1.fr f8 (by decide)) (hok1.fr f8 (by decide)) hF12 (htg1.fr f8 (by decide)) (by rw [(f8).2.1 9 (by decide)]; omega) (by omega) (fun w22 i23 σ24 F14 R15 f16 f17 f18 f19 f20 f21 => ?_) _ (w) (0) σ6 Fr.rfl f9 (by omega) (hbo.fr f8 (by decide)) (hss.fr f8 (by decide)) (by assumption) (by unfold UNR; rw [(f8).2.1 47 (by decide), (f8).2.1 49 (by decide)]; exact hun) (by rw [(f8).2.1 47 (by decide), (f8).2.1 49 (by decide)]; omega) rfl)
        show Tm _ _ 309 b σ24 [(4, .int (iI i23)), (3, .int (iI k)), (2, .int (iI w22)), (0, .ref b), (1, .int (iI r))] [] _
        refine tm_iinc (q0 := 1) (L' := [(3, .int (iI (k + 1))), (4, .int (iI i23)), (2, .int (iI w22)), (0, .ref b), (1, .int (iI r))]) dX12_findStates_309 rfl (by decide) rfl ?_
        refine tm_goto (tgt := 232) dX12_findStates_312 (by decide) ?_
        exact tm_sub [0, 2, 3, 4] rfl (ih _ (by omega) (w22) (k + 1) σ24 (((Fr.rfl.trans (Fr.sub hF (by decide) (by decide) (by decide))).trans (Fr.sub f8 (by decide) (by decide) (by decide))).trans (Fr.sub F14 (by decide) (by decide) (by decide))) R15 (by omega) (by assumption) (by assumption) (by assumption) (by assumption) (by omega) rfl)
      · refine tm_goto (tgt := 309) dX12_findStates_251 (by decide) ?_
        refine tm_iinc (q0 := 0) (L' := [(3, .int (iI (k + 1))), (2, .int (iI w)), (0, .ref b), (1, .int (iI r))]) dX12_findStates_309 rfl (by decide) rfl ?_
        refine tm_goto (tgt := 232) dX12_findStates_312 (by decide) ?_
        exact tm_sub [0, 1, 2, 3] rfl (ih _ (by omega) (w) (k + 1) σ (Fr.rfl.trans (Fr.sub hF (by decide) (by decide) (by decide))) hR (by omega) (by assumption) (by assumption) (by assumption) (by assumption) (by omega) rfl)
theorem dX12_findStates_224 : decode cX12_findStates 224 = .ok (.iload_n 2, 1) := by decide +kernel
theorem dX12_findStates_225 : decode cX12_findStates 225 = .ok (.ifCond .eq 93, 3) := by decide +kernel
theorem dX12_findStates_228 : decode cX12_findStates 228 = .ok (.iconst 0, 1) := by decide +kernel
theorem dX12_findStates_229 : decode cX12_findStates 229 = .ok (.istore_n 2, 1) := by decide +kernel
theorem dX12_findStates_230 : decode cX12_findStates 230 = .ok (.iconst 0, 1) := by decide +kernel
theorem dX12_findStates_231 : decode cX12_findStates 231 = .ok (.istore_n 3, 1) := by decide +kernel
theorem dX12_findStates_315 : decode cX12_findStates 315 = .ok (.goto (-91), 3) := by decide +kernel
set_option maxHeartbeats 2000000 in
set_option maxRecDepth 20000 in
theorem l_states4 (d : Nat) {b : Nat} {σ0 : MS} {r : Int} {F : Int} {m : Int} {post : Option Value → MS → Prop} (hr : 0 ≤ r ∧ r < 6) (hR0 : RG σ0) (hit : ITM σ0) (hpar : PAR σ0) (hok : OKS σ0 F r) (hF12 : 1 ≤ F ∧ F ≤ 12) (htg : TGT σ0 r) (hm : m = σ0.2.1 9 r) (hx_318 : ∀ (w : Int) (σ : MS) , (Fr [] [47, 49, 50, 51, 52, 53, 54, 55, 56, 57, 58] [] σ0 σ) → (RG σ) → (BO 47 σ) → (SSA σ) → (SCA σ) → Tm (d + 5) m_X12_findStates 318 b σ [(2, .int (iI w)), (0, .ref b), (1, .int (iI r))] [] post) : ∀ (n : Nat) (w : Int) (σ : MS) , (Fr [] [47, 49, 50, 51, 52, 53, 54, 55, 56, 57, 58] [] σ0 σ) → (RG σ) → (w = 0 ∨ w = 1) → (BO 47 σ) → (SSA σ) → (SCA σ) → (UNR σ r m) → ((cz (σ.2.1 47) 221 : Int) + (cw (σ.2.1 49) (31824 * r) 31824 : Int) + w).toNat = n → Tm (d + 5) m_X12_findStates 224 b σ [(2, .int (iI w)), (0, .ref b), (1, .int (iI r))] [] post := by
  intro n
  induction n using Nat.strongRecOn with
  | _ n ih =>
    intro w σ hF hR h0 hbo hss hsc hun hm
    have hit1 := hit.fr hF (by decide)
    have hpar1 := hpar.fr hF (by decide)
    have hok1 := hok.fr hF (by decide)
    have htg1 := htg.fr hF (by decide)
    have q1 := hit r (by omega) (by omega)
    have q9 : σ.2.1 9 r = σ0.2.1 9 r := by rw [hF.2.1 9 (by decide)]
    refine tm_iload_n dX12_findStates_224 rfl 0 rfl ?_
    refine tm_if_eq (tgt := 318) dX12_findStates_225 (by decide) ⟨by omega, by omega⟩ (fun h1 => ?_) (fun h1 => ?_)
    · exact tm_sub [0, 1, 2] rfl (hx_318 (w) σ (Fr.rfl.trans (Fr.sub hF (by decide) (by decide) (by decide))) hR hbo hss hsc)
    · refine tm_iconst dX12_findStates_228 ?_
      refine tm_istore_n (L' := [(2, .int (iI 0)), (0, .ref b), (1, .int (iI r))]) dX12_findStates_229 rfl (by decide) rfl ?_
      refine tm_iconst dX12_findStates_230 ?_
      refine tm_istore_n (L' := [(3, .int (iI 0)), (2, .int (iI 0)), (0, .ref b), (1, .int (iI r))]) dX12_findStates_231 rfl (by decide) rfl ?_
      refine tm_sub [0, 1, 2, 3] rfl (l_states5 (d) (σ0 := σ) (r := r) (F := F) (m := m) (C0 := ((cz (σ.2.1 47) 221 : Int) + (cw (σ.2.1 49) (31824 * r) 31824 : Int))) hr hR hit1 hpar1 hok1 hF12 htg1 (by omega) (fun w13 k14 σ15 F5 R6 f7 f8 f9 f10 f11 f12 => ?_) _ (0) (0) σ Fr.rfl hR (by omega) hbo hss hsc hun (by omega) rfl)
      show Tm _ _ 315 b σ15 [(3, .int (iI k14)), (2, .int (iI w13)), (0, .ref b), (1, .int (iI r))] [] _
      refine tm_goto (tgt := 224) dX12_findStates_315 (by decide) ?_
      exact tm_sub [1, 2, 3] rfl (ih _ (by omega) (w13) σ15 ((Fr.rfl.trans (Fr.sub hF (by decide) (by decide) (by decide))).trans (Fr.sub F5 (by decide) (by decide) (by decide))) R6 (by omega) (by assumption) (by assumption) (by assumption) (by assumption) rfl)
