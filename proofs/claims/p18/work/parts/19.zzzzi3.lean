section
set_option maxHeartbeats 2000000 in
set_option maxRecDepth 20000 in
theorem g_prints (d : Nat) {b : Nat} {σ : MS} {W0 : Int} {post : Option Value → MS → Prop} (hR : RG σ) (hW : (W0 = 1 ∧ σ.2.1 76 1 = σ.2.1 76 2) ∨ (W0 = 0 ∧ σ.2.1 76 1 ≠ σ.2.1 76 2)) (hx_79 : ∀ (w : Int) (i : Int) , (w = 0 ∨ w = 1) → (PAQ σ w) → Tm (d + 1) m_X12_arePrintsAlike 79 b σ [(2, .int (iI i)), (1, .int (iI w)), (0, .ref b)] [] post) : ∀ (n : Nat) (w : Int) (i : Int) , ((w = 0 ∨ w = 1) ∧ 0 ≤ i ∧ i ≤ 200) → (PA9 σ W0 i w) → (200 - i).toNat = n → Tm (d + 1) m_X12_arePrintsAlike 23 b σ [(2, .int (iI i)), (1, .int (iI w)), (0, .ref b)] [] post := by
  intro n
  induction n using Nat.strongRecOn with
  | _ n ih =>
    intro w i h0 hp hm
    refine tm_iload_n dX12_arePrintsAlike_23 rfl 0 rfl ?_
    refine tm_sipush dX12_arePrintsAlike_24 (by decide) ?_
    refine tm_icmp_ge (tgt := 79) dX12_arePrintsAlike_27 (by decide) ⟨by omega, by omega⟩ ⟨by decide, by decide⟩ (fun h1 => ?_) (fun h1 => ?_)
    · exact tm_sub [0, 1, 2] rfl (hx_79 (w) (i) (by omega) (hp.x (by omega) hW))
    · refine tm_iload_n dX12_arePrintsAlike_30 rfl 0 rfl ?_
      refine tm_aload_n dX12_arePrintsAlike_31 rfl 2 rfl ?_
      refine tm_get (k := 76) (v := .ref (b + 1 + 47)) lay_12 dX12_arePrintsAlike_32 (by decide) fl12_161 rfl ?_
      refine tm_iconst dX12_arePrintsAlike_35 ?_
      refine tm_iald (z := 1) (v := σ.2.1 76 1) dX12_arePrintsAlike_36 (show mT[47]? = some (76, 0, 3) from rfl) (by omega) (by omega) (by decide) (rfl) ?_
      have g2 := RG.a hR 76 (1)
      refine tm_icmp_ge (tgt := 79) dX12_arePrintsAlike_37 (by decide) ⟨by omega, by omega⟩ ⟨by omega, by omega⟩ (fun h3 => ?_) (fun h3 => ?_)
      · exact tm_sub [0, 1, 2] rfl (hx_79 (w) (i) (by omega) (hp.x (by omega) hW))
      · refine tm_iload_n dX12_arePrintsAlike_40 rfl 1 rfl ?_
        refine tm_if_eq (tgt := 79) dX12_arePrintsAlike_41 (by decide) ⟨by omega, by omega⟩ (fun h4 => ?_) (fun h4 => ?_)
        · exact tm_sub [0, 1, 2] rfl (hx_79 (w) (i) (by omega) (hp.x (by omega) hW))
        · refine tm_aload_n dX12_arePrintsAlike_44 rfl 2 rfl ?_
          refine tm_get (k := 77) (v := .ref (b + 1 + 48)) lay_12 dX12_arePrintsAlike_45 (by decide) fl12_164 rfl ?_
          refine tm_sipush dX12_arePrintsAlike_48 (by decide) ?_
          refine tm_iload_n dX12_arePrintsAlike_51 rfl 0 rfl ?_
          refine tm_iadd dX12_arePrintsAlike_52 ?_
          refine tm_iald (z := 200 + i) (v := σ.2.1 77 (200 + i)) dX12_arePrintsAlike_53 (show mT[48]? = some (77, 0, 600) from rfl) (by omega) (by omega) (by decide) (rfl) ?_
          have g5 := RG.a hR 77 (200 + i)
          refine tm_aload_n dX12_arePrintsAlike_54 rfl 2 rfl ?_
          refine tm_get (k := 77) (v := .ref (b + 1 + 48)) lay_12 dX12_arePrintsAlike_55 (by decide) fl12_164 rfl ?_
          refine tm_sipush dX12_arePrintsAlike_58 (by decide) ?_
          refine tm_iload_n dX12_arePrintsAlike_61 rfl 0 rfl ?_
          refine tm_iadd dX12_arePrintsAlike_62 ?_
          refine tm_iald (z := 400 + i) (v := σ.2.1 77 (400 + i)) dX12_arePrintsAlike_63 (show mT[48]? = some (77, 0, 600) from rfl) (by omega) (by omega) (by decide) (rfl) ?_
          have g6 := RG.a hR 77 (400 + i)
          refine tm_icmp_ne (tgt := 71) dX12_arePrintsAlike_64 (by decide) ⟨by omega, by omega⟩ ⟨by omega, by omega⟩ (fun h7 => ?_) (fun h7 => ?_)
          · refine tm_iconst dX12_arePrintsAlike_71 ?_
            refine tm_istore_n (L' := [(1, .int (iI 0)), (2, .int (iI i)), (0, .ref b)]) dX12_arePrintsAlike_72 rfl (by decide) rfl ?_
            refine tm_iinc (q0 := 1) (L' := [(2, .int (iI (i + 1))), (1, .int (iI 0)), (0, .ref b)]) dX12_arePrintsAlike_73 rfl (by decide) rfl ?_
            refine tm_goto (tgt := 23) dX12_arePrintsAlike_76 (by decide) ?_
            exact tm_sub [0, 1, 2] rfl (ih _ (by omega) (0) (i + 1) (by omega) (hp.s (by omega) ⟨by omega, by omega, by omega⟩ (by omega)) rfl)
          · refine tm_iconst dX12_arePrintsAlike_67 ?_
            refine tm_goto (tgt := 72) dX12_arePrintsAlike_68 (by decide) ?_
            refine tm_istore_n (L' := [(1, .int (iI 1)), (2, .int (iI i)), (0, .ref b)]) dX12_arePrintsAlike_72 rfl (by decide) rfl ?_
            refine tm_iinc (q0 := 1) (L' := [(2, .int (iI (i + 1))), (1, .int (iI 1)), (0, .ref b)]) dX12_arePrintsAlike_73 rfl (by decide) rfl ?_
            refine tm_goto (tgt := 23) dX12_arePrintsAlike_76 (by decide) ?_
            exact tm_sub [0, 1, 2] rfl (ih _ (by omega) (1) (i + 1) (by omega) (hp.s (by omega) ⟨by omega, by omega, by omega⟩ (by omega)) rfl)
set_option maxHeartbeats 2000000 in
set_option maxRecDepth 20000 in
theorem g_X12_arePrintsAlike (d : Nat) {b : Nat} {σ : MS} (hR : RG σ) : Tm (d + 1) m_X12_arePrintsAlike 0 b σ [(0, .ref b)] [] (fun ro σ2 => ∃ v : Int, ro = some (.int (iI v)) ∧ σ = σ2 ∧ ((v = 0 ∨ v = 1)) ∧ (PAQ σ v)) := by
  refine tm_aload_n dX12_arePrintsAlike_0 rfl 0 rfl ?_
  refine tm_get (k := 76) (v := .ref (b + 1 + 47)) lay_12 dX12_arePrintsAlike_1 (by decide) fl12_161 rfl ?_
  refine tm_iconst dX12_arePrintsAlike_4 ?_
  refine tm_iald (z := 1) (v := σ.2.1 76 1) dX12_arePrintsAlike_5 (show mT[47]? = some (76, 0, 3) from rfl) (by omega) (by omega) (by decide) (rfl) ?_
  have g1 := RG.a hR 76 (1)
  refine tm_aload_n dX12_arePrintsAlike_6 rfl 0 rfl ?_
  refine tm_get (k := 76) (v := .ref (b + 1 + 47)) lay_12 dX12_arePrintsAlike_7 (by decide) fl12_161 rfl ?_
  refine tm_iconst dX12_arePrintsAlike_10 ?_
  refine tm_iald (z := 2) (v := σ.2.1 76 2) dX12_arePrintsAlike_11 (show mT[47]? = some (76, 0, 3) from rfl) (by omega) (by omega) (by decide) (rfl) ?_
  have g2 := RG.a hR 76 (2)
  refine tm_icmp_ne (tgt := 19) dX12_arePrintsAlike_12 (by decide) ⟨by omega, by omega⟩ ⟨by omega, by omega⟩ (fun h3 => ?_) (fun h3 => ?_)
  · refine tm_iconst dX12_arePrintsAlike_19 ?_
    refine tm_istore_n (L' := [(1, .int (iI 0)), (0, .ref b)]) dX12_arePrintsAlike_20 rfl (by decide) rfl ?_
    refine tm_iconst dX12_arePrintsAlike_21 ?_
    refine tm_istore_n (L' := [(2, .int (iI 0)), (1, .int (iI 0)), (0, .ref b)]) dX12_arePrintsAlike_22 rfl (by decide) rfl ?_
    refine tm_sub [0, 1, 2] rfl (g_prints (d) (σ := σ) (W0 := 0) hR (by omega) (fun w10 i11 f8 f9 => ?_) _ (0) (0) (by omega) (PA9.z (by omega) rfl) rfl)
    show Tm _ _ 79 b σ [(2, .int (iI i11)), (1, .int (iI w10)), (0, .ref b)] [] _
    refine tm_iload_n dX12_arePrintsAlike_79 rfl 1 rfl ?_
    exact tm_zret (v := w10) rfl (by omega) dX12_arePrintsAlike_80 (⟨_, rfl, rfl, f8, f9⟩)
  · refine tm_iconst dX12_arePrintsAlike_15 ?_
    refine tm_goto (tgt := 20) dX12_arePrintsAlike_16 (by decide) ?_
    refine tm_istore_n (L' := [(1, .int (iI 1)), (0, .ref b)]) dX12_arePrintsAlike_20 rfl (by decide) rfl ?_
    refine tm_iconst dX12_arePrintsAlike_21 ?_
    refine tm_istore_n (L' := [(2, .int (iI 0)), (1, .int (iI 1)), (0, .ref b)]) dX12_arePrintsAlike_22 rfl (by decide) rfl ?_
    refine tm_sub [0, 1, 2] rfl (g_prints (d) (σ := σ) (W0 := 1) hR (by omega) (fun w18 i19 f16 f17 => ?_) _ (1) (0) (by omega) (PA9.z (by omega) rfl) rfl)
    show Tm _ _ 79 b σ [(2, .int (iI i19)), (1, .int (iI w18)), (0, .ref b)] [] _
    refine tm_iload_n dX12_arePrintsAlike_79 rfl 1 rfl ?_
    exact tm_zret (v := w18) rfl (by omega) dX12_arePrintsAlike_80 (⟨_, rfl, rfl, f16, f17⟩)
end
