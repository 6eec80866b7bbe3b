theorem cd_X11_compared : Cond.code yX11_compared cX11_compared 2 (some .int) ∈ pWW := pw6 (List.mem_of_getElem? (i := 237) rfl) rfl
abbrev m_X11_compared : MT := (yX11_compared, cX11_compared, 2, (some .int))
theorem ok_X11_compared : pOk m_X11_compared := ⟨⟨cd_X11_compared, ini_11⟩, by decide +kernel, ⟨by decide +kernel, by decide +kernel⟩, Nat.le_of_ble_eq_true rfl⟩
theorem np_X11_compared : (parseMethodDescriptor yX11_compared.desc).map (fun d => d.parameters.length) = some 1 := by decide +kernel
theorem im_X11_compared : Cond.instanceMethod yX11_compared ∈ pWW := pw6 (List.mem_of_getElem? (i := 235) rfl) rfl
theorem se_X11_compared : Cond.selects RX11 yX11_compared yX11_compared ∈ pWW := pw6 (List.mem_of_getElem? (i := 236) rfl) rfl
theorem fl11_258 : Cond.fieldLink RX11 258 (TX11 15).1 (TX11 15).2.1 (TX11 15).2.2.1 ∈ pWW := pw2 (List.mem_of_getElem? (i := 211) rfl) rfl
theorem fl11_276 : Cond.fieldLink RX11 276 (TX0 2).1 (TX0 2).2.1 (TX0 2).2.2.1 ∈ pWW := pw6 (List.mem_of_getElem? (i := 185) rfl) rfl
theorem fl11_279 : Cond.fieldLink RX11 279 (TX0 3).1 (TX0 3).2.1 (TX0 3).2.2.1 ∈ pWW := pw6 (List.mem_of_getElem? (i := 187) rfl) rfl
theorem fl11_282 : Cond.fieldLink RX11 282 (TX0 4).1 (TX0 4).2.1 (TX0 4).2.2.1 ∈ pWW := pw6 (List.mem_of_getElem? (i := 189) rfl) rfl
theorem dX11_compared_0 : decode cX11_compared 0 = .ok (.aload_n 0, 1) := by decide +kernel
theorem dX11_compared_1 : decode cX11_compared 1 = .ok (.getfield 258, 3) := by decide +kernel
theorem dX11_compared_4 : decode cX11_compared 4 = .ok (.ifnonnull 5, 3) := by decide +kernel
theorem dX11_compared_7 : decode cX11_compared 7 = .ok (.iconst (-1), 1) := by decide +kernel
theorem dX11_compared_8 : decode cX11_compared 8 = .ok (.ireturn, 1) := by decide +kernel
theorem dX11_compared_9 : decode cX11_compared 9 = .ok (.iload_n 1, 1) := by decide +kernel
theorem dX11_compared_10 : decode cX11_compared 10 = .ok (.tableswitch 50 0 2 #[26, 34, 42], 26) := by decide +kernel
theorem dX11_compared_60 : decode cX11_compared 60 = .ok (.iconst (-1), 1) := by decide +kernel
theorem dX11_compared_61 : decode cX11_compared 61 = .ok (.ireturn, 1) := by decide +kernel
theorem dX11_compared_36 : decode cX11_compared 36 = .ok (.aload_n 0, 1) := by decide +kernel
theorem dX11_compared_37 : decode cX11_compared 37 = .ok (.getfield 258, 3) := by decide +kernel
theorem dX11_compared_40 : decode cX11_compared 40 = .ok (.getfield 276, 3) := by decide +kernel
theorem dX11_compared_43 : decode cX11_compared 43 = .ok (.ireturn, 1) := by decide +kernel
theorem dX11_compared_44 : decode cX11_compared 44 = .ok (.aload_n 0, 1) := by decide +kernel
theorem dX11_compared_45 : decode cX11_compared 45 = .ok (.getfield 258, 3) := by decide +kernel
theorem dX11_compared_48 : decode cX11_compared 48 = .ok (.getfield 279, 3) := by decide +kernel
theorem dX11_compared_51 : decode cX11_compared 51 = .ok (.ireturn, 1) := by decide +kernel
theorem dX11_compared_52 : decode cX11_compared 52 = .ok (.aload_n 0, 1) := by decide +kernel
theorem dX11_compared_53 : decode cX11_compared 53 = .ok (.getfield 258, 3) := by decide +kernel
theorem dX11_compared_56 : decode cX11_compared 56 = .ok (.getfield 282, 3) := by decide +kernel
theorem dX11_compared_59 : decode cX11_compared 59 = .ok (.ireturn, 1) := by decide +kernel
set_option maxRecDepth 20000 in
theorem k_X11_compared (d : Nat) {T : CT} {σ : MS} {a : Nat} {w : Int} (ha : OB T a 11) (h_w : -2147483648 ≤ w ∧ w ≤ 2147483647) (hw : WT T σ) : Tn (d + 1) m_X11_compared 0 T σ [(0, .ref a), (1, .int (iI w))] [] (fun ro T2 σ2 => ∃ v : Int, ro = some (.int (iI v)) ∧ T = T2 ∧ σ = σ2 ∧ (-2147483648 ≤ v ∧ v ≤ 2147483647)) := by
  refine tn_aload_n dX11_compared_0 rfl 0 rfl ?_
  rcases wf_110 hw ha with hx1 | ⟨x2, hx1, hk3⟩
  · refine tn_getN (ci := 11) (i := 15) (n := 110) dX11_compared_1 rfl lay_11 (by decide) fl11_258 ha rfl rfl (Int.lt_of_le_of_lt (Int.le_of_eq (Eq.refl _)) hx1) ?_
    refine tn_ifnonnullN dX11_compared_4 ?_
    refine tn_iconst dX11_compared_7 ?_
    exact tn_iret rfl dX11_compared_8 ⟨_, rfl, rfl, rfl, by omega⟩
  · have hk3o : OB T x2 0 := ⟨by omega, by rw [hk3]; rfl, by omega⟩
    refine tn_getR (ci := 11) (i := 15) (n := 110) (x := x2) dX11_compared_1 rfl lay_11 (by decide) fl11_258 ha rfl rfl (hx1) ?_
    refine tn_ifnonnull (tgt := 9) dX11_compared_4 (by decide) ?_
    refine tn_iload_n dX11_compared_9 rfl 1 rfl ?_
    by_cases h5 : w < 0 ∨ 2 < w
    · refine tn_tableOut (tgt := 60) dX11_compared_10 (x := w) ⟨by omega, by omega⟩ h5 (by decide) ?_
      refine tn_iconst dX11_compared_60 ?_
      exact tn_iret rfl dX11_compared_61 ⟨_, rfl, rfl, rfl, by omega⟩
    · have h6 : w = 0 ∨ w = 1 ∨ w = 2 := by omega
      rcases h6 with h6 | h6 | h6
      · refine tn_tableIn (tgt := 36) (off := 26) dX11_compared_10 (x := w) ⟨by omega, by omega⟩ (by omega) (by omega) (by rw [h6]; rfl) (by decide) ?_
        refine tn_aload_n dX11_compared_36 rfl 0 rfl ?_
        refine tn_getR (ci := 11) (i := 15) (n := 110) (x := x2) dX11_compared_37 rfl lay_11 (by decide) fl11_258 ha rfl rfl (hx1) ?_
        refine tn_getI (ci := 0) (i := 2) (n := 2) (t := σ.2.1 2 x2) dX11_compared_40 rfl lay_0 (by decide) fl11_276 hk3o rfl rfl (rfl) ?_
        have g7 : ((-2147483648 : Int) ≤ σ.2.1 2 x2 ∧ σ.2.1 2 x2 ≤ 2147483647) := wf_2 hw hk3o
        exact tn_iret rfl dX11_compared_43 ⟨_, rfl, rfl, rfl, by omega⟩
      · refine tn_tableIn (tgt := 44) (off := 34) dX11_compared_10 (x := w) ⟨by omega, by omega⟩ (by omega) (by omega) (by rw [h6]; rfl) (by decide) ?_
        refine tn_aload_n dX11_compared_44 rfl 0 rfl ?_
        refine tn_getR (ci := 11) (i := 15) (n := 110) (x := x2) dX11_compared_45 rfl lay_11 (by decide) fl11_258 ha rfl rfl (hx1) ?_
        refine tn_getI (ci := 0) (i := 3) (n := 3) (t := σ.2.1 3 x2) dX11_compared_48 rfl lay_0 (by decide) fl11_279 hk3o rfl rfl (rfl) ?_
        have g8 : ((-2147483648 : Int) ≤ σ.2.1 3 x2 ∧ σ.2.1 3 x2 ≤ 2147483647) := wf_3 hw hk3o
        exact tn_iret rfl dX11_compared_51 ⟨_, rfl, rfl, rfl, by omega⟩
      · refine tn_tableIn (tgt := 52) (off := 42) dX11_compared_10 (x := w) ⟨by omega, by omega⟩ (by omega) (by omega) (by rw [h6]; rfl) (by decide) ?_
        refine tn_aload_n dX11_compared_52 rfl 0 rfl ?_
        refine tn_getR (ci := 11) (i := 15) (n := 110) (x := x2) dX11_compared_53 rfl lay_11 (by decide) fl11_258 ha rfl rfl (hx1) ?_
        refine tn_getI (ci := 0) (i := 4) (n := 4) (t := σ.2.1 4 x2) dX11_compared_56 rfl lay_0 (by decide) fl11_282 hk3o rfl rfl (rfl) ?_
        have g9 : ((-2147483648 : Int) ≤ σ.2.1 4 x2 ∧ σ.2.1 4 x2 ≤ 2147483647) := wf_4 hw hk3o
        exact tn_iret rfl dX11_compared_59 ⟨_, rfl, rfl, rfl, by omega⟩
