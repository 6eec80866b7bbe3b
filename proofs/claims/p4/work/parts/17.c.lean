set_option maxHeartbeats 4000000 in
set_option maxRecDepth 20000 in
theorem c2_X12_isSign (d : Nat) {b : Nat} {σ : MS} {c : Int} (hR : RG σ) (h_c : -2147483648 ≤ c ∧ c ≤ 2147483647) : Tm (d + 1) m_X12_isSign 0 b σ [(0, .ref b), (1, .int (iI c))] [] (fun ro σ2 => ∃ v : Int, ro = some (.int (iI v)) ∧ σ = σ2 ∧ ((v = 0 ∨ v = 1)) ∧ (Im v 1 (SG σ c)) ∧ (Im v 0 (¬ SG σ c))) := by
  refine tm_aload_n dX12_isSign_0 rfl 0 rfl ?_
  refine tm_getS (k := 22) (t := σ.1 22) dX12_isSign_1 (by decide) fl12_226 rfl (rfl) ?_
  have g1 := RG.s hR 22
  refine tm_iconst dX12_isSign_4 ?_
  refine tm_icmp_ne (tgt := 20) dX12_isSign_5 (by decide) ⟨by omega, by omega⟩ ⟨by decide, by decide⟩ (fun h2 => ?_) (fun h2 => ?_)
  · refine tm_iconst dX12_isSign_20 ?_
    exact tm_zret (v := 0) rfl (by decide) dX12_isSign_21 (⟨_, rfl, rfl, by omega, fun _ => by unfold SG; omega, fun _ => by unfold SG; omega⟩)
  · refine tm_aload_n dX12_isSign_8 rfl 0 rfl ?_
    refine tm_getS (k := 23) (t := σ.1 23) dX12_isSign_9 (by decide) fl12_223 rfl (rfl) ?_
    have g3 := RG.s hR 23
    refine tm_iload_n dX12_isSign_12 rfl 1 rfl ?_
    refine tm_icmp_ne (tgt := 20) dX12_isSign_13 (by decide) ⟨by omega, by omega⟩ ⟨by omega, by omega⟩ (fun h4 => ?_) (fun h4 => ?_)
    · refine tm_iconst dX12_isSign_20 ?_
      exact tm_zret (v := 0) rfl (by decide) dX12_isSign_21 (⟨_, rfl, rfl, by omega, fun _ => by unfold SG; omega, fun _ => by unfold SG; omega⟩)
    · refine tm_iconst dX12_isSign_16 ?_
      refine tm_goto (tgt := 21) dX12_isSign_17 (by decide) ?_
      exact tm_zret (v := 1) rfl (by decide) dX12_isSign_21 (⟨_, rfl, rfl, by omega, fun _ => by unfold SG; omega, fun _ => by unfold SG; omega⟩)
set_option maxHeartbeats 4000000 in
set_option maxRecDepth 20000 in
theorem c2_X12_isWord (d : Nat) {b : Nat} {σ : MS} {w : Int64} (hR : RG σ) : Tm (d + 1) m_X12_isWord 0 b σ [(0, .ref b), (1, .long (w))] [] (fun ro σ2 => ∃ v : Int, ro = some (.int (iI v)) ∧ σ = σ2 ∧ ((v = 0 ∨ v = 1)) ∧ (Im v 1 (WD σ w)) ∧ (Im v 0 (¬ WD σ w))) := by
  refine tm_aload_n dX12_isWord_0 rfl 0 rfl ?_
  refine tm_getS (k := 22) (t := σ.1 22) dX12_isWord_1 (by decide) fl12_226 rfl (rfl) ?_
  have g1 := RG.s hR 22
  refine tm_iconst dX12_isWord_4 ?_
  refine tm_icmp_ne (tgt := 21) dX12_isWord_5 (by decide) ⟨by omega, by omega⟩ ⟨by decide, by decide⟩ (fun h2 => ?_) (fun h2 => ?_)
  · refine tm_iconst dX12_isWord_21 ?_
    exact tm_zret (v := 0) rfl (by decide) dX12_isWord_22 (⟨_, rfl, rfl, by omega, fun _ => by simp [WD, *] at *, fun _ => by simp [WD, *] at *⟩)
  · refine tm_aload_n dX12_isWord_8 rfl 0 rfl ?_
    refine tm_getW (t := σ.2.2 24 0) dX12_isWord_9 fl12_219 (rfl) ?_
    refine tm_lload_n dX12_isWord_12 rfl 1 rfl ?_
    refine tm_lcmp dX12_isWord_13 ?_
    have g3 := lcI_b (σ.2.2 24 0) (w)
    refine tm_if_ne (tgt := 21) dX12_isWord_14 (by decide) ⟨by omega, by omega⟩ (fun h4 => ?_) (fun h4 => ?_)
    · have h4e : ¬ (σ.2.2 24 0) = (w) := fun q => h4 (lcI_0.mpr q)
      refine tm_iconst dX12_isWord_21 ?_
      exact tm_zret (v := 0) rfl (by decide) dX12_isWord_22 (⟨_, rfl, rfl, by omega, fun _ => by simp [WD, *] at *, fun _ => by simp [WD, *] at *⟩)
    · have h4e := lcI_0.mp h4
      refine tm_iconst dX12_isWord_17 ?_
      refine tm_goto (tgt := 22) dX12_isWord_18 (by decide) ?_
      exact tm_zret (v := 1) rfl (by decide) dX12_isWord_22 (⟨_, rfl, rfl, by omega, fun _ => by simp [WD, *] at *, fun _ => by simp [WD, *] at *⟩)
set_option maxHeartbeats 4000000 in
set_option maxRecDepth 20000 in
theorem c2_X12_isName (d : Nat) {b : Nat} {σ : MS} (hR : RG σ) : Tm (d + 1) m_X12_isName 0 b σ [(0, .ref b)] [] (fun ro σ2 => ∃ v : Int, ro = some (.int (iI v)) ∧ σ = σ2 ∧ ((v = 0 ∨ v = 1)) ∧ (Im v 1 (NMW σ)) ∧ (Im v 0 (¬ NMW σ))) := by
  refine tm_aload_n dX12_isName_0 rfl 0 rfl ?_
  refine tm_getS (k := 22) (t := σ.1 22) dX12_isName_1 (by decide) fl12_226 rfl (rfl) ?_
  have g1 := RG.s hR 22
  refine tm_iconst dX12_isName_4 ?_
  refine tm_icmp_ne (tgt := 67) dX12_isName_5 (by decide) ⟨by omega, by omega⟩ ⟨by decide, by decide⟩ (fun h2 => ?_) (fun h2 => ?_)
  · refine tm_iconst dX12_isName_67 ?_
    exact tm_zret (v := 0) rfl (by decide) dX12_isName_68 (⟨_, rfl, rfl, by omega, fun _ => by simp [NMW, *] at *, fun _ => by simp [NMW, *] at *⟩)
  · refine tm_aload_n dX12_isName_8 rfl 0 rfl ?_
    refine tm_getW (t := σ.2.2 24 0) dX12_isName_9 fl12_219 (rfl) ?_
    refine tm_ldc2 dX12_isName_12 cst12_242 ?_
    refine tm_lcmp dX12_isName_15 ?_
    have g3 := lcI_b (σ.2.2 24 0) (7304564)
    refine tm_if_eq (tgt := 67) dX12_isName_16 (by decide) ⟨by omega, by omega⟩ (fun h4 => ?_) (fun h4 => ?_)
    · have h4e := lcI_0.mp h4
      refine tm_iconst dX12_isName_67 ?_
      exact tm_zret (v := 0) rfl (by decide) dX12_isName_68 (⟨_, rfl, rfl, by omega, fun _ => by simp [NMW, *] at *, fun _ => by simp [NMW, *] at *⟩)
    · have h4e : ¬ (σ.2.2 24 0) = (7304564) := fun q => h4 (lcI_0.mpr q)
      refine tm_aload_n dX12_isName_19 rfl 0 rfl ?_
      refine tm_getW (t := σ.2.2 24 0) dX12_isName_20 fl12_219 (rfl) ?_
      refine tm_ldc2 dX12_isName_23 cst12_244 ?_
      refine tm_lcmp dX12_isName_26 ?_
      have g5 := lcI_b (σ.2.2 24 0) (125780071117422)
      refine tm_if_eq (tgt := 67) dX12_isName_27 (by decide) ⟨by omega, by omega⟩ (fun h6 => ?_) (fun h6 => ?_)
      · have h6e := lcI_0.mp h6
        refine tm_iconst dX12_isName_67 ?_
        exact tm_zret (v := 0) rfl (by decide) dX12_isName_68 (⟨_, rfl, rfl, by omega, fun _ => by simp [NMW, *] at *, fun _ => by simp [NMW, *] at *⟩)
      · have h6e : ¬ (σ.2.2 24 0) = (125780071117422) := fun q => h6 (lcI_0.mpr q)
        refine tm_aload_n dX12_isName_30 rfl 0 rfl ?_
        refine tm_getW (t := σ.2.2 24 0) dX12_isName_31 fl12_219 (rfl) ?_
        refine tm_ldc2 dX12_isName_34 cst12_246 ?_
        refine tm_lcmp dX12_isName_37 ?_
        have g7 := lcI_b (σ.2.2 24 0) (26982)
        refine tm_if_eq (tgt := 67) dX12_isName_38 (by decide) ⟨by omega, by omega⟩ (fun h8 => ?_) (fun h8 => ?_)
        · have h8e := lcI_0.mp h8
          refine tm_iconst dX12_isName_67 ?_
          exact tm_zret (v := 0) rfl (by decide) dX12_isName_68 (⟨_, rfl, rfl, by omega, fun _ => by simp [NMW, *] at *, fun _ => by simp [NMW, *] at *⟩)
        · have h8e : ¬ (σ.2.2 24 0) = (26982) := fun q => h8 (lcI_0.mpr q)
          refine tm_aload_n dX12_isName_41 rfl 0 rfl ?_
          refine tm_getW (t := σ.2.2 24 0) dX12_isName_42 fl12_219 (rfl) ?_
          refine tm_ldc2 dX12_isName_45 cst12_248 ?_
          refine tm_lcmp dX12_isName_48 ?_
          have g9 := lcI_b (σ.2.2 24 0) (1701606245)
          refine tm_if_eq (tgt := 67) dX12_isName_49 (by decide) ⟨by omega, by omega⟩ (fun h10 => ?_) (fun h10 => ?_)
          · have h10e := lcI_0.mp h10
            refine tm_iconst dX12_isName_67 ?_
            exact tm_zret (v := 0) rfl (by decide) dX12_isName_68 (⟨_, rfl, rfl, by omega, fun _ => by simp [NMW, *] at *, fun _ => by simp [NMW, *] at *⟩)
          · have h10e : ¬ (σ.2.2 24 0) = (1701606245) := fun q => h10 (lcI_0.mpr q)
            refine tm_aload_n dX12_isName_52 rfl 0 rfl ?_
            refine tm_getW (t := σ.2.2 24 0) dX12_isName_53 fl12_219 (rfl) ?_
            refine tm_ldc2 dX12_isName_56 cst12_250 ?_
            refine tm_lcmp dX12_isName_59 ?_
            have g11 := lcI_b (σ.2.2 24 0) (512852847717)
            refine tm_if_eq (tgt := 67) dX12_isName_60 (by decide) ⟨by omega, by omega⟩ (fun h12 => ?_) (fun h12 => ?_)
            · have h12e := lcI_0.mp h12
              refine tm_iconst dX12_isName_67 ?_
              exact tm_zret (v := 0) rfl (by decide) dX12_isName_68 (⟨_, rfl, rfl, by omega, fun _ => by simp [NMW, *] at *, fun _ => by simp [NMW, *] at *⟩)
            · have h12e : ¬ (σ.2.2 24 0) = (512852847717) := fun q => h12 (lcI_0.mpr q)
              refine tm_iconst dX12_isName_63 ?_
              refine tm_goto (tgt := 68) dX12_isName_64 (by decide) ?_
              exact tm_zret (v := 1) rfl (by decide) dX12_isName_68 (⟨_, rfl, rfl, by omega, fun _ => by simp [NMW, *] at *, fun _ => by simp [NMW, *] at *⟩)
theorem fl12_63 : Cond.fieldLink RX12 63 (TX12 35).1 (TX12 35).2.1 (TX12 35).2.2.1 ∈ pWW := pw7 (List.mem_of_getElem? (i := 42) rfl) rfl
theorem fl12_72 : Cond.fieldLink RX12 72 (TX12 38).1 (TX12 38).2.1 (TX12 38).2.2.1 ∈ pWW := pw7 (List.mem_of_getElem? (i := 45) rfl) rfl
theorem dX12_nameOf_12 : decode cX12_nameOf 12 = .ok (.iload 4, 2) := by decide +kernel
theorem dX12_nameOf_14 : decode cX12_nameOf 14 = .ok (.aload_n 0, 1) := by decide +kernel
theorem dX12_nameOf_15 : decode cX12_nameOf 15 = .ok (.getfield 63, 3) := by decide +kernel
theorem dX12_nameOf_18 : decode cX12_nameOf 18 = .ok (.aload_n 0, 1) := by decide +kernel
theorem dX12_nameOf_19 : decode cX12_nameOf 19 = .ok (.getfield 268, 3) := by decide +kernel
theorem dX12_nameOf_22 : decode cX12_nameOf 22 = .ok (.iaload, 1) := by decide +kernel
theorem dX12_nameOf_23 : decode cX12_nameOf 23 = .ok (.if_icmp .ge 32, 3) := by decide +kernel
theorem dX12_nameOf_26 : decode cX12_nameOf 26 = .ok (.aload_n 0, 1) := by decide +kernel
theorem dX12_nameOf_27 : decode cX12_nameOf 27 = .ok (.getfield 72, 3) := by decide +kernel
theorem dX12_nameOf_30 : decode cX12_nameOf 30 = .ok (.bipush 12, 2) := by decide +kernel
theorem dX12_nameOf_32 : decode cX12_nameOf 32 = .ok (.aload_n 0, 1) := by decide +kernel
theorem dX12_nameOf_33 : decode cX12_nameOf 33 = .ok (.getfield 268, 3) := by decide +kernel
theorem dX12_nameOf_36 : decode cX12_nameOf 36 = .ok (.imul, 1) := by decide +kernel
theorem dX12_nameOf_37 : decode cX12_nameOf 37 = .ok (.iload 4, 2) := by decide +kernel
theorem dX12_nameOf_39 : decode cX12_nameOf 39 = .ok (.iadd, 1) := by decide +kernel
theorem dX12_nameOf_40 : decode cX12_nameOf 40 = .ok (.laload, 1) := by decide +kernel
theorem dX12_nameOf_41 : decode cX12_nameOf 41 = .ok (.lload_n 1, 1) := by decide +kernel
theorem dX12_nameOf_42 : decode cX12_nameOf 42 = .ok (.lcmp, 1) := by decide +kernel
theorem dX12_nameOf_43 : decode cX12_nameOf 43 = .ok (.ifCond .ne 6, 3) := by decide +kernel
theorem dX12_nameOf_49 : decode cX12_nameOf 49 = .ok (.iinc 4 1, 3) := by decide +kernel
theorem dX12_nameOf_52 : decode cX12_nameOf 52 = .ok (.goto (-40), 3) := by decide +kernel
theorem dX12_nameOf_46 : decode cX12_nameOf 46 = .ok (.iload 4, 2) := by decide +kernel
theorem dX12_nameOf_48 : decode cX12_nameOf 48 = .ok (.ireturn, 1) := by decide +kernel
set_option maxHeartbeats 4000000 in
set_option maxRecDepth 20000 in
theorem l_nameOf (d : Nat) {b : Nat} {σ : MS} {w : Int64} {p : Int} {post : Option Value → MS → Prop} (hR : RG σ) (hnn : NN σ) (hr6 : 0 ≤ σ.1 30 ∧ σ.1 30 < 6) (hx_55 : ∀ (i : Int) , (∀ j, 0 ≤ j → j < σ.2.1 35 (σ.1 30) → σ.2.2 38 (12 * σ.1 30 + j) ≠ w) → Tm (d + 2) m_X12_nameOf 55 b σ [(4, .int (iI i)), (0, .ref b), (1, .long (w)), (3, .int (iI p))] [] post) (hr1 : ∀ v, 0 ≤ v → v < 12 → NFD σ w → post (some (.int (iI v))) σ) : ∀ (n : Nat) (i : Int) , (0 ≤ i ∧ i ≤ 12) → (∀ j, 0 ≤ j → j < i → σ.2.2 38 (12 * σ.1 30 + j) ≠ w) → (12 - i).toNat = n → Tm (d + 2) m_X12_nameOf 12 b σ [(4, .int (iI i)), (0, .ref b), (1, .long (w)), (3, .int (iI p))] [] post := by
  intro n
  induction n using Nat.strongRecOn with
  | _ n ih =>
    intro i h0 hnf hm
    have hn1 := hnn (σ.1 30) hr6.1 hr6.2
    refine tm_iload dX12_nameOf_12 0 rfl ?_
    refine tm_aload_n dX12_nameOf_14 rfl 1 rfl ?_
    refine tm_get (k := 35) (v := .ref (b + 1 + 16)) lay_12 dX12_nameOf_15 (by decide) fl12_63 rfl ?_
    refine tm_aload_n dX12_nameOf_18 rfl 1 rfl ?_
    refine tm_getS (k := 30) (t := σ.1 30) dX12_nameOf_19 (by decide) fl12_268 rfl (rfl) ?_
    have g1 := RG.s hR 30
    refine tm_iald (z := σ.1 30) (v := σ.2.1 35 (σ.1 30)) dX12_nameOf_22 (show mT[16]? = some (35, 0, 6) from rfl) (by omega) (by omega) (by decide) (rfl) ?_
    have g2 := RG.a hR 35 (σ.1 30)
    refine tm_icmp_ge (tgt := 55) dX12_nameOf_23 (by decide) ⟨by omega, by omega⟩ ⟨by omega, by omega⟩ (fun h3 => ?_) (fun h3 => ?_)
    · exact tm_sub [0, 1, 2, 3] rfl (hx_55 (i) (fun j a c => hnf j a (by omega)))
    · refine tm_aload_n dX12_nameOf_26 rfl 1 rfl ?_
      refine tm_get (k := 38) (v := .ref (b + 1 + 19)) lay_12 dX12_nameOf_27 (by decide) fl12_72 rfl ?_
      refine tm_bipush dX12_nameOf_30 (by decide) ?_
      refine tm_aload_n dX12_nameOf_32 rfl 1 rfl ?_
      refine tm_getS (k := 30) (t := σ.1 30) dX12_nameOf_33 (by decide) fl12_268 rfl (rfl) ?_
      have g4 := RG.s hR 30
      refine tm_imul dX12_nameOf_36 ?_
      refine tm_iload dX12_nameOf_37 0 rfl ?_
      refine tm_iadd dX12_nameOf_39 ?_
      refine tm_lald (z := (12 * (σ.1 30)) + i) (v := σ.2.2 38 ((12 * (σ.1 30)) + i)) dX12_nameOf_40 (show mT[19]? = some (38, 3, 72) from rfl) (by omega) (by omega) (by decide) (rfl) ?_
      refine tm_lload_n dX12_nameOf_41 rfl 2 rfl ?_
      refine tm_lcmp dX12_nameOf_42 ?_
      have g5 := lcI_b (σ.2.2 38 ((12 * (σ.1 30)) + i)) (w)
      refine tm_if_ne (tgt := 49) dX12_nameOf_43 (by decide) ⟨by omega, by omega⟩ (fun h6 => ?_) (fun h6 => ?_)
      · have h6e : ¬ (σ.2.2 38 ((12 * (σ.1 30)) + i)) = (w) := fun q => h6 (lcI_0.mpr q)
        refine tm_iinc (q0 := 0) (L' := [(4, .int (iI (i + 1))), (0, .ref b), (1, .long (w)), (3, .int (iI p))]) dX12_nameOf_49 rfl (by decide) rfl ?_
        refine tm_goto (tgt := 12) dX12_nameOf_52 (by decide) ?_
        exact tm_sub [0, 1, 2, 3] rfl (ih _ (by omega) (i + 1) (by omega) (fun j a c => (Classical.em (j = i)).elim (fun e y => by subst e; exact absurd y (by assumption)) (fun e => hnf j a (by omega))) rfl)
      · have h6e := lcI_0.mp h6
        refine tm_iload dX12_nameOf_46 0 rfl ?_
        exact tm_iret rfl dX12_nameOf_48 (hr1 _ (by omega) (by omega) ⟨i, h0.1, by omega, lcI_0.mp (by first | assumption | omega)⟩)
theorem ml12_274 : Cond.methodLink RX12 274 yX12_note ∈ pWW := pw8 (List.mem_of_getElem? (i := 165) rfl) rfl
theorem dX12_nameOf_0 : decode cX12_nameOf 0 = .ok (.aload_n 0, 1) := by decide +kernel
theorem dX12_nameOf_1 : decode cX12_nameOf 1 = .ok (.invokevirtual 271, 3) := by decide +kernel
theorem dX12_nameOf_4 : decode cX12_nameOf 4 = .ok (.ifCond .ne 5, 3) := by decide +kernel
theorem dX12_nameOf_9 : decode cX12_nameOf 9 = .ok (.iconst 0, 1) := by decide +kernel
theorem dX12_nameOf_10 : decode cX12_nameOf 10 = .ok (.istore 4, 2) := by decide +kernel
theorem dX12_nameOf_55 : decode cX12_nameOf 55 = .ok (.aload_n 0, 1) := by decide +kernel
theorem dX12_nameOf_56 : decode cX12_nameOf 56 = .ok (.getfield 63, 3) := by decide +kernel
theorem dX12_nameOf_59 : decode cX12_nameOf 59 = .ok (.aload_n 0, 1) := by decide +kernel
theorem dX12_nameOf_60 : decode cX12_nameOf 60 = .ok (.getfield 268, 3) := by decide +kernel
theorem dX12_nameOf_63 : decode cX12_nameOf 63 = .ok (.iaload, 1) := by decide +kernel
theorem dX12_nameOf_64 : decode cX12_nameOf 64 = .ok (.bipush 12, 2) := by decide +kernel
theorem dX12_nameOf_66 : decode cX12_nameOf 66 = .ok (.if_icmp .ne 11, 3) := by decide +kernel
theorem dX12_nameOf_77 : decode cX12_nameOf 77 = .ok (.aload_n 0, 1) := by decide +kernel
theorem dX12_nameOf_78 : decode cX12_nameOf 78 = .ok (.getfield 255, 3) := by decide +kernel
theorem dX12_nameOf_81 : decode cX12_nameOf 81 = .ok (.iconst 1, 1) := by decide +kernel
theorem dX12_nameOf_82 : decode cX12_nameOf 82 = .ok (.if_icmp .ne 39, 3) := by decide +kernel
theorem dX12_nameOf_121 : decode cX12_nameOf 121 = .ok (.iconst 0, 1) := by decide +kernel
theorem dX12_nameOf_122 : decode cX12_nameOf 122 = .ok (.ireturn, 1) := by decide +kernel
theorem dX12_nameOf_85 : decode cX12_nameOf 85 = .ok (.aload_n 0, 1) := by decide +kernel
theorem dX12_nameOf_86 : decode cX12_nameOf 86 = .ok (.getfield 72, 3) := by decide +kernel
theorem dX12_nameOf_89 : decode cX12_nameOf 89 = .ok (.bipush 12, 2) := by decide +kernel
theorem dX12_nameOf_91 : decode cX12_nameOf 91 = .ok (.aload_n 0, 1) := by decide +kernel
theorem dX12_nameOf_92 : decode cX12_nameOf 92 = .ok (.getfield 268, 3) := by decide +kernel
theorem dX12_nameOf_95 : decode cX12_nameOf 95 = .ok (.imul, 1) := by decide +kernel
theorem dX12_nameOf_96 : decode cX12_nameOf 96 = .ok (.aload_n 0, 1) := by decide +kernel
theorem dX12_nameOf_97 : decode cX12_nameOf 97 = .ok (.getfield 63, 3) := by decide +kernel
theorem dX12_nameOf_100 : decode cX12_nameOf 100 = .ok (.aload_n 0, 1) := by decide +kernel
theorem dX12_nameOf_101 : decode cX12_nameOf 101 = .ok (.getfield 268, 3) := by decide +kernel
theorem dX12_nameOf_104 : decode cX12_nameOf 104 = .ok (.iaload, 1) := by decide +kernel
theorem dX12_nameOf_105 : decode cX12_nameOf 105 = .ok (.iadd, 1) := by decide +kernel
theorem dX12_nameOf_106 : decode cX12_nameOf 106 = .ok (.lload_n 1, 1) := by decide +kernel
theorem dX12_nameOf_107 : decode cX12_nameOf 107 = .ok (.lastore, 1) := by decide +kernel
theorem dX12_nameOf_108 : decode cX12_nameOf 108 = .ok (.aload_n 0, 1) := by decide +kernel
theorem dX12_nameOf_109 : decode cX12_nameOf 109 = .ok (.getfield 63, 3) := by decide +kernel
theorem dX12_nameOf_112 : decode cX12_nameOf 112 = .ok (.aload_n 0, 1) := by decide +kernel
theorem dX12_nameOf_113 : decode cX12_nameOf 113 = .ok (.getfield 268, 3) := by decide +kernel
theorem dX12_nameOf_116 : decode cX12_nameOf 116 = .ok (.dup2, 1) := by decide +kernel
theorem dX12_nameOf_117 : decode cX12_nameOf 117 = .ok (.iaload, 1) := by decide +kernel
theorem dX12_nameOf_118 : decode cX12_nameOf 118 = .ok (.iconst 1, 1) := by decide +kernel
theorem dX12_nameOf_119 : decode cX12_nameOf 119 = .ok (.iadd, 1) := by decide +kernel
theorem dX12_nameOf_120 : decode cX12_nameOf 120 = .ok (.iastore, 1) := by decide +kernel
theorem dX12_nameOf_69 : decode cX12_nameOf 69 = .ok (.aload_n 0, 1) := by decide +kernel
theorem dX12_nameOf_70 : decode cX12_nameOf 70 = .ok (.iconst 5, 1) := by decide +kernel
theorem dX12_nameOf_71 : decode cX12_nameOf 71 = .ok (.iload_n 3, 1) := by decide +kernel
theorem dX12_nameOf_72 : decode cX12_nameOf 72 = .ok (.invokevirtual 274, 3) := by decide +kernel
theorem dX12_nameOf_75 : decode cX12_nameOf 75 = .ok (.iconst 0, 1) := by decide +kernel
theorem dX12_nameOf_76 : decode cX12_nameOf 76 = .ok (.ireturn, 1) := by decide +kernel
theorem dX12_nameOf_7 : decode cX12_nameOf 7 = .ok (.iconst 0, 1) := by decide +kernel
theorem dX12_nameOf_8 : decode cX12_nameOf 8 = .ok (.ireturn, 1) := by decide +kernel
set_option maxHeartbeats 4000000 in
set_option maxRecDepth 20000 in
theorem c_X12_nameOf (d : Nat) {b : Nat} {σ : MS} {w : Int64} {p : Int} (hR : RG σ) (hnn : NN σ) (hr30 : 0 ≤ σ.1 30 ∧ σ.1 30 ≤ 2000) (h_p : -2147483648 ≤ p ∧ p ≤ 2147483647) : Tm (d + 2) m_X12_nameOf 0 b σ [(0, .ref b), (1, .long (w)), (3, .int (iI p))] [] (fun ro σ2 => ∃ v : Int, ro = some (.int (iI v)) ∧ (Fr [26, 27] [35] [38] σ σ2) ∧ (RG σ2) ∧ (PBF σ σ2) ∧ (0 ≤ v ∧ v < 12) ∧ (σ2 = nmP w p σ)) := by
  refine tm_aload_n dX12_nameOf_0 rfl 0 rfl ?_
  refine tm_callV (M := m_X12_nameOf) (pc := 1) (ix := 271) (M' := m_X12_isKept) (As := []) (rest := []) dX12_nameOf_1 ok_X12_isKept im_X12_isKept se_X12_isKept ml12_271 np_X12_isKept rfl rfl (Nat.le_of_ble_eq_true rfl) (Nat.le_of_ble_eq_true rfl) rfl (c_X12_isKept (d) (σ := σ)  hR) (fun r1 σ2 hp => ?_)
  obtain ⟨v3, rfl, rfl, f4, f5⟩ := hp
  show Tm _ _ 4 b σ [(0, .ref b), (1, .long (w)), (3, .int (iI p))] [.int (iI v3)] _
  refine tm_if_ne (tgt := 9) dX12_nameOf_4 (by decide) ⟨by omega, by omega⟩ (fun h6 => ?_) (fun h6 => ?_)
  · refine tm_iconst dX12_nameOf_9 ?_
    refine tm_istore (L' := [(4, .int (iI 0)), (0, .ref b), (1, .long (w)), (3, .int (iI p))]) dX12_nameOf_10 (by decide) rfl ?_
    refine tm_sub [0, 1, 2, 3] rfl (l_nameOf (d) (σ := σ) (p := p) (w := w) hR hnn (by omega) (fun i11 f10 => ?_) (fun v h1 h2 h3 => ⟨_, rfl, Fr.rfl, hR, PBF.nop hnn (Fr.rfl : Fr [] [] [] σ σ) (by decide) (by decide) (by decide), ⟨h1, h2⟩, by unfold nmP; rw [ifP_t (by omega), ifP_t h3]⟩) _ (0) (by omega) (fun j a c => absurd c (by omega)) rfl)
    show Tm _ _ 55 b σ [(4, .int (iI i11)), (0, .ref b), (1, .long (w)), (3, .int (iI p))] [] _
    have hn1 := hnn (σ.1 30) (by omega) (by omega)
    have nf : ¬ NFD σ w := fun z => by obtain ⟨n, z1, z2, z3⟩ := z; exact f10 n z1 z2 z3
    refine tm_aload_n dX12_nameOf_55 rfl 1 rfl ?_
    refine tm_get (k := 35) (v := .ref (b + 1 + 16)) lay_12 dX12_nameOf_56 (by decide) fl12_63 rfl ?_
    refine tm_aload_n dX12_nameOf_59 rfl 1 rfl ?_
    refine tm_getS (k := 30) (t := σ.1 30) dX12_nameOf_60 (by decide) fl12_268 rfl (rfl) ?_
    have g12 := RG.s hR 30
    refine tm_iald (z := σ.1 30) (v := σ.2.1 35 (σ.1 30)) dX12_nameOf_63 (show mT[16]? = some (35, 0, 6) from rfl) (by omega) (by omega) (by decide) (rfl) ?_
    have g13 := RG.a hR 35 (σ.1 30)
    refine tm_bipush dX12_nameOf_64 (by decide) ?_
    refine tm_icmp_ne (tgt := 77) dX12_nameOf_66 (by decide) ⟨by omega, by omega⟩ ⟨by decide, by decide⟩ (fun h14 => ?_) (fun h14 => ?_)
    · refine tm_aload_n dX12_nameOf_77 rfl 1 rfl ?_
      refine tm_getS (k := 25) (t := σ.1 25) dX12_nameOf_78 (by decide) fl12_255 rfl (rfl) ?_
      have g15 := RG.s hR 25
      refine tm_iconst dX12_nameOf_81 ?_
      refine tm_icmp_ne (tgt := 121) dX12_nameOf_82 (by decide) ⟨by omega, by omega⟩ ⟨by decide, by decide⟩ (fun h16 => ?_) (fun h16 => ?_)
      · refine tm_iconst dX12_nameOf_121 ?_
        exact tm_iret rfl dX12_nameOf_122 (⟨_, rfl, Fr.rfl, hR, PBF.nop hnn (Fr.rfl : Fr [] [] [] σ σ) (by decide) (by decide) (by decide), by omega, by unfold nmP; rw [ifP_t (by omega), ifP_f nf, ifP_f (by omega), ifP_f (by omega)]⟩)
      · refine tm_aload_n dX12_nameOf_85 rfl 1 rfl ?_
        refine tm_get (k := 38) (v := .ref (b + 1 + 19)) lay_12 dX12_nameOf_86 (by decide) fl12_72 rfl ?_
        refine tm_bipush dX12_nameOf_89 (by decide) ?_
        refine tm_aload_n dX12_nameOf_91 rfl 1 rfl ?_
        refine tm_getS (k := 30) (t := σ.1 30) dX12_nameOf_92 (by decide) fl12_268 rfl (rfl) ?_
        have g17 := RG.s hR 30
        refine tm_imul dX12_nameOf_95 ?_
        refine tm_aload_n dX12_nameOf_96 rfl 1 rfl ?_
        refine tm_get (k := 35) (v := .ref (b + 1 + 16)) lay_12 dX12_nameOf_97 (by decide) fl12_63 rfl ?_
        refine tm_aload_n dX12_nameOf_100 rfl 1 rfl ?_
        refine tm_getS (k := 30) (t := σ.1 30) dX12_nameOf_101 (by decide) fl12_268 rfl (rfl) ?_
        have g18 := RG.s hR 30
        refine tm_iald (z := σ.1 30) (v := σ.2.1 35 (σ.1 30)) dX12_nameOf_104 (show mT[16]? = some (35, 0, 6) from rfl) (by omega) (by omega) (by decide) (rfl) ?_
        have g19 := RG.a hR 35 (σ.1 30)
        refine tm_iadd dX12_nameOf_105 ?_
        refine tm_lload_n dX12_nameOf_106 rfl 2 rfl ?_
        refine tm_last (z := (12 * (σ.1 30)) + (σ.2.1 35 (σ.1 30))) (v := w) dX12_nameOf_107 (show mT[19]? = some (38, 3, 72) from rfl) (by decide) (by omega) (by omega) (by decide) ?_
        refine tm_aload_n dX12_nameOf_108 rfl 1 rfl ?_
        refine tm_get (k := 35) (v := .ref (b + 1 + 16)) lay_12 dX12_nameOf_109 (by decide) fl12_63 rfl ?_
        refine tm_aload_n dX12_nameOf_112 rfl 1 rfl ?_
        refine tm_getS (k := 30) (t := σ.1 30) dX12_nameOf_113 (by decide) fl12_268 rfl (rs_J (rfl)) ?_
        have g20 := RG.s hR 30
        refine tm_dup2 dX12_nameOf_116 rfl rfl ?_
        refine tm_iald (z := σ.1 30) (v := σ.2.1 35 (σ.1 30)) dX12_nameOf_117 (show mT[16]? = some (35, 0, 6) from rfl) (by omega) (by omega) (by decide) (ra_J (rfl)) ?_
        have g21 := RG.a hR 35 (σ.1 30)
        refine tm_iconst dX12_nameOf_118 ?_
        refine tm_iadd dX12_nameOf_119 ?_
        refine tm_iast (z := σ.1 30) (v := (σ.2.1 35 (σ.1 30)) + 1) dX12_nameOf_120 (show mT[16]? = some (35, 0, 6) from rfl) (by omega) (by omega) (by decide) ?_
        refine tm_iconst dX12_nameOf_121 ?_
        exact tm_iret rfl dX12_nameOf_122 (⟨_, rfl, ((Fr.rfl.J (by decide)).A (by decide)), ((hR.J).A (by omega)), PBF.name hnn (by omega) (by omega) (by omega), by omega, by unfold nmP; rw [ifP_t (by omega), ifP_f nf, ifP_f (by omega), ifP_t (by omega)]⟩)
    · refine tm_aload_n dX12_nameOf_69 rfl 1 rfl ?_
      refine tm_iconst dX12_nameOf_70 ?_
      refine tm_iload_n dX12_nameOf_71 rfl 3 rfl ?_
      refine tm_callV (M := m_X12_nameOf) (pc := 72) (ix := 274) (M' := m_X12_note) (As := [.int (iI 5), .int (iI p)]) (rest := []) dX12_nameOf_72 ok_X12_note im_X12_note se_X12_note ml12_274 np_X12_note rfl rfl (Nat.le_of_ble_eq_true rfl) (Nat.le_of_ble_eq_true rfl) rfl (c2_X12_note (d) (σ := σ) (f := 5) (p := p) hR (by omega) (by omega)) (fun r22 σ23 hp => ?_)
      obtain ⟨rfl, f25, f26, f27, f28, f29⟩ := hp
      show Tm _ _ 75 b σ23 [(4, .int (iI i11)), (0, .ref b), (1, .long (w)), (3, .int (iI p))] [] _
      refine tm_iconst dX12_nameOf_75 ?_
      exact tm_iret rfl dX12_nameOf_76 (⟨_, rfl, (Fr.rfl.trans (Fr.sub f25 (by decide) (by decide) (by decide))), f26, PBF.of hnn f25 (by decide) (by decide) (by decide) f27, by omega, by unfold nmP; rw [ifP_t (by omega), ifP_f nf, ifP_t (by omega)]; exact f29⟩)
  · refine tm_iconst dX12_nameOf_7 ?_
    exact tm_iret rfl dX12_nameOf_8 (⟨_, rfl, Fr.rfl, hR, PBF.nop hnn (Fr.rfl : Fr [] [] [] σ σ) (by decide) (by decide) (by decide), by omega, by unfold nmP; rw [ifP_f (by omega)]⟩)
theorem ml12_258 : Cond.methodLink RX12 258 yX12_isSign ∈ pWW := pw8 (List.mem_of_getElem? (i := 177) rfl) rfl
theorem ml12_265 : Cond.methodLink RX12 265 yX12_advance ∈ pWW := pw8 (List.mem_of_getElem? (i := 51) rfl) rfl
theorem ml12_261 : Cond.methodLink RX12 261 yX12_wrong ∈ pWW := pw8 (List.mem_of_getElem? (i := 161) rfl) rfl
theorem dX12_need_0 : decode cX12_need 0 = .ok (.aload_n 0, 1) := by decide +kernel
theorem dX12_need_1 : decode cX12_need 1 = .ok (.iload_n 1, 1) := by decide +kernel
theorem dX12_need_2 : decode cX12_need 2 = .ok (.invokevirtual 258, 3) := by decide +kernel
theorem dX12_need_5 : decode cX12_need 5 = .ok (.ifCond .ne 8, 3) := by decide +kernel
theorem dX12_need_13 : decode cX12_need 13 = .ok (.aload_n 0, 1) := by decide +kernel
theorem dX12_need_14 : decode cX12_need 14 = .ok (.invokevirtual 265, 3) := by decide +kernel
theorem dX12_need_17 : decode cX12_need 17 = .ok (.iconst 1, 1) := by decide +kernel
theorem dX12_need_18 : decode cX12_need 18 = .ok (.ireturn, 1) := by decide +kernel
theorem dX12_need_8 : decode cX12_need 8 = .ok (.aload_n 0, 1) := by decide +kernel
theorem dX12_need_9 : decode cX12_need 9 = .ok (.invokevirtual 261, 3) := by decide +kernel
theorem dX12_need_12 : decode cX12_need 12 = .ok (.ireturn, 1) := by decide +kernel
set_option maxHeartbeats 4000000 in
set_option maxRecDepth 20000 in
theorem c_X12_need (d : Nat) {b : Nat} {σ : MS} {c : Int} (hR : RG σ) (htl : (0 ≤ σ.1 20 ∧ σ.1 20 ≤ σ.1 21) ∧ σ.1 21 ≤ 1200) (h_c : -2147483648 ≤ c ∧ c ≤ 2147483647) : Tm (d + 6) m_X12_need 0 b σ [(0, .ref b), (1, .int (iI c))] [] (fun ro σ2 => ∃ v : Int, ro = some (.int (iI v)) ∧ ((v = 0 ∨ v = 1)) ∧ (Fr [19, 20, 22, 23, 26, 27] [] [24] σ σ2) ∧ (RG σ2) ∧ (Im v 1 (NDQ σ c σ2)) ∧ (Im v 0 (¬ SG σ c)) ∧ (FLT σ σ2) ∧ (Im v 0 (WRG σ σ2))) := by
  refine tm_aload_n dX12_need_0 rfl 0 rfl ?_
  refine tm_iload_n dX12_need_1 rfl 1 rfl ?_
  refine tm_callV (M := m_X12_need) (pc := 2) (ix := 258) (M' := m_X12_isSign) (As := [.int (iI c)]) (rest := []) dX12_need_2 ok_X12_isSign im_X12_isSign se_X12_isSign ml12_258 np_X12_isSign rfl rfl (Nat.le_of_ble_eq_true rfl) (Nat.le_of_ble_eq_true rfl) rfl (c2_X12_isSign (d + 4) (σ := σ) (c := c) hR (by omega)) (fun r1 σ2 hp => ?_)
  obtain ⟨v3, rfl, rfl, f4, f5, f6⟩ := hp
  show Tm _ _ 5 b σ [(0, .ref b), (1, .int (iI c))] [.int (iI v3)] _
  have nd1 := f5
  have nd0 := f6
  refine tm_if_ne (tgt := 13) dX12_need_5 (by decide) ⟨by omega, by omega⟩ (fun h7 => ?_) (fun h7 => ?_)
  · refine tm_aload_n dX12_need_13 rfl 0 rfl ?_
    refine tm_callV (M := m_X12_need) (pc := 14) (ix := 265) (M' := m_X12_advance) (As := []) (rest := []) dX12_need_14 ok_X12_advance im_X12_advance se_X12_advance ml12_265 np_X12_advance rfl rfl (Nat.le_of_ble_eq_true rfl) (Nat.le_of_ble_eq_true rfl) rfl (c_X12_advance (d) (σ := σ)  hR htl) (fun r8 σ9 hp => ?_)
    obtain ⟨rfl, f11, f12, f13, f14, f15⟩ := hp
    show Tm _ _ 17 b σ9 [(0, .ref b), (1, .int (iI c))] [] _
    refine tm_iconst dX12_need_17 ?_
    exact tm_zret (v := 1) rfl (by decide) dX12_need_18 (⟨_, rfl, by omega, (Fr.rfl.trans (Fr.sub f12 (by decide) (by decide) (by decide))), f13, fun _ => ⟨nd1 (by omega), f11, f14, f15, f12.1 26 (by decide)⟩, fun q => absurd q (by decide), FLT.eq (f12.1 26 (by decide)), fun q => absurd q (by decide)⟩)
  · refine tm_aload_n dX12_need_8 rfl 0 rfl ?_
    refine tm_callV (M := m_X12_need) (pc := 9) (ix := 261) (M' := m_X12_wrong) (As := []) (rest := []) dX12_need_9 ok_X12_wrong im_X12_wrong se_X12_wrong ml12_261 np_X12_wrong rfl rfl (Nat.le_of_ble_eq_true rfl) (Nat.le_of_ble_eq_true rfl) rfl (c_X12_wrong (d + 4) (σ := σ)  hR) (fun r16 σ17 hp => ?_)
    obtain ⟨v18, rfl, f19, f20, f21, f22, f23, f24⟩ := hp
    show Tm _ _ 12 b σ17 [(0, .ref b), (1, .int (iI c))] [.int (iI v18)] _
    exact tm_zret (v := v18) rfl (by omega) dX12_need_12 (⟨_, rfl, by omega, (Fr.rfl.trans (Fr.sub f20 (by decide) (by decide) (by decide))), f21, fun q => absurd q (by omega), fun _ => nd0 (by omega), FLT.wr f23 f24, fun _ => WRG.of f24⟩)
