def NUM (σ : MS) : Prop := ∀ g, 0 ≤ g → g < 192 → 0 ≤ σ.2.1 64 g ∧ σ.2.1 64 g < 192
theorem NUM.fr {ss ks js : List Nat} {σ τ : MS} (h : NUM σ) (f : Fr ss ks js σ τ) (hk : 64 ∉ ks) : NUM τ := fun l => by rw [f.2.1 64 hk]; exact h l
/-- nothing of the items has changed but of item x -/
def OFF (x : Int) (σ τ : MS) : Prop := (∀ y, y ≠ x → τ.2.1 3 y = σ.2.1 3 y ∧ τ.2.1 4 y = σ.2.1 4 y ∧ τ.2.1 5 y = σ.2.1 5 y ∧ τ.2.1 6 y = σ.2.1 6 y) ∧ (∀ z, (z < 4 * x ∨ 4 * x + 4 ≤ z) → τ.2.1 7 z = σ.2.1 7 z ∧ τ.2.1 8 z = σ.2.1 8 z) ∧ τ.2.1 9 = σ.2.1 9 ∧ τ.2.1 11 = σ.2.1 11
theorem OFF.trans {x : Int} {σ τ υ : MS} (h : OFF x σ τ) (g : OFF x τ υ) : OFF x σ υ := ⟨fun y hy => ⟨((g.1 y hy).1).trans (h.1 y hy).1, ((g.1 y hy).2.1).trans (h.1 y hy).2.1, ((g.1 y hy).2.2.1).trans (h.1 y hy).2.2.1, ((g.1 y hy).2.2.2).trans (h.1 y hy).2.2.2⟩, fun z hz => ⟨((g.2.1 z hz).1).trans (h.2.1 z hz).1, ((g.2.1 z hz).2).trans (h.2.1 z hz).2⟩, g.2.2.1.trans h.2.2.1, g.2.2.2.trans h.2.2.2⟩
theorem OFF.rfl {x : Int} {σ : MS} : OFF x σ σ := ⟨fun _ _ => ⟨Eq.refl _, Eq.refl _, Eq.refl _, Eq.refl _⟩, fun _ _ => ⟨Eq.refl _, Eq.refl _⟩, Eq.refl _, Eq.refl _⟩
theorem OFF.A {x : Int} {k : Nat} {v : Int} {σ : MS} (hk : k = 3 ∨ k = 4 ∨ k = 5 ∨ k = 6) : OFF x σ (sA k x v σ) := by
  refine ⟨fun y hy => ?_, fun z hz => ?_, ?_, ?_⟩
  · rcases hk with rfl | rfl | rfl | rfl <;> simp [sA, hy]
  · rcases hk with rfl | rfl | rfl | rfl <;> simp [sA]
  · rcases hk with rfl | rfl | rfl | rfl <;> simp [sA]
  · rcases hk with rfl | rfl | rfl | rfl <;> simp [sA]
theorem OFF.arg {x i k v : Int} {σ : MS} (h0 : 0 ≤ i) (h1 : i < 4) : OFF x σ (fArg x i k v σ) := by
  refine ⟨fun y hy => ⟨Eq.refl _, Eq.refl _, Eq.refl _, Eq.refl _⟩, fun z hz => ⟨?_, ?_⟩, Eq.refl _, Eq.refl _⟩
  · exact ra_o (by decide) (ra_ne (by omega) (Eq.refl _))
  · exact ra_ne (by omega) (ra_o (by decide) (Eq.refl _))
theorem OFF.nargs {x y : Int} {σ τ : MS} (h : OFF x σ τ) (hy : y ≠ x) : nArgs τ y = nArgs σ y := by
  obtain ⟨a1, a2, a3, a4⟩ := h.1 y hy
  unfold nArgs
  rw [a1, a3, a4, h.2.2.2]
theorem OFF.oki {x y F : Int} {σ τ : MS} (h : OFF x σ τ) (hy : y ≠ x) (ho : OKI σ F y) : OKI τ F y := by
  obtain ⟨a1, a2, a3, a4⟩ := h.1 y hy
  unfold OKI at ho ⊢
  rw [a1, a2, a3, a4, h.nargs hy]
  obtain ⟨o1, o2, o3, o4, o5, o6, o7, o8, o9⟩ := ho
  refine ⟨o1, o2, o3, o4, o5, o6, o7, fun i c e => ?_, ?_⟩
  · rw [(h.2.1 (4 * y + i) (by omega)).1, (h.2.1 (4 * y + i) (by omega)).2]
    exact o8 i c e
  · rw [(h.2.1 (4 * y + 0) (by omega)).1]
    exact o9
theorem OFF.oks {r k F : Int} {σ τ : MS} (h : OFF (220 * r + k) σ τ) (ho : OKS σ F r) (hx : OKI τ F (220 * r + k)) : OKS τ F r := fun j a b => by
  rw [h.2.2.1] at b
  by_cases e : j = k
  · subst e; exact hx
  · exact h.oki (by omega) (ho j a b)
/-- a BIND is gone -/
def fGone (x w : Int) (σ : MS) : MS := fArg x 1 0 0 (fArg x 0 0 0 (sA 6 x w σ))
theorem fGone_off {x w : Int} {σ : MS} : OFF x σ (fGone x w σ) := ((OFF.A (by decide)).trans (OFF.arg (by decide) (by decide))).trans (OFF.arg (by decide) (by decide))
theorem fGone_oki {x w F : Int} {σ : MS} (ho : OKI σ F x) (hk : σ.2.1 3 x = 12) (hw : 10 ≤ w) : OKI (fGone x w σ) F x := by
  have e3 : (fGone x w σ).2.1 3 = σ.2.1 3 := rfl
  have e4 : (fGone x w σ).2.1 4 = σ.2.1 4 := rfl
  have e5 : (fGone x w σ).2.1 5 = σ.2.1 5 := rfl
  have e6 : (fGone x w σ).2.1 6 x = w := ra_o (by decide) (ra_o (by decide) (ra_o (by decide) (ra_o (by decide) ra_eq)))
  obtain ⟨o1, o2, o3, o4, o5, o6, o7, o8, o9⟩ := ho
  have hn : nArgs σ x ≤ 2 := by unfold nArgs; rw [hk]; simp only [show ¬ ((12 : Int) = 10) by decide, if_false, if_true]; (repeat' split) <;> omega
  unfold OKI
  rw [e3, e4, e5, e6]
  refine ⟨o1, o2, o3, o4, o5, o6, o7, fun i c e => ?_, fun _ q => by omega⟩
  have hz : (fGone x w σ).2.1 7 (4 * x + i) = 0 ∨ ((fGone x w σ).2.1 7 (4 * x + i) = σ.2.1 7 (4 * x + i) ∧ 2 ≤ i) := by
    by_cases i0 : i = 0
    · subst i0; exact Or.inl (ra_o (by decide) (ra_ne (by omega) (ra_o (by decide) ra_eq)))
    · by_cases i1 : i = 1
      · subst i1; exact Or.inl (ra_o (by decide) ra_eq)
      · exact Or.inr ⟨ra_o (by decide) (ra_ne (by omega) (ra_o (by decide) (ra_ne (by omega) (ra_o (by decide) rfl)))), by omega⟩
  have := o8 i c e
  rcases hz with hz | ⟨hz, h2⟩
  · rw [hz]; exact ⟨by omega, fun q => by omega⟩
  · rw [hz]; exact ⟨this.1, fun q => by have := (this.2 q).2; omega⟩

theorem dX12_unbind_7 : decode cX12_unbind 7 = .ok (.iload_n 2, 1) := by decide +kernel
theorem dX12_unbind_8 : decode cX12_unbind 8 = .ok (.aload_n 0, 1) := by decide +kernel
theorem dX12_unbind_9 : decode cX12_unbind 9 = .ok (.getfield 32, 3) := by decide +kernel
theorem dX12_unbind_12 : decode cX12_unbind 12 = .ok (.iload_n 1, 1) := by decide +kernel
theorem dX12_unbind_13 : decode cX12_unbind 13 = .ok (.iaload, 1) := by decide +kernel
theorem dX12_unbind_14 : decode cX12_unbind 14 = .ok (.if_icmp .gt 16, 3) := by decide +kernel
theorem dX12_unbind_17 : decode cX12_unbind 17 = .ok (.aload_n 0, 1) := by decide +kernel
theorem dX12_unbind_18 : decode cX12_unbind 18 = .ok (.getfield 91, 3) := by decide +kernel
theorem dX12_unbind_21 : decode cX12_unbind 21 = .ok (.iload_n 2, 1) := by decide +kernel
theorem dX12_unbind_22 : decode cX12_unbind 22 = .ok (.iconst 0, 1) := by decide +kernel
theorem dX12_unbind_23 : decode cX12_unbind 23 = .ok (.bastore, 1) := by decide +kernel
theorem dX12_unbind_24 : decode cX12_unbind 24 = .ok (.iinc 2 1, 3) := by decide +kernel
theorem dX12_unbind_27 : decode cX12_unbind 27 = .ok (.goto (-20), 3) := by decide +kernel
set_option maxHeartbeats 4000000 in
set_option maxRecDepth 20000 in
theorem l_unb1 (d : Nat) {b : Nat} {σ0 : MS} {r : Int} {post : Option Value → MS → Prop} (hr : 0 ≤ r ∧ r < 6) (hR0 : RG σ0) (hit : 0 ≤ σ0.2.1 9 r ∧ σ0.2.1 9 r ≤ 220) (hx_30 : ∀ (k : Int) (σ : MS) , (Fr [] [47] [] σ0 σ) → (RG σ) → (BO 47 σ) → Tm (d + 1) m_X12_unbind 30 b σ [(2, .int (iI k)), (0, .ref b), (1, .int (iI r))] [] post) : ∀ (n : Nat) (k : Int) (σ : MS) , (Fr [] [47] [] σ0 σ) → (RG σ) → (0 ≤ k ∧ k ≤ 221) → (BO 47 σ) → (221 - k).toNat = n → Tm (d + 1) m_X12_unbind 7 b σ [(2, .int (iI k)), (0, .ref b), (1, .int (iI r))] [] post := by
  intro n
  induction n using Nat.strongRecOn with
  | _ n ih =>
    intro k σ hF hR h0 hbo hm
    refine tm_iload_n dX12_unbind_7 rfl 0 rfl ?_
    refine tm_aload_n dX12_unbind_8 rfl 1 rfl ?_
    refine tm_get (k := 9) (v := .ref (b + 1 + 7)) lay_12 dX12_unbind_9 (by decide) fl12_32 rfl ?_
    refine tm_iload_n dX12_unbind_12 rfl 2 rfl ?_
    refine tm_iald (z := r) (v := σ0.2.1 9 r) dX12_unbind_13 (show mT[7]? = some (9, 0, 13) from rfl) (by omega) (by omega) (by decide) (ra_F hF (by decide) (rfl)) ?_
    have g1 := RG.a hR0 9 (r)
    refine tm_icmp_gt (tgt := 30) dX12_unbind_14 (by decide) ⟨by omega, by omega⟩ ⟨by omega, by omega⟩ (fun h2 => ?_) (fun h2 => ?_)
    · exact tm_sub [0, 1, 2] rfl (hx_30 (k) σ (Fr.rfl.trans (Fr.sub hF (by decide) (by decide) (by decide))) hR hbo)
    · refine tm_aload_n dX12_unbind_17 rfl 1 rfl ?_
      refine tm_get (k := 47) (v := .ref (b + 1 + 25)) lay_12 dX12_unbind_18 (by decide) fl12_91 rfl ?_
      refine tm_iload_n dX12_unbind_21 rfl 0 rfl ?_
      refine tm_iconst dX12_unbind_22 ?_
      refine tm_zast (z := k) (v := 0) dX12_unbind_23 (show mT[25]? = some (47, 2, 221) from rfl) (by omega) (by omega) (by decide) (by omega) ?_
      refine tm_iinc (q0 := 0) (L' := [(2, .int (iI (k + 1))), (0, .ref b), (1, .int (iI r))]) dX12_unbind_24 rfl (by decide) rfl ?_
      refine tm_goto (tgt := 7) dX12_unbind_27 (by decide) ?_
      exact tm_sub [0, 1, 2] rfl (ih _ (by omega) (k + 1) (sA 47 (k) (0) σ) ((Fr.rfl.trans (Fr.sub hF (by decide) (by decide) (by decide))).A (by decide)) (hR.A (by omega)) (by omega) (hbo.A (by omega)) rfl)
theorem dX12_unbind_32 : decode cX12_unbind 32 = .ok (.iload_n 2, 1) := by decide +kernel
theorem dX12_unbind_33 : decode cX12_unbind 33 = .ok (.sipush 192, 3) := by decide +kernel
theorem dX12_unbind_36 : decode cX12_unbind 36 = .ok (.if_icmp .ge 16, 3) := by decide +kernel
theorem dX12_unbind_39 : decode cX12_unbind 39 = .ok (.aload_n 0, 1) := by decide +kernel
theorem dX12_unbind_40 : decode cX12_unbind 40 = .ok (.getfield 149, 3) := by decide +kernel
theorem dX12_unbind_43 : decode cX12_unbind 43 = .ok (.iload_n 2, 1) := by decide +kernel
theorem dX12_unbind_44 : decode cX12_unbind 44 = .ok (.iconst (-1), 1) := by decide +kernel
theorem dX12_unbind_45 : decode cX12_unbind 45 = .ok (.iastore, 1) := by decide +kernel
theorem dX12_unbind_46 : decode cX12_unbind 46 = .ok (.iinc 2 1, 3) := by decide +kernel
theorem dX12_unbind_49 : decode cX12_unbind 49 = .ok (.goto (-17), 3) := by decide +kernel
set_option maxHeartbeats 4000000 in
set_option maxRecDepth 20000 in
theorem l_unb2 (d : Nat) {b : Nat} {σ0 : MS} {r : Int} {post : Option Value → MS → Prop} (hx_52 : ∀ (g : Int) (σ : MS) , (Fr [] [66] [] σ0 σ) → (RG σ) → Tm (d + 1) m_X12_unbind 52 b σ [(2, .int (iI g)), (0, .ref b), (1, .int (iI r))] [] post) : ∀ (n : Nat) (g : Int) (σ : MS) , (Fr [] [66] [] σ0 σ) → (RG σ) → (0 ≤ g ∧ g ≤ 192) → (192 - g).toNat = n → Tm (d + 1) m_X12_unbind 32 b σ [(2, .int (iI g)), (0, .ref b), (1, .int (iI r))] [] post := by
  intro n
  induction n using Nat.strongRecOn with
  | _ n ih =>
    intro g σ hF hR h0 hm
    refine tm_iload_n dX12_unbind_32 rfl 0 rfl ?_
    refine tm_sipush dX12_unbind_33 (by decide) ?_
    refine tm_icmp_ge (tgt := 52) dX12_unbind_36 (by decide) ⟨by omega, by omega⟩ ⟨by decide, by decide⟩ (fun h1 => ?_) (fun h1 => ?_)
    · exact tm_sub [0, 1, 2] rfl (hx_52 (g) σ (Fr.rfl.trans (Fr.sub hF (by decide) (by decide) (by decide))) hR)
    · refine tm_aload_n dX12_unbind_39 rfl 1 rfl ?_
      refine tm_get (k := 66) (v := .ref (b + 1 + 43)) lay_12 dX12_unbind_40 (by decide) fl12_149 rfl ?_
      refine tm_iload_n dX12_unbind_43 rfl 0 rfl ?_
      refine tm_iconst dX12_unbind_44 ?_
      refine tm_iast (z := g) (v := -1) dX12_unbind_45 (show mT[43]? = some (66, 0, 192) from rfl) (by omega) (by omega) (by decide) ?_
      refine tm_iinc (q0 := 0) (L' := [(2, .int (iI (g + 1))), (0, .ref b), (1, .int (iI r))]) dX12_unbind_46 rfl (by decide) rfl ?_
      refine tm_goto (tgt := 32) dX12_unbind_49 (by decide) ?_
      exact tm_sub [0, 1, 2] rfl (ih _ (by omega) (g + 1) (sA 66 (g) (-1) σ) ((Fr.rfl.trans (Fr.sub hF (by decide) (by decide) (by decide))).A (by decide)) (hR.A (by omega)) (by omega) rfl)
theorem ml12_521 : Cond.methodLink RX12 521 yX12_isAtBegin ∈ pWW := pw9 (List.mem_of_getElem? (i := 213) rfl) rfl
theorem fl12_143 : Cond.fieldLink RX12 143 (TX12 64).1 (TX12 64).2.1 (TX12 64).2.2.1 ∈ pWW := pw7 (List.mem_of_getElem? (i := 71) rfl) rfl
theorem dX12_unbind_54 : decode cX12_unbind 54 = .ok (.iload_n 2, 1) := by decide +kernel
theorem dX12_unbind_55 : decode cX12_unbind 55 = .ok (.sipush 192, 3) := by decide +kernel
theorem dX12_unbind_58 : decode cX12_unbind 58 = .ok (.if_icmp .ge 30, 3) := by decide +kernel
theorem dX12_unbind_61 : decode cX12_unbind 61 = .ok (.aload_n 0, 1) := by decide +kernel
theorem dX12_unbind_62 : decode cX12_unbind 62 = .ok (.iload_n 1, 1) := by decide +kernel
theorem dX12_unbind_63 : decode cX12_unbind 63 = .ok (.iload_n 2, 1) := by decide +kernel
theorem dX12_unbind_64 : decode cX12_unbind 64 = .ok (.invokevirtual 521, 3) := by decide +kernel
theorem dX12_unbind_67 : decode cX12_unbind 67 = .ok (.ifCond .eq 15, 3) := by decide +kernel
theorem dX12_unbind_82 : decode cX12_unbind 82 = .ok (.iinc 2 1, 3) := by decide +kernel
theorem dX12_unbind_85 : decode cX12_unbind 85 = .ok (.goto (-31), 3) := by decide +kernel
theorem dX12_unbind_70 : decode cX12_unbind 70 = .ok (.aload_n 0, 1) := by decide +kernel
theorem dX12_unbind_71 : decode cX12_unbind 71 = .ok (.getfield 149, 3) := by decide +kernel
theorem dX12_unbind_74 : decode cX12_unbind 74 = .ok (.aload_n 0, 1) := by decide +kernel
theorem dX12_unbind_75 : decode cX12_unbind 75 = .ok (.getfield 143, 3) := by decide +kernel
theorem dX12_unbind_78 : decode cX12_unbind 78 = .ok (.iload_n 2, 1) := by decide +kernel
theorem dX12_unbind_79 : decode cX12_unbind 79 = .ok (.iaload, 1) := by decide +kernel
theorem dX12_unbind_80 : decode cX12_unbind 80 = .ok (.iload_n 2, 1) := by decide +kernel
theorem dX12_unbind_81 : decode cX12_unbind 81 = .ok (.iastore, 1) := by decide +kernel
set_option maxHeartbeats 4000000 in
set_option maxRecDepth 20000 in
theorem l_unb3 (d : Nat) {b : Nat} {σ0 : MS} {r : Int} {post : Option Value → MS → Prop} (hr : 0 ≤ r ∧ r < 6) (hR0 : RG σ0) (hpar : PAR σ0) (hbl : BO 59 σ0) (hnu : NUM σ0) (hx_88 : ∀ (g : Int) (σ : MS) , (Fr [] [66] [] σ0 σ) → (RG σ) → Tm (d + 3) m_X12_unbind 88 b σ [(2, .int (iI g)), (0, .ref b), (1, .int (iI r))] [] post) : ∀ (n : Nat) (g : Int) (σ : MS) , (Fr [] [66] [] σ0 σ) → (RG σ) → (0 ≤ g ∧ g ≤ 192) → (192 - g).toNat = n → Tm (d + 3) m_X12_unbind 54 b σ [(2, .int (iI g)), (0, .ref b), (1, .int (iI r))] [] post := by
  intro n
  induction n using Nat.strongRecOn with
  | _ n ih =>
    intro g σ hF hR h0 hm
    refine tm_iload_n dX12_unbind_54 rfl 0 rfl ?_
    refine tm_sipush dX12_unbind_55 (by decide) ?_
    refine tm_icmp_ge (tgt := 88) dX12_unbind_58 (by decide) ⟨by omega, by omega⟩ ⟨by decide, by decide⟩ (fun h1 => ?_) (fun h1 => ?_)
    · exact tm_sub [0, 1, 2] rfl (hx_88 (g) σ (Fr.rfl.trans (Fr.sub hF (by decide) (by decide) (by decide))) hR)
    · refine tm_aload_n dX12_unbind_61 rfl 1 rfl ?_
      refine tm_iload_n dX12_unbind_62 rfl 2 rfl ?_
      refine tm_iload_n dX12_unbind_63 rfl 0 rfl ?_
      refine tm_callV (M := m_X12_unbind) (pc := 64) (ix := 521) (M' := m_X12_isAtBegin) (As := [.int (iI r), .int (iI g)]) (rest := []) dX12_unbind_64 ok_X12_isAtBegin im_X12_isAtBegin se_X12_isAtBegin ml12_521 np_X12_isAtBegin rfl rfl (Nat.le_of_ble_eq_true rfl) (Nat.le_of_ble_eq_true rfl) rfl (c_X12_isAtBegin (d) (σ := σ) (r := r) (g := g) (by omega) hR (hpar.fr hF (by decide)) (hbl.fr hF (by decide)) (by omega)) (fun r2 σ3 hp => ?_)
      obtain ⟨v4, rfl, rfl, f5⟩ := hp
      show Tm _ _ 67 b σ [(2, .int (iI g)), (0, .ref b), (1, .int (iI r))] [.int (iI v4)] _
      refine tm_if_eq (tgt := 82) dX12_unbind_67 (by decide) ⟨by omega, by omega⟩ (fun h6 => ?_) (fun h6 => ?_)
      · refine tm_iinc (q0 := 0) (L' := [(2, .int (iI (g + 1))), (0, .ref b), (1, .int (iI r))]) dX12_unbind_82 rfl (by decide) rfl ?_
        refine tm_goto (tgt := 54) dX12_unbind_85 (by decide) ?_
        exact tm_sub [0, 1, 2] rfl (ih _ (by omega) (g + 1) σ (Fr.rfl.trans (Fr.sub hF (by decide) (by decide) (by decide))) hR (by omega) rfl)
      · refine tm_aload_n dX12_unbind_70 rfl 1 rfl ?_
        refine tm_get (k := 66) (v := .ref (b + 1 + 43)) lay_12 dX12_unbind_71 (by decide) fl12_149 rfl ?_
        refine tm_aload_n dX12_unbind_74 rfl 1 rfl ?_
        refine tm_get (k := 64) (v := .ref (b + 1 + 41)) lay_12 dX12_unbind_75 (by decide) fl12_143 rfl ?_
        refine tm_iload_n dX12_unbind_78 rfl 0 rfl ?_
        refine tm_iald (z := g) (v := σ0.2.1 64 g) dX12_unbind_79 (show mT[41]? = some (64, 0, 192) from rfl) (by omega) (by omega) (by decide) (ra_F hF (by decide) (rfl)) ?_
        have g7 := RG.a hR0 64 (g)
        have := hnu (g) (by omega) (by omega)
        refine tm_iload_n dX12_unbind_80 rfl 0 rfl ?_
        refine tm_iast (z := σ0.2.1 64 g) (v := g) dX12_unbind_81 (show mT[43]? = some (66, 0, 192) from rfl) (by omega) (by omega) (by decide) ?_
        refine tm_iinc (q0 := 0) (L' := [(2, .int (iI (g + 1))), (0, .ref b), (1, .int (iI r))]) dX12_unbind_82 rfl (by decide) rfl ?_
        refine tm_goto (tgt := 54) dX12_unbind_85 (by decide) ?_
        exact tm_sub [0, 1, 2] rfl (ih _ (by omega) (g + 1) (sA 66 (σ0.2.1 64 g) (g) σ) ((Fr.rfl.trans (Fr.sub hF (by decide) (by decide) (by decide))).A (by decide)) (hR.A (by omega)) (by omega) rfl)
theorem ml12_533 : Cond.methodLink RX12 533 yX12_comesLast ∈ pWW := pw9 (List.mem_of_getElem? (i := 225) rfl) rfl
theorem dX12_unbind_209 : decode cX12_unbind 209 = .ok (.iload 5, 2) := by decide +kernel
theorem dX12_unbind_211 : decode cX12_unbind 211 = .ok (.iconst 2, 1) := by decide +kernel
theorem dX12_unbind_212 : decode cX12_unbind 212 = .ok (.if_icmp .ge 42, 3) := by decide +kernel
theorem dX12_unbind_215 : decode cX12_unbind 215 = .ok (.aload_n 0, 1) := by decide +kernel
theorem dX12_unbind_216 : decode cX12_unbind 216 = .ok (.iload_n 1, 1) := by decide +kernel
theorem dX12_unbind_217 : decode cX12_unbind 217 = .ok (.iload_n 3, 1) := by decide +kernel
theorem dX12_unbind_218 : decode cX12_unbind 218 = .ok (.iload 5, 2) := by decide +kernel
theorem dX12_unbind_220 : decode cX12_unbind 220 = .ok (.invokevirtual 413, 3) := by decide +kernel
theorem dX12_unbind_223 : decode cX12_unbind 223 = .ok (.istore 6, 2) := by decide +kernel
theorem dX12_unbind_225 : decode cX12_unbind 225 = .ok (.iload_n 2, 1) := by decide +kernel
theorem dX12_unbind_226 : decode cX12_unbind 226 = .ok (.iload 6, 2) := by decide +kernel
theorem dX12_unbind_228 : decode cX12_unbind 228 = .ok (.iconst (-1), 1) := by decide +kernel
theorem dX12_unbind_229 : decode cX12_unbind 229 = .ok (.if_icmp .eq 16, 3) := by decide +kernel
theorem dX12_unbind_245 : decode cX12_unbind 245 = .ok (.iconst 0, 1) := by decide +kernel
theorem dX12_unbind_246 : decode cX12_unbind 246 = .ok (.ior, 1) := by decide +kernel
theorem dX12_unbind_247 : decode cX12_unbind 247 = .ok (.istore_n 2, 1) := by decide +kernel
theorem dX12_unbind_248 : decode cX12_unbind 248 = .ok (.iinc 5 1, 3) := by decide +kernel
theorem dX12_unbind_251 : decode cX12_unbind 251 = .ok (.goto (-42), 3) := by decide +kernel
theorem dX12_unbind_232 : decode cX12_unbind 232 = .ok (.aload_n 0, 1) := by decide +kernel
theorem dX12_unbind_233 : decode cX12_unbind 233 = .ok (.iload 6, 2) := by decide +kernel
theorem dX12_unbind_235 : decode cX12_unbind 235 = .ok (.invokevirtual 533, 3) := by decide +kernel
theorem dX12_unbind_238 : decode cX12_unbind 238 = .ok (.ifCond .eq 7, 3) := by decide +kernel
theorem dX12_unbind_241 : decode cX12_unbind 241 = .ok (.iconst 1, 1) := by decide +kernel
theorem dX12_unbind_242 : decode cX12_unbind 242 = .ok (.goto 4, 3) := by decide +kernel
set_option maxHeartbeats 4000000 in
set_option maxRecDepth 20000 in
theorem l_unb7 (d : Nat) {b : Nat} {σ0 : MS} {r : Int} {F : Int} {m : Int} {k : Int} {C0 : Int} {post : Option Value → MS → Prop} (hr : 0 ≤ r ∧ r < 6) (hR0 : RG σ0) (hit : ITM σ0) (hok : OKS σ0 F r) (htg : TGT σ0 r) (hnu : NUM σ0) (hm : m = σ0.2.1 9 r) (hk : 0 ≤ k ∧ k < m) (hx_254 : ∀ (w : Int) (i : Int) (σ : MS) , (Fr [] [47, 65] [] σ0 σ) → (RG σ) → (w = 0 ∨ w = 1) → (BO 47 σ) → (193 * (cz (σ.2.1 47) 221 : Int) + (cr (σ.2.1 47) (σ.2.1 65) 221 : Int) + w ≤ C0) → Tm (d + 3) m_X12_unbind 254 b σ [(5, .int (iI i)), (3, .int (iI k)), (2, .int (iI w)), (0, .ref b), (1, .int (iI r))] [] post) : ∀ (n : Nat) (w : Int) (i : Int) (σ : MS) , (Fr [] [47, 65] [] σ0 σ) → (RG σ) → ((w = 0 ∨ w = 1) ∧ 0 ≤ i ∧ i ≤ 2) → (BO 47 σ) → (193 * (cz (σ.2.1 47) 221 : Int) + (cr (σ.2.1 47) (σ.2.1 65) 221 : Int) + w ≤ C0) → (2 - i).toNat = n → Tm (d + 3) m_X12_unbind 209 b σ [(5, .int (iI i)), (3, .int (iI k)), (2, .int (iI w)), (0, .ref b), (1, .int (iI r))] [] post := by
  intro n
  induction n using Nat.strongRecOn with
  | _ n ih =>
    intro w i σ hF hR h0 hbo hcn hm
    have hit1 := hit.fr hF (by decide)
    have hok1 := hok.fr hF (by decide)
    have htg1 := htg.fr hF (by decide)
    have hnu1 := hnu.fr hF (by decide)
    have q1 := hit r (by omega) (by omega)
    have q9 : σ.2.1 9 r = σ0.2.1 9 r := by rw [hF.2.1 9 (by decide)]
    have q5 := htg1 k (by omega) (by omega)
    refine tm_iload dX12_unbind_209 0 rfl ?_
    refine tm_iconst dX12_unbind_211 ?_
    refine tm_icmp_ge (tgt := 254) dX12_unbind_212 (by decide) ⟨by omega, by omega⟩ ⟨by decide, by decide⟩ (fun h1 => ?_) (fun h1 => ?_)
    · exact tm_sub [0, 1, 2, 3, 4] rfl (hx_254 (w) (i) σ (Fr.rfl.trans (Fr.sub hF (by decide) (by decide) (by decide))) hR (by omega) hbo hcn)
    · refine tm_aload_n dX12_unbind_215 rfl 3 rfl ?_
      refine tm_iload_n dX12_unbind_216 rfl 4 rfl ?_
      refine tm_iload_n dX12_unbind_217 rfl 1 rfl ?_
      refine tm_iload dX12_unbind_218 0 rfl ?_
      refine tm_callV (M := m_X12_unbind) (pc := 220) (ix := 413) (M' := m_X12_goesOn) (As := [.int (iI r), .int (iI k), .int (iI i)]) (rest := []) dX12_unbind_220 ok_X12_goesOn im_X12_goesOn se_X12_goesOn ml12_413 np_X12_goesOn rfl rfl (Nat.le_of_ble_eq_true rfl) (Nat.le_of_ble_eq_true rfl) rfl (c_X12_goesOn (d) (σ := σ) (r := r) (k := k) (how := i) (by omega) hR (by omega) (fun q => hok1.jmp _ (by omega) (by omega) (by omega)) (by omega)) (fun r2 σ3 hp => ?_)
      obtain ⟨v4, rfl, rfl, f5, f6, f7, f8⟩ := hp
      show Tm _ _ 223 b σ [(5, .int (iI i)), (3, .int (iI k)), (2, .int (iI w)), (0, .ref b), (1, .int (iI r))] [.int (iI v4)] _
      refine tm_istore (L' := [(6, .int (iI v4)), (5, .int (iI i)), (3, .int (iI k)), (2, .int (iI w)), (0, .ref b), (1, .int (iI r))]) dX12_unbind_223 (by decide) rfl ?_
      refine tm_iload_n dX12_unbind_225 rfl 3 rfl ?_
      refine tm_iload dX12_unbind_226 0 rfl ?_
      refine tm_iconst dX12_unbind_228 ?_
      refine tm_icmp_eq (tgt := 245) dX12_unbind_229 (by decide) ⟨by omega, by omega⟩ ⟨by decide, by decide⟩ (fun h9 => ?_) (fun h9 => ?_)
      · refine tm_iconst dX12_unbind_245 ?_
        refine tm_iorZ (x := w) (y := 0) dX12_unbind_246 (by omega) (by omega) (fun c10 g11 => ?_)
        refine tm_istore_n (L' := [(2, .int (iI c10)), (6, .int (iI v4)), (5, .int (iI i)), (3, .int (iI k)), (0, .ref b), (1, .int (iI r))]) dX12_unbind_247 rfl (by decide) rfl ?_
        refine tm_iinc (q0 := 2) (L' := [(5, .int (iI (i + 1))), (2, .int (iI c10)), (6, .int (iI v4)), (3, .int (iI k)), (0, .ref b), (1, .int (iI r))]) dX12_unbind_248 rfl (by decide) rfl ?_
        refine tm_goto (tgt := 209) dX12_unbind_251 (by decide) ?_
        exact tm_sub [0, 3, 1, 4, 5] rfl (ih _ (by omega) (c10) (i + 1) σ (Fr.rfl.trans (Fr.sub hF (by decide) (by decide) (by decide))) hR (by omega) (by assumption) (by omega) rfl)
      · refine tm_aload_n dX12_unbind_232 rfl 4 rfl ?_
        refine tm_iload dX12_unbind_233 0 rfl ?_
        refine tm_callV (M := m_X12_unbind) (pc := 235) (ix := 533) (M' := m_X12_comesLast) (As := [.int (iI v4)]) (rest := [.int (iI w)]) dX12_unbind_235 ok_X12_comesLast im_X12_comesLast se_X12_comesLast ml12_533 np_X12_comesLast rfl rfl (Nat.le_of_ble_eq_true rfl) (Nat.le_of_ble_eq_true rfl) rfl (c_X12_comesLast (d + 1) (σ := σ) (to := v4) hR hbo (by omega)) (fun r12 σ13 hp => ?_)
        obtain ⟨v14, rfl, f15, f16, f17, f18, f19⟩ := hp
        show Tm _ _ 238 b σ13 [(6, .int (iI v4)), (5, .int (iI i)), (3, .int (iI k)), (2, .int (iI w)), (0, .ref b), (1, .int (iI r))] [.int (iI v14), .int (iI w)] _
        refine tm_if_eq (tgt := 245) dX12_unbind_238 (by decide) ⟨by omega, by omega⟩ (fun h20 => ?_) (fun h20 => ?_)
        · refine tm_iconst dX12_unbind_245 ?_
          refine tm_iorZ (x := w) (y := 0) dX12_unbind_246 (by omega) (by omega) (fun c21 g22 => ?_)
          refine tm_istore_n (L' := [(2, .int (iI c21)), (6, .int (iI v4)), (5, .int (iI i)), (3, .int (iI k)), (0, .ref b), (1, .int (iI r))]) dX12_unbind_247 rfl (by decide) rfl ?_
          refine tm_iinc (q0 := 2) (L' := [(5, .int (iI (i + 1))), (2, .int (iI c21)), (6, .int (iI v4)), (3, .int (iI k)), (0, .ref b), (1, .int (iI r))]) dX12_unbind_248 rfl (by decide) rfl ?_
          refine tm_goto (tgt := 209) dX12_unbind_251 (by decide) ?_
          exact tm_sub [0, 3, 1, 4, 5] rfl (ih _ (by omega) (c21) (i + 1) σ13 ((Fr.rfl.trans (Fr.sub hF (by decide) (by decide) (by decide))).trans (Fr.sub f16 (by decide) (by decide) (by decide))) f17 (by omega) (by assumption) (by omega) rfl)
        · refine tm_iconst dX12_unbind_241 ?_
          refine tm_goto (tgt := 246) dX12_unbind_242 (by decide) ?_
          refine tm_iorZ (x := w) (y := 1) dX12_unbind_246 (by omega) (by omega) (fun c23 g24 => ?_)
          refine tm_istore_n (L' := [(2, .int (iI c23)), (6, .int (iI v4)), (5, .int (iI i)), (3, .int (iI k)), (0, .ref b), (1, .int (iI r))]) dX12_unbind_247 rfl (by decide) rfl ?_
          refine tm_iinc (q0 := 2) (L' := [(5, .int (iI (i + 1))), (2, .int (iI c23)), (6, .int (iI v4)), (3, .int (iI k)), (0, .ref b), (1, .int (iI r))]) dX12_unbind_248 rfl (by decide) rfl ?_
          refine tm_goto (tgt := 209) dX12_unbind_251 (by decide) ?_
          exact tm_sub [0, 3, 1, 4, 5] rfl (ih _ (by omega) (c23) (i + 1) σ13 ((Fr.rfl.trans (Fr.sub hF (by decide) (by decide) (by decide))).trans (Fr.sub f16 (by decide) (by decide) (by decide))) f17 (by omega) (by assumption) (by omega) rfl)
theorem dX12_unbind_127 : decode cX12_unbind 127 = .ok (.iload 4, 2) := by decide +kernel
theorem dX12_unbind_129 : decode cX12_unbind 129 = .ok (.sipush 192, 3) := by decide +kernel
theorem dX12_unbind_132 : decode cX12_unbind 132 = .ok (.if_icmp .ge 29, 3) := by decide +kernel
theorem dX12_unbind_135 : decode cX12_unbind 135 = .ok (.aload_n 0, 1) := by decide +kernel
theorem dX12_unbind_136 : decode cX12_unbind 136 = .ok (.getfield 149, 3) := by decide +kernel
theorem dX12_unbind_139 : decode cX12_unbind 139 = .ok (.iload 4, 2) := by decide +kernel
theorem dX12_unbind_141 : decode cX12_unbind 141 = .ok (.aload_n 0, 1) := by decide +kernel
theorem dX12_unbind_142 : decode cX12_unbind 142 = .ok (.getfield 146, 3) := by decide +kernel
theorem dX12_unbind_145 : decode cX12_unbind 145 = .ok (.sipush 192, 3) := by decide +kernel
theorem dX12_unbind_148 : decode cX12_unbind 148 = .ok (.iload_n 3, 1) := by decide +kernel
theorem dX12_unbind_149 : decode cX12_unbind 149 = .ok (.imul, 1) := by decide +kernel
theorem dX12_unbind_150 : decode cX12_unbind 150 = .ok (.iload 4, 2) := by decide +kernel
theorem dX12_unbind_152 : decode cX12_unbind 152 = .ok (.iadd, 1) := by decide +kernel
theorem dX12_unbind_153 : decode cX12_unbind 153 = .ok (.iaload, 1) := by decide +kernel
theorem dX12_unbind_154 : decode cX12_unbind 154 = .ok (.iastore, 1) := by decide +kernel
theorem dX12_unbind_155 : decode cX12_unbind 155 = .ok (.iinc 4 1, 3) := by decide +kernel
theorem dX12_unbind_158 : decode cX12_unbind 158 = .ok (.goto (-31), 3) := by decide +kernel
set_option maxHeartbeats 4000000 in
set_option maxRecDepth 20000 in
theorem l_unb6 (d : Nat) {b : Nat} {σ0 : MS} {r : Int} {k : Int} {w : Int} {post : Option Value → MS → Prop} (hR0 : RG σ0) (hk : 0 ≤ k ∧ k ≤ 219) (hx_161 : ∀ (g : Int) (σ : MS) , (Fr [] [66] [] σ0 σ) → (RG σ) → Tm (d + 1) m_X12_unbind 161 b σ [(4, .int (iI g)), (3, .int (iI k)), (2, .int (iI w)), (0, .ref b), (1, .int (iI r))] [] post) : ∀ (n : Nat) (g : Int) (σ : MS) , (Fr [] [66] [] σ0 σ) → (RG σ) → (0 ≤ g ∧ g ≤ 192) → (192 - g).toNat = n → Tm (d + 1) m_X12_unbind 127 b σ [(4, .int (iI g)), (3, .int (iI k)), (2, .int (iI w)), (0, .ref b), (1, .int (iI r))] [] post := by
  intro n
  induction n using Nat.strongRecOn with
  | _ n ih =>
    intro g σ hF hR h0 hm
    refine tm_iload dX12_unbind_127 0 rfl ?_
    refine tm_sipush dX12_unbind_129 (by decide) ?_
    refine tm_icmp_ge (tgt := 161) dX12_unbind_132 (by decide) ⟨by omega, by omega⟩ ⟨by decide, by decide⟩ (fun h1 => ?_) (fun h1 => ?_)
    · exact tm_sub [0, 1, 2, 3, 4] rfl (hx_161 (g) σ (Fr.rfl.trans (Fr.sub hF (by decide) (by decide) (by decide))) hR)
    · refine tm_aload_n dX12_unbind_135 rfl 3 rfl ?_
      refine tm_get (k := 66) (v := .ref (b + 1 + 43)) lay_12 dX12_unbind_136 (by decide) fl12_149 rfl ?_
      refine tm_iload dX12_unbind_139 0 rfl ?_
      refine tm_aload_n dX12_unbind_141 rfl 3 rfl ?_
      refine tm_get (k := 65) (v := .ref (b + 1 + 42)) lay_12 dX12_unbind_142 (by decide) fl12_146 rfl ?_
      refine tm_sipush dX12_unbind_145 (by decide) ?_
      refine tm_iload_n dX12_unbind_148 rfl 1 rfl ?_
      refine tm_imul dX12_unbind_149 ?_
      refine tm_iload dX12_unbind_150 0 rfl ?_
      refine tm_iadd dX12_unbind_152 ?_
      refine tm_iald (z := (192 * k) + g) (v := σ0.2.1 65 ((192 * k) + g)) dX12_unbind_153 (show mT[42]? = some (65, 0, 42432) from rfl) (by omega) (by omega) (by decide) (ra_F hF (by decide) (rfl)) ?_
      have g2 := RG.a hR0 65 ((192 * k) + g)
      refine tm_iast (z := g) (v := σ0.2.1 65 ((192 * k) + g)) dX12_unbind_154 (show mT[43]? = some (66, 0, 192) from rfl) (by omega) (by omega) (by decide) ?_
      refine tm_iinc (q0 := 0) (L' := [(4, .int (iI (g + 1))), (3, .int (iI k)), (2, .int (iI w)), (0, .ref b), (1, .int (iI r))]) dX12_unbind_155 rfl (by decide) rfl ?_
      refine tm_goto (tgt := 127) dX12_unbind_158 (by decide) ?_
      exact tm_sub [0, 1, 2, 3, 4] rfl (ih _ (by omega) (g + 1) (sA 66 (g) (σ0.2.1 65 ((192 * k) + g)) σ) ((Fr.rfl.trans (Fr.sub hF (by decide) (by decide) (by decide))).A (by decide)) (hR.A (by omega)) (by omega) rfl)
theorem dX12_unbind_102 : decode cX12_unbind 102 = .ok (.iload_n 3, 1) := by decide +kernel
theorem dX12_unbind_103 : decode cX12_unbind 103 = .ok (.aload_n 0, 1) := by decide +kernel
theorem dX12_unbind_104 : decode cX12_unbind 104 = .ok (.getfield 32, 3) := by decide +kernel
theorem dX12_unbind_107 : decode cX12_unbind 107 = .ok (.iload_n 1, 1) := by decide +kernel
theorem dX12_unbind_108 : decode cX12_unbind 108 = .ok (.iaload, 1) := by decide +kernel
theorem dX12_unbind_109 : decode cX12_unbind 109 = .ok (.if_icmp .ge 151, 3) := by decide +kernel
theorem dX12_unbind_112 : decode cX12_unbind 112 = .ok (.aload_n 0, 1) := by decide +kernel
theorem dX12_unbind_113 : decode cX12_unbind 113 = .ok (.getfield 91, 3) := by decide +kernel
theorem dX12_unbind_116 : decode cX12_unbind 116 = .ok (.iload_n 3, 1) := by decide +kernel
theorem dX12_unbind_117 : decode cX12_unbind 117 = .ok (.baload, 1) := by decide +kernel
theorem dX12_unbind_118 : decode cX12_unbind 118 = .ok (.ifCond .ne 6, 3) := by decide +kernel
theorem dX12_unbind_124 : decode cX12_unbind 124 = .ok (.iconst 0, 1) := by decide +kernel
theorem dX12_unbind_125 : decode cX12_unbind 125 = .ok (.istore 4, 2) := by decide +kernel
theorem dX12_unbind_161 : decode cX12_unbind 161 = .ok (.aload_n 0, 1) := by decide +kernel
theorem dX12_unbind_162 : decode cX12_unbind 162 = .ok (.iload_n 1, 1) := by decide +kernel
theorem dX12_unbind_163 : decode cX12_unbind 163 = .ok (.iload_n 3, 1) := by decide +kernel
theorem dX12_unbind_164 : decode cX12_unbind 164 = .ok (.invokevirtual 203, 3) := by decide +kernel
theorem dX12_unbind_167 : decode cX12_unbind 167 = .ok (.istore 4, 2) := by decide +kernel
theorem dX12_unbind_169 : decode cX12_unbind 169 = .ok (.aload_n 0, 1) := by decide +kernel
theorem dX12_unbind_170 : decode cX12_unbind 170 = .ok (.getfield 13, 3) := by decide +kernel
theorem dX12_unbind_173 : decode cX12_unbind 173 = .ok (.iload 4, 2) := by decide +kernel
theorem dX12_unbind_175 : decode cX12_unbind 175 = .ok (.iaload, 1) := by decide +kernel
theorem dX12_unbind_176 : decode cX12_unbind 176 = .ok (.invokestatic 192, 3) := by decide +kernel
theorem dX12_unbind_179 : decode cX12_unbind 179 = .ok (.ifCond .eq 27, 3) := by decide +kernel
theorem dX12_unbind_206 : decode cX12_unbind 206 = .ok (.iconst 0, 1) := by decide +kernel
theorem dX12_unbind_207 : decode cX12_unbind 207 = .ok (.istore 5, 2) := by decide +kernel
theorem dX12_unbind_254 : decode cX12_unbind 254 = .ok (.iinc 3 1, 3) := by decide +kernel
theorem dX12_unbind_257 : decode cX12_unbind 257 = .ok (.goto (-155), 3) := by decide +kernel
theorem dX12_unbind_182 : decode cX12_unbind 182 = .ok (.aload_n 0, 1) := by decide +kernel
theorem dX12_unbind_183 : decode cX12_unbind 183 = .ok (.getfield 149, 3) := by decide +kernel
theorem dX12_unbind_186 : decode cX12_unbind 186 = .ok (.aload_n 0, 1) := by decide +kernel
theorem dX12_unbind_187 : decode cX12_unbind 187 = .ok (.getfield 143, 3) := by decide +kernel
theorem dX12_unbind_190 : decode cX12_unbind 190 = .ok (.aload_n 0, 1) := by decide +kernel
theorem dX12_unbind_191 : decode cX12_unbind 191 = .ok (.getfield 17, 3) := by decide +kernel
theorem dX12_unbind_194 : decode cX12_unbind 194 = .ok (.iload 4, 2) := by decide +kernel
theorem dX12_unbind_196 : decode cX12_unbind 196 = .ok (.iaload, 1) := by decide +kernel
theorem dX12_unbind_197 : decode cX12_unbind 197 = .ok (.iaload, 1) := by decide +kernel
theorem dX12_unbind_198 : decode cX12_unbind 198 = .ok (.aload_n 0, 1) := by decide +kernel
theorem dX12_unbind_199 : decode cX12_unbind 199 = .ok (.getfield 17, 3) := by decide +kernel
theorem dX12_unbind_202 : decode cX12_unbind 202 = .ok (.iload 4, 2) := by decide +kernel
theorem dX12_unbind_204 : decode cX12_unbind 204 = .ok (.iaload, 1) := by decide +kernel
theorem dX12_unbind_205 : decode cX12_unbind 205 = .ok (.iastore, 1) := by decide +kernel
theorem dX12_unbind_121 : decode cX12_unbind 121 = .ok (.goto 133, 3) := by decide +kernel
set_option maxHeartbeats 4000000 in
set_option maxRecDepth 20000 in
theorem l_unb5 (d : Nat) {b : Nat} {σ0 : MS} {r : Int} {F : Int} {m : Int} {C0 : Int} {post : Option Value → MS → Prop} (hr : 0 ≤ r ∧ r < 6) (hR0 : RG σ0) (hit : ITM σ0) (hok : OKS σ0 F r) (htg : TGT σ0 r) (hnu : NUM σ0) (hm : m = σ0.2.1 9 r) (hx_260 : ∀ (w : Int) (k : Int) (σ : MS) , (Fr [] [47, 65, 66] [] σ0 σ) → (RG σ) → (w = 0 ∨ w = 1) → (BO 47 σ) → (193 * (cz (σ.2.1 47) 221 : Int) + (cr (σ.2.1 47) (σ.2.1 65) 221 : Int) + w ≤ C0) → Tm (d + 3) m_X12_unbind 260 b σ [(3, .int (iI k)), (2, .int (iI w)), (0, .ref b), (1, .int (iI r))] [] post) : ∀ (n : Nat) (w : Int) (k : Int) (σ : MS) , (Fr [] [47, 65, 66] [] σ0 σ) → (RG σ) → ((w = 0 ∨ w = 1) ∧ 0 ≤ k ∧ k ≤ m) → (BO 47 σ) → (193 * (cz (σ.2.1 47) 221 : Int) + (cr (σ.2.1 47) (σ.2.1 65) 221 : Int) + w ≤ C0) → (m - k).toNat = n → Tm (d + 3) m_X12_unbind 102 b σ [(3, .int (iI k)), (2, .int (iI w)), (0, .ref b), (1, .int (iI r))] [] post := by
  intro n
  induction n using Nat.strongRecOn with
  | _ n ih =>
    intro w k σ hF hR h0 hbo hcn hm
    have hit1 := hit.fr hF (by decide)
    have hok1 := hok.fr hF (by decide)
    have htg1 := htg.fr hF (by decide)
    have hnu1 := hnu.fr hF (by decide)
    have q1 := hit r (by omega) (by omega)
    have q9 : σ.2.1 9 r = σ0.2.1 9 r := by rw [hF.2.1 9 (by decide)]
    refine tm_iload_n dX12_unbind_102 rfl 0 rfl ?_
    refine tm_aload_n dX12_unbind_103 rfl 2 rfl ?_
    refine tm_get (k := 9) (v := .ref (b + 1 + 7)) lay_12 dX12_unbind_104 (by decide) fl12_32 rfl ?_
    refine tm_iload_n dX12_unbind_107 rfl 3 rfl ?_
    refine tm_iald (z := r) (v := σ0.2.1 9 r) dX12_unbind_108 (show mT[7]? = some (9, 0, 13) from rfl) (by omega) (by omega) (by decide) (ra_F hF (by decide) (rfl)) ?_
    have g1 := RG.a hR0 9 (r)
    refine tm_icmp_ge (tgt := 260) dX12_unbind_109 (by decide) ⟨by omega, by omega⟩ ⟨by omega, by omega⟩ (fun h2 => ?_) (fun h2 => ?_)
    · exact tm_sub [0, 1, 2, 3] rfl (hx_260 (w) (k) σ (Fr.rfl.trans (Fr.sub hF (by decide) (by decide) (by decide))) hR (by omega) hbo hcn)
    · refine tm_aload_n dX12_unbind_112 rfl 2 rfl ?_
      refine tm_get (k := 47) (v := .ref (b + 1 + 25)) lay_12 dX12_unbind_113 (by decide) fl12_91 rfl ?_
      refine tm_iload_n dX12_unbind_116 rfl 0 rfl ?_
      refine tm_zald (z := k) (v := σ.2.1 47 k) dX12_unbind_117 (show mT[25]? = some (47, 2, 221) from rfl) (by omega) (by omega) (by decide) (rfl) ?_
      have g3 := RG.a hR 47 (k)
      have := hbo (k)
      refine tm_if_ne (tgt := 124) dX12_unbind_118 (by decide) ⟨by omega, by omega⟩ (fun h4 => ?_) (fun h4 => ?_)
      · refine tm_iconst dX12_unbind_124 ?_
        refine tm_istore (L' := [(4, .int (iI 0)), (3, .int (iI k)), (2, .int (iI w)), (0, .ref b), (1, .int (iI r))]) dX12_unbind_125 (by decide) rfl ?_
        refine tm_sub [0, 1, 2, 3, 4] rfl (l_unb6 (d + 2) (σ0 := σ) (r := r) (k := k) (w := w) hR (by omega) (fun g9 σ10 F7 R8 => ?_) _ (0) σ Fr.rfl hR (by omega) rfl)
        show Tm _ _ 161 b σ10 [(4, .int (iI g9)), (3, .int (iI k)), (2, .int (iI w)), (0, .ref b), (1, .int (iI r))] [] _
        refine tm_aload_n dX12_unbind_161 rfl 3 rfl ?_
        refine tm_iload_n dX12_unbind_162 rfl 4 rfl ?_
        refine tm_iload_n dX12_unbind_163 rfl 1 rfl ?_
        refine tm_callV (M := m_X12_unbind) (pc := 164) (ix := 203) (M' := m_X12_at) (As := [.int (iI r), .int (iI k)]) (rest := []) dX12_unbind_164 ok_X12_at im_X12_at se_X12_at ml12_203 np_X12_at rfl rfl (Nat.le_of_ble_eq_true rfl) (Nat.le_of_ble_eq_true rfl) rfl (c_X12_at (d + 1) (σ := σ10) (x := r) (k := k) ) (fun r11 σ12 hp => ?_)
        obtain ⟨v13, rfl, rfl, f14⟩ := hp
        subst f14
        show Tm _ _ 167 b σ10 [(4, .int (iI g9)), (3, .int (iI k)), (2, .int (iI w)), (0, .ref b), (1, .int (iI r))] [.int (iI (220 * r + k))] _
        refine tm_istore (L' := [(4, .int (iI (220 * r + k))), (3, .int (iI k)), (2, .int (iI w)), (0, .ref b), (1, .int (iI r))]) dX12_unbind_167 (by decide) rfl ?_
        refine tm_aload_n dX12_unbind_169 rfl 3 rfl ?_
        refine tm_get (k := 3) (v := .ref (b + 1 + 1)) lay_12 dX12_unbind_170 (by decide) fl12_13 rfl ?_
        refine tm_iload dX12_unbind_173 0 rfl ?_
        refine tm_iald (z := 220 * r + k) (v := σ0.2.1 3 (220 * r + k)) dX12_unbind_175 (show mT[1]? = some (3, 0, 2860) from rfl) (by omega) (by omega) (by decide) (ra_F F7 (by decide) (ra_F hF (by decide) (rfl))) ?_
        have g15 := RG.a hR0 3 (220 * r + k)
        refine tm_callS (M := m_X12_unbind) (pc := 176) (ix := 192) (M' := m_X12_writes) (As := [.int (iI (σ0.2.1 3 (220 * r + k)))]) (rest := []) dX12_unbind_176 ok_X12_writes stt_X12_writes ml12_192 np_X12_writes rfl (Nat.le_of_ble_eq_true rfl) (Nat.le_of_ble_eq_true rfl) rfl (c_X12_writes (d + 1) (σ := σ10) (x := σ0.2.1 3 (220 * r + k)) (by omega)) (fun r16 σ17 hp => ?_)
        obtain ⟨v18, rfl, rfl, f19, f20⟩ := hp
        show Tm _ _ 179 b σ10 [(4, .int (iI (220 * r + k))), (3, .int (iI k)), (2, .int (iI w)), (0, .ref b), (1, .int (iI r))] [.int (iI v18)] _
        refine tm_if_eq (tgt := 206) dX12_unbind_179 (by decide) ⟨by omega, by omega⟩ (fun h21 => ?_) (fun h21 => ?_)
        · refine tm_iconst dX12_unbind_206 ?_
          refine tm_istore (L' := [(5, .int (iI 0)), (4, .int (iI (220 * r + k))), (3, .int (iI k)), (2, .int (iI w)), (0, .ref b), (1, .int (iI r))]) dX12_unbind_207 (by decide) rfl ?_
          refine tm_sub [0, 2, 3, 4, 5] rfl (l_unb7 (d) (σ0 := σ10) (r := r) (k := k) (F := F) (m := m) (C0 := C0) hr R8 (hit.fr (show Fr [] [47, 65, 66] [] σ0 σ10 from ((Fr.rfl.trans (Fr.sub hF (by decide) (by decide) (by decide))).trans (Fr.sub F7 (by decide) (by decide) (by decide)))) (by decide)) (hok.fr (show Fr [] [47, 65, 66] [] σ0 σ10 from ((Fr.rfl.trans (Fr.sub hF (by decide) (by decide) (by decide))).trans (Fr.sub F7 (by decide) (by decide) (by decide)))) (by decide)) (htg.fr (show Fr [] [47, 65, 66] [] σ0 σ10 from ((Fr.rfl.trans (Fr.sub hF (by decide) (by decide) (by decide))).trans (Fr.sub F7 (by decide) (by decide) (by decide)))) (by decide)) (hnu.fr (show Fr [] [47, 65, 66] [] σ0 σ10 from ((Fr.rfl.trans (Fr.sub hF (by decide) (by decide) (by decide))).trans (Fr.sub F7 (by decide) (by decide) (by decide)))) (by decide)) (by rw [((show Fr [] [47, 65, 66] [] σ0 σ10 from ((Fr.rfl.trans (Fr.sub hF (by decide) (by decide) (by decide))).trans (Fr.sub F7 (by decide) (by decide) (by decide))))).2.1 9 (by decide)]; omega) (by omega) (fun w30 i31 σ32 F25 R26 f27 f28 f29 => ?_) _ (w) (0) σ10 Fr.rfl R8 (by omega) (hbo.fr (show Fr [] [66] [] σ σ10 from (Fr.rfl.trans (Fr.sub F7 (by decide) (by decide) (by decide)))) (by decide)) (by rw [((show Fr [] [66] [] σ σ10 from (Fr.rfl.trans (Fr.sub F7 (by decide) (by decide) (by decide))))).2.1 47 (by decide), ((show Fr [] [66] [] σ σ10 from (Fr.rfl.trans (Fr.sub F7 (by decide) (by decide) (by decide))))).2.1 65 (by decide)]; omega) rfl)
          show Tm _ _ 254 b σ32 [(5, .int (iI i31)), (3, .int (iI k)), (2, .int (iI w30)), (0, .ref b), (1, .int (iI r))] [] _
          refine tm_iinc (q0 := 1) (L' := [(3, .int (iI (k + 1))), (5, .int (iI i31)), (2, .int (iI w30)), (0, .ref b), (1, .int (iI r))]) dX12_unbind_254 rfl (by decide) rfl ?_
          refine tm_goto (tgt := 102) dX12_unbind_257 (by decide) ?_
          exact tm_sub [0, 2, 3, 4] rfl (ih _ (by omega) (w30) (k + 1) σ32 (((Fr.rfl.trans (Fr.sub hF (by decide) (by decide) (by decide))).trans (Fr.sub F7 (by decide) (by decide) (by decide))).trans (Fr.sub F25 (by decide) (by decide) (by decide))) R26 (by omega) (by assumption) (by omega) rfl)
        · have q6 := hok.dest (k := k) (by omega) (by omega) (by omega)
          refine tm_aload_n dX12_unbind_182 rfl 3 rfl ?_
          refine tm_get (k := 66) (v := .ref (b + 1 + 43)) lay_12 dX12_unbind_183 (by decide) fl12_149 rfl ?_
          refine tm_aload_n dX12_unbind_186 rfl 3 rfl ?_
          refine tm_get (k := 64) (v := .ref (b + 1 + 41)) lay_12 dX12_unbind_187 (by decide) fl12_143 rfl ?_
          refine tm_aload_n dX12_unbind_190 rfl 3 rfl ?_
          refine tm_get (k := 4) (v := .ref (b + 1 + 2)) lay_12 dX12_unbind_191 (by decide) fl12_17 rfl ?_
          refine tm_iload dX12_unbind_194 0 rfl ?_
          refine tm_iald (z := 220 * r + k) (v := σ0.2.1 4 (220 * r + k)) dX12_unbind_196 (show mT[2]? = some (4, 0, 2860) from rfl) (by omega) (by omega) (by decide) (ra_F F7 (by decide) (ra_F hF (by decide) (rfl))) ?_
          have g33 := RG.a hR0 4 (220 * r + k)
          refine tm_iald (z := σ0.2.1 4 (220 * r + k)) (v := σ0.2.1 64 (σ0.2.1 4 (220 * r + k))) dX12_unbind_197 (show mT[41]? = some (64, 0, 192) from rfl) (by omega) (by omega) (by decide) (ra_F F7 (by decide) (ra_F hF (by decide) (rfl))) ?_
          have g34 := RG.a hR0 64 (σ0.2.1 4 (220 * r + k))
          have := hnu (σ0.2.1 4 (220 * r + k)) (by omega) (by omega)
          refine tm_aload_n dX12_unbind_198 rfl 3 rfl ?_
          refine tm_get (k := 4) (v := .ref (b + 1 + 2)) lay_12 dX12_unbind_199 (by decide) fl12_17 rfl ?_
          refine tm_iload dX12_unbind_202 0 rfl ?_
          refine tm_iald (z := 220 * r + k) (v := σ0.2.1 4 (220 * r + k)) dX12_unbind_204 (show mT[2]? = some (4, 0, 2860) from rfl) (by omega) (by omega) (by decide) (ra_F F7 (by decide) (ra_F hF (by decide) (rfl))) ?_
          have g35 := RG.a hR0 4 (220 * r + k)
          refine tm_iast (z := σ0.2.1 64 (σ0.2.1 4 (220 * r + k))) (v := σ0.2.1 4 (220 * r + k)) dX12_unbind_205 (show mT[43]? = some (66, 0, 192) from rfl) (by omega) (by omega) (by decide) ?_
          refine tm_iconst dX12_unbind_206 ?_
          refine tm_istore (L' := [(5, .int (iI 0)), (4, .int (iI (220 * r + k))), (3, .int (iI k)), (2, .int (iI w)), (0, .ref b), (1, .int (iI r))]) dX12_unbind_207 (by decide) rfl ?_
          refine tm_sub [0, 2, 3, 4, 5] rfl (l_unb7 (d) (σ0 := (sA 66 (σ0.2.1 64 (σ0.2.1 4 (220 * r + k))) (σ0.2.1 4 (220 * r + k)) σ10)) (r := r) (k := k) (F := F) (m := m) (C0 := C0) hr (R8.A (by omega)) (hit.fr (show Fr [] [47, 65, 66] [] σ0 (sA 66 (σ0.2.1 64 (σ0.2.1 4 (220 * r + k))) (σ0.2.1 4 (220 * r + k)) σ10) from (((Fr.rfl.trans (Fr.sub hF (by decide) (by decide) (by decide))).trans (Fr.sub F7 (by decide) (by decide) (by decide))).A (by decide))) (by decide)) (hok.fr (show Fr [] [47, 65, 66] [] σ0 (sA 66 (σ0.2.1 64 (σ0.2.1 4 (220 * r + k))) (σ0.2.1 4 (220 * r + k)) σ10) from (((Fr.rfl.trans (Fr.sub hF (by decide) (by decide) (by decide))).trans (Fr.sub F7 (by decide) (by decide) (by decide))).A (by decide))) (by decide)) (htg.fr (show Fr [] [47, 65, 66] [] σ0 (sA 66 (σ0.2.1 64 (σ0.2.1 4 (220 * r + k))) (σ0.2.1 4 (220 * r + k)) σ10) from (((Fr.rfl.trans (Fr.sub hF (by decide) (by decide) (by decide))).trans (Fr.sub F7 (by decide) (by decide) (by decide))).A (by decide))) (by decide)) (hnu.fr (show Fr [] [47, 65, 66] [] σ0 (sA 66 (σ0.2.1 64 (σ0.2.1 4 (220 * r + k))) (σ0.2.1 4 (220 * r + k)) σ10) from (((Fr.rfl.trans (Fr.sub hF (by decide) (by decide) (by decide))).trans (Fr.sub F7 (by decide) (by decide) (by decide))).A (by decide))) (by decide)) (by rw [((show Fr [] [47, 65, 66] [] σ0 (sA 66 (σ0.2.1 64 (σ0.2.1 4 (220 * r + k))) (σ0.2.1 4 (220 * r + k)) σ10) from (((Fr.rfl.trans (Fr.sub hF (by decide) (by decide) (by decide))).trans (Fr.sub F7 (by decide) (by decide) (by decide))).A (by decide)))).2.1 9 (by decide)]; omega) (by omega) (fun w44 i45 σ46 F39 R40 f41 f42 f43 => ?_) _ (w) (0) (sA 66 (σ0.2.1 64 (σ0.2.1 4 (220 * r + k))) (σ0.2.1 4 (220 * r + k)) σ10) Fr.rfl (R8.A (by omega)) (by omega) (hbo.fr (show Fr [] [66] [] σ (sA 66 (σ0.2.1 64 (σ0.2.1 4 (220 * r + k))) (σ0.2.1 4 (220 * r + k)) σ10) from ((Fr.rfl.trans (Fr.sub F7 (by decide) (by decide) (by decide))).A (by decide))) (by decide)) (by rw [((show Fr [] [66] [] σ (sA 66 (σ0.2.1 64 (σ0.2.1 4 (220 * r + k))) (σ0.2.1 4 (220 * r + k)) σ10) from ((Fr.rfl.trans (Fr.sub F7 (by decide) (by decide) (by decide))).A (by decide)))).2.1 47 (by decide), ((show Fr [] [66] [] σ (sA 66 (σ0.2.1 64 (σ0.2.1 4 (220 * r + k))) (σ0.2.1 4 (220 * r + k)) σ10) from ((Fr.rfl.trans (Fr.sub F7 (by decide) (by decide) (by decide))).A (by decide)))).2.1 65 (by decide)]; omega) rfl)
          show Tm _ _ 254 b σ46 [(5, .int (iI i45)), (3, .int (iI k)), (2, .int (iI w44)), (0, .ref b), (1, .int (iI r))] [] _
          refine tm_iinc (q0 := 1) (L' := [(3, .int (iI (k + 1))), (5, .int (iI i45)), (2, .int (iI w44)), (0, .ref b), (1, .int (iI r))]) dX12_unbind_254 rfl (by decide) rfl ?_
          refine tm_goto (tgt := 102) dX12_unbind_257 (by decide) ?_
          exact tm_sub [0, 2, 3, 4] rfl (ih _ (by omega) (w44) (k + 1) σ46 ((((Fr.rfl.trans (Fr.sub hF (by decide) (by decide) (by decide))).trans (Fr.sub F7 (by decide) (by decide) (by decide))).A (by decide)).trans (Fr.sub F39 (by decide) (by decide) (by decide))) R40 (by omega) (by assumption) (by omega) rfl)
      · refine tm_goto (tgt := 254) dX12_unbind_121 (by decide) ?_
        refine tm_iinc (q0 := 0) (L' := [(3, .int (iI (k + 1))), (2, .int (iI w)), (0, .ref b), (1, .int (iI r))]) dX12_unbind_254 rfl (by decide) rfl ?_
        refine tm_goto (tgt := 102) dX12_unbind_257 (by decide) ?_
        exact tm_sub [0, 1, 2, 3] rfl (ih _ (by omega) (w) (k + 1) σ (Fr.rfl.trans (Fr.sub hF (by decide) (by decide) (by decide))) hR (by omega) (by assumption) (by omega) rfl)
theorem dX12_unbind_94 : decode cX12_unbind 94 = .ok (.iload_n 2, 1) := by decide +kernel
theorem dX12_unbind_95 : decode cX12_unbind 95 = .ok (.ifCond .eq 168, 3) := by decide +kernel
theorem dX12_unbind_98 : decode cX12_unbind 98 = .ok (.iconst 0, 1) := by decide +kernel
theorem dX12_unbind_99 : decode cX12_unbind 99 = .ok (.istore_n 2, 1) := by decide +kernel
theorem dX12_unbind_100 : decode cX12_unbind 100 = .ok (.iconst 0, 1) := by decide +kernel
theorem dX12_unbind_101 : decode cX12_unbind 101 = .ok (.istore_n 3, 1) := by decide +kernel
theorem dX12_unbind_260 : decode cX12_unbind 260 = .ok (.goto (-166), 3) := by decide +kernel
set_option maxHeartbeats 4000000 in
set_option maxRecDepth 20000 in
theorem l_unb4 (d : Nat) {b : Nat} {σ0 : MS} {r : Int} {F : Int} {m : Int} {post : Option Value → MS → Prop} (hr : 0 ≤ r ∧ r < 6) (hR0 : RG σ0) (hit : ITM σ0) (hok : OKS σ0 F r) (htg : TGT σ0 r) (hnu : NUM σ0) (hm : m = σ0.2.1 9 r) (hx_263 : ∀ (w : Int) (σ : MS) , (Fr [] [47, 65, 66] [] σ0 σ) → (RG σ) → (BO 47 σ) → Tm (d + 3) m_X12_unbind 263 b σ [(2, .int (iI w)), (0, .ref b), (1, .int (iI r))] [] post) : ∀ (n : Nat) (w : Int) (σ : MS) , (Fr [] [47, 65, 66] [] σ0 σ) → (RG σ) → (w = 0 ∨ w = 1) → (BO 47 σ) → (193 * (cz (σ.2.1 47) 221 : Int) + (cr (σ.2.1 47) (σ.2.1 65) 221 : Int) + w).toNat = n → Tm (d + 3) m_X12_unbind 94 b σ [(2, .int (iI w)), (0, .ref b), (1, .int (iI r))] [] post := by
  intro n
  induction n using Nat.strongRecOn with
  | _ n ih =>
    intro w σ hF hR h0 hbo hm
    have hit1 := hit.fr hF (by decide)
    have hok1 := hok.fr hF (by decide)
    have htg1 := htg.fr hF (by decide)
    have hnu1 := hnu.fr hF (by decide)
    have q1 := hit r (by omega) (by omega)
    have q9 : σ.2.1 9 r = σ0.2.1 9 r := by rw [hF.2.1 9 (by decide)]
    refine tm_iload_n dX12_unbind_94 rfl 0 rfl ?_
    refine tm_if_eq (tgt := 263) dX12_unbind_95 (by decide) ⟨by omega, by omega⟩ (fun h1 => ?_) (fun h1 => ?_)
    · exact tm_sub [0, 1, 2] rfl (hx_263 (w) σ (Fr.rfl.trans (Fr.sub hF (by decide) (by decide) (by decide))) hR hbo)
    · refine tm_iconst dX12_unbind_98 ?_
      refine tm_istore_n (L' := [(2, .int (iI 0)), (0, .ref b), (1, .int (iI r))]) dX12_unbind_99 rfl (by decide) rfl ?_
      refine tm_iconst dX12_unbind_100 ?_
      refine tm_istore_n (L' := [(3, .int (iI 0)), (2, .int (iI 0)), (0, .ref b), (1, .int (iI r))]) dX12_unbind_101 rfl (by decide) rfl ?_
      refine tm_sub [0, 1, 2, 3] rfl (l_unb5 (d) (σ0 := σ) (r := r) (F := F) (m := m) (C0 := (193 * (cz (σ.2.1 47) 221 : Int) + (cr (σ.2.1 47) (σ.2.1 65) 221 : Int))) hr hR hit1 hok1 htg1 hnu1 (by omega) (fun w10 k11 σ12 F5 R6 f7 f8 f9 => ?_) _ (0) (0) σ Fr.rfl hR (by omega) hbo (by omega) rfl)
      show Tm _ _ 260 b σ12 [(3, .int (iI k11)), (2, .int (iI w10)), (0, .ref b), (1, .int (iI r))] [] _
      refine tm_goto (tgt := 94) dX12_unbind_260 (by decide) ?_
      exact tm_sub [1, 2, 3] rfl (ih _ (by omega) (w10) σ12 ((Fr.rfl.trans (Fr.sub hF (by decide) (by decide) (by decide))).trans (Fr.sub F5 (by decide) (by decide) (by decide))) R6 (by omega) (by assumption) rfl)
