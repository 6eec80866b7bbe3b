def KNW (σ : MS) : Prop := ∀ g, (0 ≤ σ.2.1 60 g ∧ σ.2.1 60 g ≤ 2) ∧ (σ.2.1 60 g = 2 → 0 ≤ σ.2.1 61 g ∧ σ.2.1 61 g < 192)
theorem KNW.fr {ss ks js : List Nat} {σ τ : MS} (h : KNW σ) (f : Fr ss ks js σ τ) (hk : ∀ k ∈ [60, 61], k ∉ ks) : KNW τ := by
  unfold KNW
  rw [f.q hk (k := 60) (by decide), f.q hk (k := 61) (by decide)]
  exact h
theorem KNW.z {σ : MS} (h : KNW σ) {z v : Int} (hv : v = 0 ∨ v = σ.2.1 60 z) : KNW (sA 60 z v σ) := fun g => by
  rw [show (sA 60 z v σ).2.1 61 g = σ.2.1 61 g from ra_o (by decide) rfl]
  by_cases e : g = z
  · subst e
    rw [show (sA 60 g v σ).2.1 60 g = v from ra_eq]
    have := h g
    rcases hv with e | e <;> rw [e]
    · exact ⟨by omega, fun q => by omega⟩
    · exact this
  · rw [show (sA 60 z v σ).2.1 60 g = σ.2.1 60 g from ra_ne e rfl]
    exact h g
theorem KNW.kv {σ : MS} (h : KNW σ) {z k v : Int} (hk : 0 ≤ k ∧ k ≤ 2) (hv : k = 2 → 0 ≤ v ∧ v < 192) : KNW (sA 61 z v (sA 60 z k σ)) := fun g => by
  by_cases e : g = z
  · subst e
    rw [show (sA 61 g v (sA 60 g k σ)).2.1 61 g = v from ra_eq, show (sA 61 g v (sA 60 g k σ)).2.1 60 g = k from ra_o (by decide) ra_eq]
    exact ⟨hk, hv⟩
  · rw [show (sA 61 z v (sA 60 z k σ)).2.1 61 g = σ.2.1 61 g from ra_ne e (ra_o (by decide) rfl), show (sA 61 z v (sA 60 z k σ)).2.1 60 g = σ.2.1 60 g from ra_o (by decide) (ra_ne e rfl)]
    exact h g
theorem fArg_n {σ : MS} {x i k v y : Int} : nArgs (fArg x i k v σ) y = nArgs σ y := (nArgs_o (by decide)).trans (nArgs_o (by decide))
theorem oki_arg2 {σ : MS} {F x i k v : Int} (ho : OKI σ F x) (h0 : 0 ≤ i) (h1 : i < 4) (hn : i < nArgs σ x) (hk : 0 ≤ k ∧ k ≤ 2) (hv : k = 2 → 0 ≤ v ∧ v < 192) (hb : σ.2.1 3 x ≠ 12) : OKI (fArg x i k v σ) F x := by
  obtain ⟨o1, o2, o3, o4, o5, o6, o7, o8, o9⟩ := ho
  unfold OKI
  rw [fArg_n]
  refine ⟨o1, o2, o3, o4, o5, o6, o7, fun j c e => ?_, fun q => absurd q hb⟩
  by_cases hj : j = i
  · subst hj
    rw [show (fArg x j k v σ).2.1 7 (4 * x + j) = k from ra_o (by decide) ra_eq, show (fArg x j k v σ).2.1 8 (4 * x + j) = v from ra_eq]
    exact ⟨hk, fun q => ⟨hv q, hn⟩⟩
  · rw [show (fArg x i k v σ).2.1 7 (4 * x + j) = σ.2.1 7 (4 * x + j) from ra_o (by decide) (ra_ne (by omega) rfl), show (fArg x i k v σ).2.1 8 (4 * x + j) = σ.2.1 8 (4 * x + j) from ra_ne (by omega) (ra_o (by decide) rfl)]
    exact o8 j c e
/-- an item becomes COPY of one operand -/
def fCpy (x k v : Int) (σ : MS) : MS := fArg x 1 0 0 (fArg x 0 k v (sA 3 x 0 σ))
theorem fCpy_off {x k v : Int} {σ : MS} : OFF x σ (fCpy x k v σ) := ((OFF.A (by decide)).trans (OFF.arg (by decide) (by decide))).trans (OFF.arg (by decide) (by decide))
theorem fCpy_oki {x k v F : Int} {σ : MS} (ho : OKI σ F x) (hf : 1 ≤ σ.2.1 3 x ∧ σ.2.1 3 x ≤ 5) (hk : 0 ≤ k ∧ k ≤ 2) (hv : k = 2 → 0 ≤ v ∧ v < 192) : OKI (fCpy x k v σ) F x := by
  have e3 : (fCpy x k v σ).2.1 3 x = 0 := ra_o (by decide) (ra_o (by decide) (ra_o (by decide) (ra_o (by decide) ra_eq)))
  have e4 : (fCpy x k v σ).2.1 4 = σ.2.1 4 := rfl
  have e5 : (fCpy x k v σ).2.1 5 = σ.2.1 5 := rfl
  have e6 : (fCpy x k v σ).2.1 6 = σ.2.1 6 := rfl
  obtain ⟨o1, o2, o3, o4, o5, o6, o7, o8, o9⟩ := ho
  have hn : nArgs σ x = 2 := by unfold nArgs; rw [if_neg (by omega), if_neg (by omega), if_pos hf]
  have hm : nArgs (fCpy x k v σ) x = 1 := by unfold nArgs; rw [e3]; rfl
  unfold OKI
  rw [hm, e3, e4, e5]
  refine ⟨by omega, fun _ => o2 (by omega), fun q => by omega, fun q => by omega, fun q => by omega, fun q => by omega, fun q => by omega, fun i c e => ?_, fun q => by omega⟩
  have := o8 i c e
  by_cases i0 : i = 0
  · subst i0
    rw [show (fCpy x k v σ).2.1 7 (4 * x + 0) = k from ra_o (by decide) (ra_ne (by omega) (ra_o (by decide) ra_eq)), show (fCpy x k v σ).2.1 8 (4 * x + 0) = v from ra_ne (by omega) (ra_o (by decide) ra_eq)]
    exact ⟨hk, fun q => ⟨hv q, by omega⟩⟩
  · by_cases i1 : i = 1
    · subst i1
      rw [show (fCpy x k v σ).2.1 7 (4 * x + 1) = 0 from ra_o (by decide) ra_eq]
      exact ⟨by omega, fun q => by omega⟩
    · rw [show (fCpy x k v σ).2.1 7 (4 * x + i) = σ.2.1 7 (4 * x + i) from ra_o (by decide) (ra_ne (by omega) (ra_o (by decide) (ra_ne (by omega) (ra_o (by decide) rfl))))]
      exact ⟨this.1, fun q => by have := (this.2 q).2; omega⟩
/-- kinds are as they were, but that one of the five may have become COPY -/
def KC (σ τ : MS) : Prop := ∀ x, τ.2.1 3 x = σ.2.1 3 x ∨ ((1 ≤ σ.2.1 3 x ∧ σ.2.1 3 x ≤ 5) ∧ τ.2.1 3 x = 0)
theorem KC.rfl {σ : MS} : KC σ σ := fun _ => Or.inl (Eq.refl _)
theorem KC.cpy {x k v : Int} {σ τ : MS} (h : KC σ τ) (hf : 1 ≤ τ.2.1 3 x ∧ τ.2.1 3 x ≤ 5) : KC σ (fCpy x k v τ) := fun y => by
  by_cases e : y = x
  · subst e
    rcases h y with q | q
    · exact Or.inr ⟨by omega, ra_o (by decide) (ra_o (by decide) (ra_o (by decide) (ra_o (by decide) ra_eq)))⟩
    · omega
  · have e3 : (fCpy x k v τ).2.1 3 y = τ.2.1 3 y := ra_o (by decide) (ra_o (by decide) (ra_o (by decide) (ra_o (by decide) (ra_ne e (Eq.refl _)))))
    rw [e3]
    exact h y

theorem fl12_136 : Cond.fieldLink RX12 136 (TX12 61).1 (TX12 61).2.1 (TX12 61).2.2.1 ∈ pWW := pw7 (List.mem_of_getElem? (i := 68) rfl) rfl
theorem dX12_learn_29 : decode cX12_learn 29 = .ok (.iload_n 3, 1) := by decide +kernel
theorem dX12_learn_30 : decode cX12_learn 30 = .ok (.sipush 192, 3) := by decide +kernel
theorem dX12_learn_33 : decode cX12_learn 33 = .ok (.if_icmp .ge 45, 3) := by decide +kernel
theorem dX12_learn_36 : decode cX12_learn 36 = .ok (.aload_n 0, 1) := by decide +kernel
theorem dX12_learn_37 : decode cX12_learn 37 = .ok (.getfield 133, 3) := by decide +kernel
theorem dX12_learn_40 : decode cX12_learn 40 = .ok (.iload_n 3, 1) := by decide +kernel
theorem dX12_learn_41 : decode cX12_learn 41 = .ok (.aload_n 0, 1) := by decide +kernel
theorem dX12_learn_42 : decode cX12_learn 42 = .ok (.getfield 133, 3) := by decide +kernel
theorem dX12_learn_45 : decode cX12_learn 45 = .ok (.iload_n 3, 1) := by decide +kernel
theorem dX12_learn_46 : decode cX12_learn 46 = .ok (.iaload, 1) := by decide +kernel
theorem dX12_learn_47 : decode cX12_learn 47 = .ok (.iconst 2, 1) := by decide +kernel
theorem dX12_learn_48 : decode cX12_learn 48 = .ok (.if_icmp .ne 17, 3) := by decide +kernel
theorem dX12_learn_65 : decode cX12_learn 65 = .ok (.aload_n 0, 1) := by decide +kernel
theorem dX12_learn_66 : decode cX12_learn 66 = .ok (.getfield 133, 3) := by decide +kernel
theorem dX12_learn_69 : decode cX12_learn 69 = .ok (.iload_n 3, 1) := by decide +kernel
theorem dX12_learn_70 : decode cX12_learn 70 = .ok (.iaload, 1) := by decide +kernel
theorem dX12_learn_71 : decode cX12_learn 71 = .ok (.iastore, 1) := by decide +kernel
theorem dX12_learn_72 : decode cX12_learn 72 = .ok (.iinc 3 1, 3) := by decide +kernel
theorem dX12_learn_75 : decode cX12_learn 75 = .ok (.goto (-46), 3) := by decide +kernel
theorem dX12_learn_51 : decode cX12_learn 51 = .ok (.aload_n 0, 1) := by decide +kernel
theorem dX12_learn_52 : decode cX12_learn 52 = .ok (.getfield 136, 3) := by decide +kernel
theorem dX12_learn_55 : decode cX12_learn 55 = .ok (.iload_n 3, 1) := by decide +kernel
theorem dX12_learn_56 : decode cX12_learn 56 = .ok (.iaload, 1) := by decide +kernel
theorem dX12_learn_57 : decode cX12_learn 57 = .ok (.iload_n 2, 1) := by decide +kernel
theorem dX12_learn_58 : decode cX12_learn 58 = .ok (.if_icmp .ne 7, 3) := by decide +kernel
theorem dX12_learn_61 : decode cX12_learn 61 = .ok (.iconst 0, 1) := by decide +kernel
theorem dX12_learn_62 : decode cX12_learn 62 = .ok (.goto 9, 3) := by decide +kernel
set_option maxHeartbeats 4000000 in
set_option maxRecDepth 20000 in
theorem l_learn (d : Nat) {b : Nat} {σ0 : MS} {x : Int} {w : Int} {post : Option Value → MS → Prop} (hR0 : RG σ0) (h_w : -2147483648 ≤ w ∧ w ≤ 2147483647) (hx_78 : ∀ (g : Int) (σ : MS) , (Fr [] [60] [] σ0 σ) → (RG σ) → (KNW σ) → Tm (d + 1) m_X12_learn 78 b σ [(3, .int (iI g)), (2, .int (iI w)), (0, .ref b), (1, .int (iI x))] [] post) : ∀ (n : Nat) (g : Int) (σ : MS) , (Fr [] [60] [] σ0 σ) → (RG σ) → (0 ≤ g ∧ g ≤ 192) → (KNW σ) → (192 - g).toNat = n → Tm (d + 1) m_X12_learn 29 b σ [(3, .int (iI g)), (2, .int (iI w)), (0, .ref b), (1, .int (iI x))] [] post := by
  intro n
  induction n using Nat.strongRecOn with
  | _ n ih =>
    intro g σ hF hR h0 hkn hm
    refine tm_iload_n dX12_learn_29 rfl 0 rfl ?_
    refine tm_sipush dX12_learn_30 (by decide) ?_
    refine tm_icmp_ge (tgt := 78) dX12_learn_33 (by decide) ⟨by omega, by omega⟩ ⟨by decide, by decide⟩ (fun h1 => ?_) (fun h1 => ?_)
    · exact tm_sub [0, 1, 2, 3] rfl (hx_78 (g) σ (Fr.rfl.trans (Fr.sub hF (by decide) (by decide) (by decide))) hR hkn)
    · refine tm_aload_n dX12_learn_36 rfl 2 rfl ?_
      refine tm_get (k := 60) (v := .ref (b + 1 + 38)) lay_12 dX12_learn_37 (by decide) fl12_133 rfl ?_
      refine tm_iload_n dX12_learn_40 rfl 0 rfl ?_
      refine tm_aload_n dX12_learn_41 rfl 2 rfl ?_
      refine tm_get (k := 60) (v := .ref (b + 1 + 38)) lay_12 dX12_learn_42 (by decide) fl12_133 rfl ?_
      refine tm_iload_n dX12_learn_45 rfl 0 rfl ?_
      refine tm_iald (z := g) (v := σ.2.1 60 g) dX12_learn_46 (show mT[38]? = some (60, 0, 192) from rfl) (by omega) (by omega) (by decide) (rfl) ?_
      have g2 := RG.a hR 60 (g)
      refine tm_iconst dX12_learn_47 ?_
      refine tm_icmp_ne (tgt := 65) dX12_learn_48 (by decide) ⟨by omega, by omega⟩ ⟨by decide, by decide⟩ (fun h3 => ?_) (fun h3 => ?_)
      · refine tm_aload_n dX12_learn_65 rfl 2 rfl ?_
        refine tm_get (k := 60) (v := .ref (b + 1 + 38)) lay_12 dX12_learn_66 (by decide) fl12_133 rfl ?_
        refine tm_iload_n dX12_learn_69 rfl 0 rfl ?_
        refine tm_iald (z := g) (v := σ.2.1 60 g) dX12_learn_70 (show mT[38]? = some (60, 0, 192) from rfl) (by omega) (by omega) (by decide) (rfl) ?_
        have g4 := RG.a hR 60 (g)
        refine tm_iast (z := g) (v := σ.2.1 60 g) dX12_learn_71 (show mT[38]? = some (60, 0, 192) from rfl) (by omega) (by omega) (by decide) ?_
        refine tm_iinc (q0 := 0) (L' := [(3, .int (iI (g + 1))), (2, .int (iI w)), (0, .ref b), (1, .int (iI x))]) dX12_learn_72 rfl (by decide) rfl ?_
        refine tm_goto (tgt := 29) dX12_learn_75 (by decide) ?_
        exact tm_sub [0, 1, 2, 3] rfl (ih _ (by omega) (g + 1) (sA 60 (g) (σ.2.1 60 g) σ) ((Fr.rfl.trans (Fr.sub hF (by decide) (by decide) (by decide))).A (by decide)) (hR.A (by omega)) (by omega) (hkn.z (by omega)) rfl)
      · refine tm_aload_n dX12_learn_51 rfl 2 rfl ?_
        refine tm_get (k := 61) (v := .ref (b + 1 + 39)) lay_12 dX12_learn_52 (by decide) fl12_136 rfl ?_
        refine tm_iload_n dX12_learn_55 rfl 0 rfl ?_
        refine tm_iald (z := g) (v := σ0.2.1 61 g) dX12_learn_56 (show mT[39]? = some (61, 0, 192) from rfl) (by omega) (by omega) (by decide) (ra_F hF (by decide) (rfl)) ?_
        have g5 := RG.a hR0 61 (g)
        refine tm_iload_n dX12_learn_57 rfl 1 rfl ?_
        refine tm_icmp_ne (tgt := 65) dX12_learn_58 (by decide) ⟨by omega, by omega⟩ ⟨by omega, by omega⟩ (fun h6 => ?_) (fun h6 => ?_)
        · refine tm_aload_n dX12_learn_65 rfl 2 rfl ?_
          refine tm_get (k := 60) (v := .ref (b + 1 + 38)) lay_12 dX12_learn_66 (by decide) fl12_133 rfl ?_
          refine tm_iload_n dX12_learn_69 rfl 0 rfl ?_
          refine tm_iald (z := g) (v := σ.2.1 60 g) dX12_learn_70 (show mT[38]? = some (60, 0, 192) from rfl) (by omega) (by omega) (by decide) (rfl) ?_
          have g7 := RG.a hR 60 (g)
          refine tm_iast (z := g) (v := σ.2.1 60 g) dX12_learn_71 (show mT[38]? = some (60, 0, 192) from rfl) (by omega) (by omega) (by decide) ?_
          refine tm_iinc (q0 := 0) (L' := [(3, .int (iI (g + 1))), (2, .int (iI w)), (0, .ref b), (1, .int (iI x))]) dX12_learn_72 rfl (by decide) rfl ?_
          refine tm_goto (tgt := 29) dX12_learn_75 (by decide) ?_
          exact tm_sub [0, 1, 2, 3] rfl (ih _ (by omega) (g + 1) (sA 60 (g) (σ.2.1 60 g) σ) ((Fr.rfl.trans (Fr.sub hF (by decide) (by decide) (by decide))).A (by decide)) (hR.A (by omega)) (by omega) (hkn.z (by omega)) rfl)
        · refine tm_iconst dX12_learn_61 ?_
          refine tm_goto (tgt := 71) dX12_learn_62 (by decide) ?_
          refine tm_iast (z := g) (v := 0) dX12_learn_71 (show mT[38]? = some (60, 0, 192) from rfl) (by omega) (by omega) (by decide) ?_
          refine tm_iinc (q0 := 0) (L' := [(3, .int (iI (g + 1))), (2, .int (iI w)), (0, .ref b), (1, .int (iI x))]) dX12_learn_72 rfl (by decide) rfl ?_
          refine tm_goto (tgt := 29) dX12_learn_75 (by decide) ?_
          exact tm_sub [0, 1, 2, 3] rfl (ih _ (by omega) (g + 1) (sA 60 (g) (0) σ) ((Fr.rfl.trans (Fr.sub hF (by decide) (by decide) (by decide))).A (by decide)) (hR.A (by omega)) (by omega) (hkn.z (by omega)) rfl)
theorem dX12_learn_0 : decode cX12_learn 0 = .ok (.aload_n 0, 1) := by decide +kernel
theorem dX12_learn_1 : decode cX12_learn 1 = .ok (.getfield 13, 3) := by decide +kernel
theorem dX12_learn_4 : decode cX12_learn 4 = .ok (.iload_n 1, 1) := by decide +kernel
theorem dX12_learn_5 : decode cX12_learn 5 = .ok (.iaload, 1) := by decide +kernel
theorem dX12_learn_6 : decode cX12_learn 6 = .ok (.invokestatic 192, 3) := by decide +kernel
theorem dX12_learn_9 : decode cX12_learn 9 = .ok (.ifCond .ne 4, 3) := by decide +kernel
theorem dX12_learn_13 : decode cX12_learn 13 = .ok (.aload_n 0, 1) := by decide +kernel
theorem dX12_learn_14 : decode cX12_learn 14 = .ok (.getfield 17, 3) := by decide +kernel
theorem dX12_learn_17 : decode cX12_learn 17 = .ok (.iload_n 1, 1) := by decide +kernel
theorem dX12_learn_18 : decode cX12_learn 18 = .ok (.iaload, 1) := by decide +kernel
theorem dX12_learn_19 : decode cX12_learn 19 = .ok (.istore_n 2, 1) := by decide +kernel
theorem dX12_learn_20 : decode cX12_learn 20 = .ok (.aload_n 0, 1) := by decide +kernel
theorem dX12_learn_21 : decode cX12_learn 21 = .ok (.getfield 133, 3) := by decide +kernel
theorem dX12_learn_24 : decode cX12_learn 24 = .ok (.iload_n 2, 1) := by decide +kernel
theorem dX12_learn_25 : decode cX12_learn 25 = .ok (.iconst 0, 1) := by decide +kernel
theorem dX12_learn_26 : decode cX12_learn 26 = .ok (.iastore, 1) := by decide +kernel
theorem dX12_learn_27 : decode cX12_learn 27 = .ok (.iconst 0, 1) := by decide +kernel
theorem dX12_learn_28 : decode cX12_learn 28 = .ok (.istore_n 3, 1) := by decide +kernel
theorem dX12_learn_78 : decode cX12_learn 78 = .ok (.aload_n 0, 1) := by decide +kernel
theorem dX12_learn_79 : decode cX12_learn 79 = .ok (.getfield 13, 3) := by decide +kernel
theorem dX12_learn_82 : decode cX12_learn 82 = .ok (.iload_n 1, 1) := by decide +kernel
theorem dX12_learn_83 : decode cX12_learn 83 = .ok (.iaload, 1) := by decide +kernel
theorem dX12_learn_84 : decode cX12_learn 84 = .ok (.ifCond .ne 55, 3) := by decide +kernel
theorem dX12_learn_139 : decode cX12_learn 139 = .ok (.return_, 1) := by decide +kernel
theorem dX12_learn_87 : decode cX12_learn 87 = .ok (.aload_n 0, 1) := by decide +kernel
theorem dX12_learn_88 : decode cX12_learn 88 = .ok (.getfield 26, 3) := by decide +kernel
theorem dX12_learn_91 : decode cX12_learn 91 = .ok (.iconst 4, 1) := by decide +kernel
theorem dX12_learn_92 : decode cX12_learn 92 = .ok (.iload_n 1, 1) := by decide +kernel
theorem dX12_learn_93 : decode cX12_learn 93 = .ok (.imul, 1) := by decide +kernel
theorem dX12_learn_94 : decode cX12_learn 94 = .ok (.iaload, 1) := by decide +kernel
theorem dX12_learn_95 : decode cX12_learn 95 = .ok (.iconst 2, 1) := by decide +kernel
theorem dX12_learn_96 : decode cX12_learn 96 = .ok (.if_icmp .ne 15, 3) := by decide +kernel
theorem dX12_learn_111 : decode cX12_learn 111 = .ok (.aload_n 0, 1) := by decide +kernel
theorem dX12_learn_112 : decode cX12_learn 112 = .ok (.getfield 133, 3) := by decide +kernel
theorem dX12_learn_115 : decode cX12_learn 115 = .ok (.iload_n 2, 1) := by decide +kernel
theorem dX12_learn_116 : decode cX12_learn 116 = .ok (.aload_n 0, 1) := by decide +kernel
theorem dX12_learn_117 : decode cX12_learn 117 = .ok (.getfield 26, 3) := by decide +kernel
theorem dX12_learn_120 : decode cX12_learn 120 = .ok (.iconst 4, 1) := by decide +kernel
theorem dX12_learn_121 : decode cX12_learn 121 = .ok (.iload_n 1, 1) := by decide +kernel
theorem dX12_learn_122 : decode cX12_learn 122 = .ok (.imul, 1) := by decide +kernel
theorem dX12_learn_123 : decode cX12_learn 123 = .ok (.iaload, 1) := by decide +kernel
theorem dX12_learn_124 : decode cX12_learn 124 = .ok (.iastore, 1) := by decide +kernel
theorem dX12_learn_125 : decode cX12_learn 125 = .ok (.aload_n 0, 1) := by decide +kernel
theorem dX12_learn_126 : decode cX12_learn 126 = .ok (.getfield 136, 3) := by decide +kernel
theorem dX12_learn_129 : decode cX12_learn 129 = .ok (.iload_n 2, 1) := by decide +kernel
theorem dX12_learn_130 : decode cX12_learn 130 = .ok (.aload_n 0, 1) := by decide +kernel
theorem dX12_learn_131 : decode cX12_learn 131 = .ok (.getfield 29, 3) := by decide +kernel
theorem dX12_learn_134 : decode cX12_learn 134 = .ok (.iconst 4, 1) := by decide +kernel
theorem dX12_learn_135 : decode cX12_learn 135 = .ok (.iload_n 1, 1) := by decide +kernel
theorem dX12_learn_136 : decode cX12_learn 136 = .ok (.imul, 1) := by decide +kernel
theorem dX12_learn_137 : decode cX12_learn 137 = .ok (.iaload, 1) := by decide +kernel
theorem dX12_learn_138 : decode cX12_learn 138 = .ok (.iastore, 1) := by decide +kernel
theorem dX12_learn_99 : decode cX12_learn 99 = .ok (.aload_n 0, 1) := by decide +kernel
theorem dX12_learn_100 : decode cX12_learn 100 = .ok (.getfield 29, 3) := by decide +kernel
theorem dX12_learn_103 : decode cX12_learn 103 = .ok (.iconst 4, 1) := by decide +kernel
theorem dX12_learn_104 : decode cX12_learn 104 = .ok (.iload_n 1, 1) := by decide +kernel
theorem dX12_learn_105 : decode cX12_learn 105 = .ok (.imul, 1) := by decide +kernel
theorem dX12_learn_106 : decode cX12_learn 106 = .ok (.iaload, 1) := by decide +kernel
theorem dX12_learn_107 : decode cX12_learn 107 = .ok (.iload_n 2, 1) := by decide +kernel
theorem dX12_learn_108 : decode cX12_learn 108 = .ok (.if_icmp .eq 31, 3) := by decide +kernel
theorem dX12_learn_12 : decode cX12_learn 12 = .ok (.return_, 1) := by decide +kernel
set_option maxHeartbeats 4000000 in
set_option maxRecDepth 20000 in
theorem c_X12_learn (d : Nat) {b : Nat} {σ : MS} {x : Int} {F : Int} (hx : 0 ≤ x ∧ x < 2860) (hR : RG σ) (hkn : KNW σ) (hok : OKI σ F x) : Tm (d + 2) m_X12_learn 0 b σ [(0, .ref b), (1, .int (iI x))] [] (fun ro σ2 => ro = none ∧ (Fr [] [60, 61] [] σ σ2) ∧ (RG σ2) ∧ (KNW σ2)) := by
  have q2 := hok.2.1
  have q3 := hok.2.2.2.2.2.2.2.1 0 (by decide) (by decide)
  rw [Int.add_zero] at q3
  refine tm_aload_n dX12_learn_0 rfl 0 rfl ?_
  refine tm_get (k := 3) (v := .ref (b + 1 + 1)) lay_12 dX12_learn_1 (by decide) fl12_13 rfl ?_
  refine tm_iload_n dX12_learn_4 rfl 1 rfl ?_
  refine tm_iald (z := x) (v := σ.2.1 3 x) dX12_learn_5 (show mT[1]? = some (3, 0, 2860) from rfl) (by omega) (by omega) (by decide) (rfl) ?_
  have g1 := RG.a hR 3 (x)
  refine tm_callS (M := m_X12_learn) (pc := 6) (ix := 192) (M' := m_X12_writes) (As := [.int (iI (σ.2.1 3 x))]) (rest := []) dX12_learn_6 ok_X12_writes stt_X12_writes ml12_192 np_X12_writes rfl (Nat.le_of_ble_eq_true rfl) (Nat.le_of_ble_eq_true rfl) rfl (c_X12_writes (d) (σ := σ) (x := σ.2.1 3 x) (by omega)) (fun r2 σ3 hp => ?_)
  obtain ⟨v4, rfl, rfl, f5, f6⟩ := hp
  show Tm _ _ 9 b σ [(0, .ref b), (1, .int (iI x))] [.int (iI v4)] _
  refine tm_if_ne (tgt := 13) dX12_learn_9 (by decide) ⟨by omega, by omega⟩ (fun h7 => ?_) (fun h7 => ?_)
  · refine tm_aload_n dX12_learn_13 rfl 0 rfl ?_
    refine tm_get (k := 4) (v := .ref (b + 1 + 2)) lay_12 dX12_learn_14 (by decide) fl12_17 rfl ?_
    refine tm_iload_n dX12_learn_17 rfl 1 rfl ?_
    refine tm_iald (z := x) (v := σ.2.1 4 x) dX12_learn_18 (show mT[2]? = some (4, 0, 2860) from rfl) (by omega) (by omega) (by decide) (rfl) ?_
    have g8 := RG.a hR 4 (x)
    refine tm_istore_n (L' := [(2, .int (iI (σ.2.1 4 x))), (0, .ref b), (1, .int (iI x))]) dX12_learn_19 rfl (by decide) rfl ?_
    refine tm_aload_n dX12_learn_20 rfl 1 rfl ?_
    refine tm_get (k := 60) (v := .ref (b + 1 + 38)) lay_12 dX12_learn_21 (by decide) fl12_133 rfl ?_
    refine tm_iload_n dX12_learn_24 rfl 0 rfl ?_
    refine tm_iconst dX12_learn_25 ?_
    refine tm_iast (z := σ.2.1 4 x) (v := 0) dX12_learn_26 (show mT[38]? = some (60, 0, 192) from rfl) (by omega) (by omega) (by decide) ?_
    refine tm_iconst dX12_learn_27 ?_
    refine tm_istore_n (L' := [(3, .int (iI 0)), (2, .int (iI (σ.2.1 4 x))), (0, .ref b), (1, .int (iI x))]) dX12_learn_28 rfl (by decide) rfl ?_
    refine tm_sub [0, 1, 2, 3] rfl (l_learn (d + 1) (σ0 := (sA 60 (σ.2.1 4 x) (0) σ)) (x := x) (w := σ.2.1 4 x) (hR.A (by omega)) (by omega) (fun g14 σ15 F11 R12 f13 => ?_) _ (0) (sA 60 (σ.2.1 4 x) (0) σ) Fr.rfl (hR.A (by omega)) (by omega) (hkn.z (by omega)) rfl)
    show Tm _ _ 78 b σ15 [(3, .int (iI g14)), (2, .int (iI (σ.2.1 4 x))), (0, .ref b), (1, .int (iI x))] [] _
    have hkn1 := f13
    refine tm_aload_n dX12_learn_78 rfl 2 rfl ?_
    refine tm_get (k := 3) (v := .ref (b + 1 + 1)) lay_12 dX12_learn_79 (by decide) fl12_13 rfl ?_
    refine tm_iload_n dX12_learn_82 rfl 3 rfl ?_
    refine tm_iald (z := x) (v := σ.2.1 3 x) dX12_learn_83 (show mT[1]? = some (3, 0, 2860) from rfl) (by omega) (by omega) (by decide) (ra_F F11 (by decide) (ra_o (by decide) (rfl))) ?_
    have g16 := RG.a hR 3 (x)
    refine tm_if_ne (tgt := 139) dX12_learn_84 (by decide) ⟨by omega, by omega⟩ (fun h17 => ?_) (fun h17 => ?_)
    · exact tm_vret rfl dX12_learn_139 (⟨rfl, ((Fr.rfl.A (by decide)).trans (Fr.sub F11 (by decide) (by decide) (by decide))), R12, hkn1⟩)
    · refine tm_aload_n dX12_learn_87 rfl 2 rfl ?_
      refine tm_get (k := 7) (v := .ref (b + 1 + 5)) lay_12 dX12_learn_88 (by decide) fl12_26 rfl ?_
      refine tm_iconst dX12_learn_91 ?_
      refine tm_iload_n dX12_learn_92 rfl 3 rfl ?_
      refine tm_imul dX12_learn_93 ?_
      refine tm_iald (z := 4 * x) (v := σ.2.1 7 (4 * x)) dX12_learn_94 (show mT[5]? = some (7, 0, 11440) from rfl) (by omega) (by omega) (by decide) (ra_F F11 (by decide) (ra_o (by decide) (rfl))) ?_
      have g18 := RG.a hR 7 (4 * x)
      refine tm_iconst dX12_learn_95 ?_
      refine tm_icmp_ne (tgt := 111) dX12_learn_96 (by decide) ⟨by omega, by omega⟩ ⟨by decide, by decide⟩ (fun h19 => ?_) (fun h19 => ?_)
      · refine tm_aload_n dX12_learn_111 rfl 2 rfl ?_
        refine tm_get (k := 60) (v := .ref (b + 1 + 38)) lay_12 dX12_learn_112 (by decide) fl12_133 rfl ?_
        refine tm_iload_n dX12_learn_115 rfl 1 rfl ?_
        refine tm_aload_n dX12_learn_116 rfl 2 rfl ?_
        refine tm_get (k := 7) (v := .ref (b + 1 + 5)) lay_12 dX12_learn_117 (by decide) fl12_26 rfl ?_
        refine tm_iconst dX12_learn_120 ?_
        refine tm_iload_n dX12_learn_121 rfl 3 rfl ?_
        refine tm_imul dX12_learn_122 ?_
        refine tm_iald (z := 4 * x) (v := σ.2.1 7 (4 * x)) dX12_learn_123 (show mT[5]? = some (7, 0, 11440) from rfl) (by omega) (by omega) (by decide) (ra_F F11 (by decide) (ra_o (by decide) (rfl))) ?_
        have g20 := RG.a hR 7 (4 * x)
        refine tm_iast (z := σ.2.1 4 x) (v := σ.2.1 7 (4 * x)) dX12_learn_124 (show mT[38]? = some (60, 0, 192) from rfl) (by omega) (by omega) (by decide) ?_
        refine tm_aload_n dX12_learn_125 rfl 2 rfl ?_
        refine tm_get (k := 61) (v := .ref (b + 1 + 39)) lay_12 dX12_learn_126 (by decide) fl12_136 rfl ?_
        refine tm_iload_n dX12_learn_129 rfl 1 rfl ?_
        refine tm_aload_n dX12_learn_130 rfl 2 rfl ?_
        refine tm_get (k := 8) (v := .ref (b + 1 + 6)) lay_12 dX12_learn_131 (by decide) fl12_29 rfl ?_
        refine tm_iconst dX12_learn_134 ?_
        refine tm_iload_n dX12_learn_135 rfl 3 rfl ?_
        refine tm_imul dX12_learn_136 ?_
        refine tm_iald (z := 4 * x) (v := σ.2.1 8 (4 * x)) dX12_learn_137 (show mT[6]? = some (8, 0, 11440) from rfl) (by omega) (by omega) (by decide) (ra_o (by decide) (ra_F F11 (by decide) (ra_o (by decide) (rfl)))) ?_
        have g21 := RG.a hR 8 (4 * x)
        refine tm_iast (z := σ.2.1 4 x) (v := σ.2.1 8 (4 * x)) dX12_learn_138 (show mT[39]? = some (61, 0, 192) from rfl) (by omega) (by omega) (by decide) ?_
        exact tm_vret rfl dX12_learn_139 (⟨rfl, ((((Fr.rfl.A (by decide)).trans (Fr.sub F11 (by decide) (by decide) (by decide))).A (by decide)).A (by decide)), ((R12.A (by omega)).A (by omega)), hkn1.kv (by omega) (by omega)⟩)
      · refine tm_aload_n dX12_learn_99 rfl 2 rfl ?_
        refine tm_get (k := 8) (v := .ref (b + 1 + 6)) lay_12 dX12_learn_100 (by decide) fl12_29 rfl ?_
        refine tm_iconst dX12_learn_103 ?_
        refine tm_iload_n dX12_learn_104 rfl 3 rfl ?_
        refine tm_imul dX12_learn_105 ?_
        refine tm_iald (z := 4 * x) (v := σ.2.1 8 (4 * x)) dX12_learn_106 (show mT[6]? = some (8, 0, 11440) from rfl) (by omega) (by omega) (by decide) (ra_F F11 (by decide) (ra_o (by decide) (rfl))) ?_
        have g22 := RG.a hR 8 (4 * x)
        refine tm_iload_n dX12_learn_107 rfl 1 rfl ?_
        refine tm_icmp_eq (tgt := 139) dX12_learn_108 (by decide) ⟨by omega, by omega⟩ ⟨by omega, by omega⟩ (fun h23 => ?_) (fun h23 => ?_)
        · exact tm_vret rfl dX12_learn_139 (⟨rfl, ((Fr.rfl.A (by decide)).trans (Fr.sub F11 (by decide) (by decide) (by decide))), R12, hkn1⟩)
        · refine tm_aload_n dX12_learn_111 rfl 2 rfl ?_
          refine tm_get (k := 60) (v := .ref (b + 1 + 38)) lay_12 dX12_learn_112 (by decide) fl12_133 rfl ?_
          refine tm_iload_n dX12_learn_115 rfl 1 rfl ?_
          refine tm_aload_n dX12_learn_116 rfl 2 rfl ?_
          refine tm_get (k := 7) (v := .ref (b + 1 + 5)) lay_12 dX12_learn_117 (by decide) fl12_26 rfl ?_
          refine tm_iconst dX12_learn_120 ?_
          refine tm_iload_n dX12_learn_121 rfl 3 rfl ?_
          refine tm_imul dX12_learn_122 ?_
          refine tm_iald (z := 4 * x) (v := σ.2.1 7 (4 * x)) dX12_learn_123 (show mT[5]? = some (7, 0, 11440) from rfl) (by omega) (by omega) (by decide) (ra_F F11 (by decide) (ra_o (by decide) (rfl))) ?_
          have g24 := RG.a hR 7 (4 * x)
          refine tm_iast (z := σ.2.1 4 x) (v := σ.2.1 7 (4 * x)) dX12_learn_124 (show mT[38]? = some (60, 0, 192) from rfl) (by omega) (by omega) (by decide) ?_
          refine tm_aload_n dX12_learn_125 rfl 2 rfl ?_
          refine tm_get (k := 61) (v := .ref (b + 1 + 39)) lay_12 dX12_learn_126 (by decide) fl12_136 rfl ?_
          refine tm_iload_n dX12_learn_129 rfl 1 rfl ?_
          refine tm_aload_n dX12_learn_130 rfl 2 rfl ?_
          refine tm_get (k := 8) (v := .ref (b + 1 + 6)) lay_12 dX12_learn_131 (by decide) fl12_29 rfl ?_
          refine tm_iconst dX12_learn_134 ?_
          refine tm_iload_n dX12_learn_135 rfl 3 rfl ?_
          refine tm_imul dX12_learn_136 ?_
          refine tm_iald (z := 4 * x) (v := σ.2.1 8 (4 * x)) dX12_learn_137 (show mT[6]? = some (8, 0, 11440) from rfl) (by omega) (by omega) (by decide) (ra_o (by decide) (ra_F F11 (by decide) (ra_o (by decide) (rfl)))) ?_
          have g25 := RG.a hR 8 (4 * x)
          refine tm_iast (z := σ.2.1 4 x) (v := σ.2.1 8 (4 * x)) dX12_learn_138 (show mT[39]? = some (61, 0, 192) from rfl) (by omega) (by omega) (by decide) ?_
          exact tm_vret rfl dX12_learn_139 (⟨rfl, ((((Fr.rfl.A (by decide)).trans (Fr.sub F11 (by decide) (by decide) (by decide))).A (by decide)).A (by decide)), ((R12.A (by omega)).A (by omega)), hkn1.kv (by omega) (by omega)⟩)
  · exact tm_vret rfl dX12_learn_12 (⟨rfl, Fr.rfl, hR, hkn⟩)
theorem dX12_putsIn_4 : decode cX12_putsIn 4 = .ok (.iload_n 3, 1) := by decide +kernel
theorem dX12_putsIn_5 : decode cX12_putsIn 5 = .ok (.aload_n 0, 1) := by decide +kernel
theorem dX12_putsIn_6 : decode cX12_putsIn 6 = .ok (.iload_n 1, 1) := by decide +kernel
theorem dX12_putsIn_7 : decode cX12_putsIn 7 = .ok (.invokevirtual 199, 3) := by decide +kernel
theorem dX12_putsIn_10 : decode cX12_putsIn 10 = .ok (.if_icmp .ge 67, 3) := by decide +kernel
theorem dX12_putsIn_13 : decode cX12_putsIn 13 = .ok (.aload_n 0, 1) := by decide +kernel
theorem dX12_putsIn_14 : decode cX12_putsIn 14 = .ok (.getfield 29, 3) := by decide +kernel
theorem dX12_putsIn_17 : decode cX12_putsIn 17 = .ok (.iconst 4, 1) := by decide +kernel
theorem dX12_putsIn_18 : decode cX12_putsIn 18 = .ok (.iload_n 1, 1) := by decide +kernel
theorem dX12_putsIn_19 : decode cX12_putsIn 19 = .ok (.imul, 1) := by decide +kernel
theorem dX12_putsIn_20 : decode cX12_putsIn 20 = .ok (.iload_n 3, 1) := by decide +kernel
theorem dX12_putsIn_21 : decode cX12_putsIn 21 = .ok (.iadd, 1) := by decide +kernel
theorem dX12_putsIn_22 : decode cX12_putsIn 22 = .ok (.iaload, 1) := by decide +kernel
theorem dX12_putsIn_23 : decode cX12_putsIn 23 = .ok (.istore 4, 2) := by decide +kernel
theorem dX12_putsIn_25 : decode cX12_putsIn 25 = .ok (.aload_n 0, 1) := by decide +kernel
theorem dX12_putsIn_26 : decode cX12_putsIn 26 = .ok (.getfield 26, 3) := by decide +kernel
theorem dX12_putsIn_29 : decode cX12_putsIn 29 = .ok (.iconst 4, 1) := by decide +kernel
theorem dX12_putsIn_30 : decode cX12_putsIn 30 = .ok (.iload_n 1, 1) := by decide +kernel
theorem dX12_putsIn_31 : decode cX12_putsIn 31 = .ok (.imul, 1) := by decide +kernel
theorem dX12_putsIn_32 : decode cX12_putsIn 32 = .ok (.iload_n 3, 1) := by decide +kernel
theorem dX12_putsIn_33 : decode cX12_putsIn 33 = .ok (.iadd, 1) := by decide +kernel
theorem dX12_putsIn_34 : decode cX12_putsIn 34 = .ok (.iaload, 1) := by decide +kernel
theorem dX12_putsIn_35 : decode cX12_putsIn 35 = .ok (.iconst 2, 1) := by decide +kernel
theorem dX12_putsIn_36 : decode cX12_putsIn 36 = .ok (.if_icmp .ne 35, 3) := by decide +kernel
theorem dX12_putsIn_71 : decode cX12_putsIn 71 = .ok (.iinc 3 1, 3) := by decide +kernel
theorem dX12_putsIn_74 : decode cX12_putsIn 74 = .ok (.goto (-70), 3) := by decide +kernel
theorem dX12_putsIn_39 : decode cX12_putsIn 39 = .ok (.aload_n 0, 1) := by decide +kernel
theorem dX12_putsIn_40 : decode cX12_putsIn 40 = .ok (.getfield 133, 3) := by decide +kernel
theorem dX12_putsIn_43 : decode cX12_putsIn 43 = .ok (.iload 4, 2) := by decide +kernel
theorem dX12_putsIn_45 : decode cX12_putsIn 45 = .ok (.iaload, 1) := by decide +kernel
theorem dX12_putsIn_46 : decode cX12_putsIn 46 = .ok (.ifCond .eq 25, 3) := by decide +kernel
theorem dX12_putsIn_49 : decode cX12_putsIn 49 = .ok (.aload_n 0, 1) := by decide +kernel
theorem dX12_putsIn_50 : decode cX12_putsIn 50 = .ok (.iload_n 1, 1) := by decide +kernel
theorem dX12_putsIn_51 : decode cX12_putsIn 51 = .ok (.iload_n 3, 1) := by decide +kernel
theorem dX12_putsIn_52 : decode cX12_putsIn 52 = .ok (.aload_n 0, 1) := by decide +kernel
theorem dX12_putsIn_53 : decode cX12_putsIn 53 = .ok (.getfield 133, 3) := by decide +kernel
theorem dX12_putsIn_56 : decode cX12_putsIn 56 = .ok (.iload 4, 2) := by decide +kernel
theorem dX12_putsIn_58 : decode cX12_putsIn 58 = .ok (.iaload, 1) := by decide +kernel
theorem dX12_putsIn_59 : decode cX12_putsIn 59 = .ok (.aload_n 0, 1) := by decide +kernel
theorem dX12_putsIn_60 : decode cX12_putsIn 60 = .ok (.getfield 136, 3) := by decide +kernel
theorem dX12_putsIn_63 : decode cX12_putsIn 63 = .ok (.iload 4, 2) := by decide +kernel
theorem dX12_putsIn_65 : decode cX12_putsIn 65 = .ok (.iaload, 1) := by decide +kernel
theorem dX12_putsIn_66 : decode cX12_putsIn 66 = .ok (.invokevirtual 298, 3) := by decide +kernel
theorem dX12_putsIn_69 : decode cX12_putsIn 69 = .ok (.iconst 1, 1) := by decide +kernel
theorem dX12_putsIn_70 : decode cX12_putsIn 70 = .ok (.istore_n 2, 1) := by decide +kernel
set_option maxHeartbeats 4000000 in
set_option maxRecDepth 20000 in
theorem l_putsIn (d : Nat) {b : Nat} {σ0 : MS} {x : Int} {F : Int} {post : Option Value → MS → Prop} (hx : 0 ≤ x ∧ x < 2860) (hR0 : RG σ0) (hpar : PAR σ0) (hkn : KNW σ0) (hact : σ0.2.1 3 x ≤ 10) (hx_77 : ∀ (w : Int) (i : Int) (σ : MS) , (Fr [] [7, 8] [] σ0 σ) → (RG σ) → (w = 0 ∨ w = 1) → (OKI σ F x) → (OFF x σ0 σ) → Tm (d + 4) m_X12_putsIn 77 b σ [(3, .int (iI i)), (2, .int (iI w)), (0, .ref b), (1, .int (iI x))] [] post) : ∀ (n : Nat) (w : Int) (i : Int) (σ : MS) , (Fr [] [7, 8] [] σ0 σ) → (RG σ) → ((w = 0 ∨ w = 1) ∧ 0 ≤ i ∧ i ≤ 4) → (OKI σ F x) → (OFF x σ0 σ) → (4 - i).toNat = n → Tm (d + 4) m_X12_putsIn 4 b σ [(3, .int (iI i)), (2, .int (iI w)), (0, .ref b), (1, .int (iI x))] [] post := by
  intro n
  induction n using Nat.strongRecOn with
  | _ n ih =>
    intro w i σ hF hR h0 hok hff hm
    have q3 : σ.2.1 3 = σ0.2.1 3 := hF.2.1 3 (by decide)
    refine tm_iload_n dX12_putsIn_4 rfl 0 rfl ?_
    refine tm_aload_n dX12_putsIn_5 rfl 2 rfl ?_
    refine tm_iload_n dX12_putsIn_6 rfl 3 rfl ?_
    refine tm_callV (M := m_X12_putsIn) (pc := 7) (ix := 199) (M' := m_X12_args) (As := [.int (iI x)]) (rest := [.int (iI i)]) dX12_putsIn_7 ok_X12_args im_X12_args se_X12_args ml12_199 np_X12_args rfl rfl (Nat.le_of_ble_eq_true rfl) (Nat.le_of_ble_eq_true rfl) rfl (c_X12_args (d) (σ := σ) (x := x) (by omega) hR hok.2.2.2.2.2.2.1 (hpar.fr hF (by decide))) (fun r1 σ2 hp => ?_)
    obtain ⟨v3, rfl, rfl, f4, f5⟩ := hp
    show Tm _ _ 10 b σ [(3, .int (iI i)), (2, .int (iI w)), (0, .ref b), (1, .int (iI x))] [.int (iI v3), .int (iI i)] _
    refine tm_icmp_ge (tgt := 77) dX12_putsIn_10 (by decide) ⟨by omega, by omega⟩ ⟨by omega, by omega⟩ (fun h6 => ?_) (fun h6 => ?_)
    · exact tm_sub [0, 1, 2, 3] rfl (hx_77 (w) (i) σ (Fr.rfl.trans (Fr.sub hF (by decide) (by decide) (by decide))) hR (by omega) hok hff)
    · have q2 := hok.2.2.2.2.2.2.2.1 i (by omega) (by omega)
      refine tm_aload_n dX12_putsIn_13 rfl 2 rfl ?_
      refine tm_get (k := 8) (v := .ref (b + 1 + 6)) lay_12 dX12_putsIn_14 (by decide) fl12_29 rfl ?_
      refine tm_iconst dX12_putsIn_17 ?_
      refine tm_iload_n dX12_putsIn_18 rfl 3 rfl ?_
      refine tm_imul dX12_putsIn_19 ?_
      refine tm_iload_n dX12_putsIn_20 rfl 0 rfl ?_
      refine tm_iadd dX12_putsIn_21 ?_
      refine tm_iald (z := (4 * x) + i) (v := σ.2.1 8 ((4 * x) + i)) dX12_putsIn_22 (show mT[6]? = some (8, 0, 11440) from rfl) (by omega) (by omega) (by decide) (rfl) ?_
      have g7 := RG.a hR 8 ((4 * x) + i)
      refine tm_istore (L' := [(4, .int (iI (σ.2.1 8 ((4 * x) + i)))), (3, .int (iI i)), (2, .int (iI w)), (0, .ref b), (1, .int (iI x))]) dX12_putsIn_23 (by decide) rfl ?_
      refine tm_aload_n dX12_putsIn_25 rfl 3 rfl ?_
      refine tm_get (k := 7) (v := .ref (b + 1 + 5)) lay_12 dX12_putsIn_26 (by decide) fl12_26 rfl ?_
      refine tm_iconst dX12_putsIn_29 ?_
      refine tm_iload_n dX12_putsIn_30 rfl 4 rfl ?_
      refine tm_imul dX12_putsIn_31 ?_
      refine tm_iload_n dX12_putsIn_32 rfl 1 rfl ?_
      refine tm_iadd dX12_putsIn_33 ?_
      refine tm_iald (z := (4 * x) + i) (v := σ.2.1 7 ((4 * x) + i)) dX12_putsIn_34 (show mT[5]? = some (7, 0, 11440) from rfl) (by omega) (by omega) (by decide) (rfl) ?_
      have g8 := RG.a hR 7 ((4 * x) + i)
      refine tm_iconst dX12_putsIn_35 ?_
      refine tm_icmp_ne (tgt := 71) dX12_putsIn_36 (by decide) ⟨by omega, by omega⟩ ⟨by decide, by decide⟩ (fun h9 => ?_) (fun h9 => ?_)
      · refine tm_iinc (q0 := 1) (L' := [(3, .int (iI (i + 1))), (4, .int (iI (σ.2.1 8 ((4 * x) + i)))), (2, .int (iI w)), (0, .ref b), (1, .int (iI x))]) dX12_putsIn_71 rfl (by decide) rfl ?_
        refine tm_goto (tgt := 4) dX12_putsIn_74 (by decide) ?_
        exact tm_sub [0, 2, 3, 4] rfl (ih _ (by omega) (w) (i + 1) σ (Fr.rfl.trans (Fr.sub hF (by decide) (by decide) (by decide))) hR (by omega) hok hff rfl)
      · refine tm_aload_n dX12_putsIn_39 rfl 3 rfl ?_
        refine tm_get (k := 60) (v := .ref (b + 1 + 38)) lay_12 dX12_putsIn_40 (by decide) fl12_133 rfl ?_
        refine tm_iload dX12_putsIn_43 0 rfl ?_
        refine tm_iald (z := σ.2.1 8 ((4 * x) + i)) (v := σ0.2.1 60 (σ.2.1 8 ((4 * x) + i))) dX12_putsIn_45 (show mT[38]? = some (60, 0, 192) from rfl) (by omega) (by omega) (by decide) (ra_F hF (by decide) (rfl)) ?_
        have g10 := RG.a hR0 60 (σ.2.1 8 ((4 * x) + i))
        have := hkn (σ.2.1 8 ((4 * x) + i))
        refine tm_if_eq (tgt := 71) dX12_putsIn_46 (by decide) ⟨by omega, by omega⟩ (fun h11 => ?_) (fun h11 => ?_)
        · refine tm_iinc (q0 := 1) (L' := [(3, .int (iI (i + 1))), (4, .int (iI (σ.2.1 8 ((4 * x) + i)))), (2, .int (iI w)), (0, .ref b), (1, .int (iI x))]) dX12_putsIn_71 rfl (by decide) rfl ?_
          refine tm_goto (tgt := 4) dX12_putsIn_74 (by decide) ?_
          exact tm_sub [0, 2, 3, 4] rfl (ih _ (by omega) (w) (i + 1) σ (Fr.rfl.trans (Fr.sub hF (by decide) (by decide) (by decide))) hR (by omega) hok hff rfl)
        · refine tm_aload_n dX12_putsIn_49 rfl 3 rfl ?_
          refine tm_iload_n dX12_putsIn_50 rfl 4 rfl ?_
          refine tm_iload_n dX12_putsIn_51 rfl 1 rfl ?_
          refine tm_aload_n dX12_putsIn_52 rfl 3 rfl ?_
          refine tm_get (k := 60) (v := .ref (b + 1 + 38)) lay_12 dX12_putsIn_53 (by decide) fl12_133 rfl ?_
          refine tm_iload dX12_putsIn_56 0 rfl ?_
          refine tm_iald (z := σ.2.1 8 ((4 * x) + i)) (v := σ0.2.1 60 (σ.2.1 8 ((4 * x) + i))) dX12_putsIn_58 (show mT[38]? = some (60, 0, 192) from rfl) (by omega) (by omega) (by decide) (ra_F hF (by decide) (rfl)) ?_
          have g12 := RG.a hR0 60 (σ.2.1 8 ((4 * x) + i))
          have := hkn (σ.2.1 8 ((4 * x) + i))
          refine tm_aload_n dX12_putsIn_59 rfl 3 rfl ?_
          refine tm_get (k := 61) (v := .ref (b + 1 + 39)) lay_12 dX12_putsIn_60 (by decide) fl12_136 rfl ?_
          refine tm_iload dX12_putsIn_63 0 rfl ?_
          refine tm_iald (z := σ.2.1 8 ((4 * x) + i)) (v := σ0.2.1 61 (σ.2.1 8 ((4 * x) + i))) dX12_putsIn_65 (show mT[39]? = some (61, 0, 192) from rfl) (by omega) (by omega) (by decide) (ra_F hF (by decide) (rfl)) ?_
          have g13 := RG.a hR0 61 (σ.2.1 8 ((4 * x) + i))
          refine tm_callV (M := m_X12_putsIn) (pc := 66) (ix := 298) (M' := m_X12_setArg) (As := [.int (iI x), .int (iI i), .int (iI (σ0.2.1 60 (σ.2.1 8 ((4 * x) + i)))), .int (iI (σ0.2.1 61 (σ.2.1 8 ((4 * x) + i))))]) (rest := []) dX12_putsIn_66 ok_X12_setArg im_X12_setArg se_X12_setArg ml12_298 np_X12_setArg rfl rfl (Nat.le_of_ble_eq_true rfl) (Nat.le_of_ble_eq_true rfl) rfl (c_X12_setArg (d + 2) (σ := σ) (x := x) (i := i) (k := σ0.2.1 60 (σ.2.1 8 ((4 * x) + i))) (w := σ0.2.1 61 (σ.2.1 8 ((4 * x) + i))) (by omega)) (fun r14 σ15 hp => ?_)
          obtain ⟨rfl, f17⟩ := hp
          subst f17
          show Tm _ _ 69 b (fArg (x) (i) (σ0.2.1 60 (σ.2.1 8 ((4 * x) + i))) (σ0.2.1 61 (σ.2.1 8 ((4 * x) + i))) σ) [(4, .int (iI (σ.2.1 8 ((4 * x) + i)))), (3, .int (iI i)), (2, .int (iI w)), (0, .ref b), (1, .int (iI x))] [] _
          refine tm_iconst dX12_putsIn_69 ?_
          refine tm_istore_n (L' := [(2, .int (iI 1)), (4, .int (iI (σ.2.1 8 ((4 * x) + i)))), (3, .int (iI i)), (0, .ref b), (1, .int (iI x))]) dX12_putsIn_70 rfl (by decide) rfl ?_
          refine tm_iinc (q0 := 2) (L' := [(3, .int (iI (i + 1))), (2, .int (iI 1)), (4, .int (iI (σ.2.1 8 ((4 * x) + i)))), (0, .ref b), (1, .int (iI x))]) dX12_putsIn_71 rfl (by decide) rfl ?_
          refine tm_goto (tgt := 4) dX12_putsIn_74 (by decide) ?_
          exact tm_sub [0, 1, 3, 4] rfl (ih _ (by omega) (1) (i + 1) (fArg (x) (i) (σ0.2.1 60 (σ.2.1 8 ((4 * x) + i))) (σ0.2.1 61 (σ.2.1 8 ((4 * x) + i))) σ) ((Fr.rfl.trans (Fr.sub hF (by decide) (by decide) (by decide))).trans (Fr.sub fArg_fr (by decide) (by decide) (by decide))) (hR.arg (by omega) (by omega)) (by omega) (oki_arg2 hok (by omega) (by omega) (by omega) (by omega) (by omega) (by rw [q3]; omega)) (hff.trans (OFF.arg (by omega) (by omega))) rfl)
theorem dX12_putsIn_0 : decode cX12_putsIn 0 = .ok (.iconst 0, 1) := by decide +kernel
theorem dX12_putsIn_1 : decode cX12_putsIn 1 = .ok (.istore_n 2, 1) := by decide +kernel
theorem dX12_putsIn_2 : decode cX12_putsIn 2 = .ok (.iconst 0, 1) := by decide +kernel
theorem dX12_putsIn_3 : decode cX12_putsIn 3 = .ok (.istore_n 3, 1) := by decide +kernel
theorem dX12_putsIn_77 : decode cX12_putsIn 77 = .ok (.iload_n 2, 1) := by decide +kernel
theorem dX12_putsIn_78 : decode cX12_putsIn 78 = .ok (.ireturn, 1) := by decide +kernel
set_option maxHeartbeats 4000000 in
set_option maxRecDepth 20000 in
theorem c_X12_putsIn (d : Nat) {b : Nat} {σ : MS} {x : Int} {F : Int} (hx : 0 ≤ x ∧ x < 2860) (hR : RG σ) (hpar : PAR σ) (hkn : KNW σ) (hact : σ.2.1 3 x ≤ 10) (hok : OKI σ F x) : Tm (d + 4) m_X12_putsIn 0 b σ [(0, .ref b), (1, .int (iI x))] [] (fun ro σ2 => ∃ v : Int, ro = some (.int (iI v)) ∧ ((v = 0 ∨ v = 1)) ∧ (Fr [] [7, 8] [] σ σ2) ∧ (RG σ2) ∧ (OKI σ2 F x) ∧ (OFF x σ σ2)) := by
  refine tm_iconst dX12_putsIn_0 ?_
  refine tm_istore_n (L' := [(2, .int (iI 0)), (0, .ref b), (1, .int (iI x))]) dX12_putsIn_1 rfl (by decide) rfl ?_
  refine tm_iconst dX12_putsIn_2 ?_
  refine tm_istore_n (L' := [(3, .int (iI 0)), (2, .int (iI 0)), (0, .ref b), (1, .int (iI x))]) dX12_putsIn_3 rfl (by decide) rfl ?_
  refine tm_sub [0, 1, 2, 3] rfl (l_putsIn (d) (σ0 := σ) (x := x) (F := F) hx hR hpar hkn hact (fun w9 i10 σ11 F4 R5 f6 f7 f8 => ?_) _ (0) (0) σ Fr.rfl hR (by omega) hok OFF.rfl rfl)
  show Tm _ _ 77 b σ11 [(3, .int (iI i10)), (2, .int (iI w9)), (0, .ref b), (1, .int (iI x))] [] _
  refine tm_iload_n dX12_putsIn_77 rfl 1 rfl ?_
  exact tm_zret (v := w9) rfl (by omega) dX12_putsIn_78 (⟨_, rfl, by omega, (Fr.rfl.trans (Fr.sub F4 (by decide) (by decide) (by decide))), R5, f7, f8⟩)
theorem ml12_494 : Cond.methodLink RX12 494 yX12_isAlike ∈ pWW := pw9 (List.mem_of_getElem? (i := 173) rfl) rfl
theorem ml12_497 : Cond.methodLink RX12 497 yX12_stands ∈ pWW := pw9 (List.mem_of_getElem? (i := 177) rfl) rfl
theorem dX12_alike_43 : decode cX12_alike 43 = .ok (.iload 5, 2) := by decide +kernel
theorem dX12_alike_45 : decode cX12_alike 45 = .ok (.ifCond .lt 53, 3) := by decide +kernel
theorem dX12_alike_48 : decode cX12_alike 48 = .ok (.aload_n 0, 1) := by decide +kernel
theorem dX12_alike_49 : decode cX12_alike 49 = .ok (.getfield 13, 3) := by decide +kernel
theorem dX12_alike_52 : decode cX12_alike 52 = .ok (.aload_n 0, 1) := by decide +kernel
theorem dX12_alike_53 : decode cX12_alike 53 = .ok (.iload_n 1, 1) := by decide +kernel
theorem dX12_alike_54 : decode cX12_alike 54 = .ok (.iload 5, 2) := by decide +kernel
theorem dX12_alike_56 : decode cX12_alike 56 = .ok (.invokevirtual 203, 3) := by decide +kernel
theorem dX12_alike_59 : decode cX12_alike 59 = .ok (.iaload, 1) := by decide +kernel
theorem dX12_alike_60 : decode cX12_alike 60 = .ok (.bipush 13, 2) := by decide +kernel
theorem dX12_alike_62 : decode cX12_alike 62 = .ok (.if_icmp .eq 36, 3) := by decide +kernel
theorem dX12_alike_65 : decode cX12_alike 65 = .ok (.aload_n 0, 1) := by decide +kernel
theorem dX12_alike_66 : decode cX12_alike 66 = .ok (.aload_n 0, 1) := by decide +kernel
theorem dX12_alike_67 : decode cX12_alike 67 = .ok (.iload_n 1, 1) := by decide +kernel
theorem dX12_alike_68 : decode cX12_alike 68 = .ok (.iload 5, 2) := by decide +kernel
theorem dX12_alike_70 : decode cX12_alike 70 = .ok (.invokevirtual 203, 3) := by decide +kernel
theorem dX12_alike_73 : decode cX12_alike 73 = .ok (.iload 4, 2) := by decide +kernel
theorem dX12_alike_75 : decode cX12_alike 75 = .ok (.invokevirtual 494, 3) := by decide +kernel
theorem dX12_alike_78 : decode cX12_alike 78 = .ok (.ifCond .eq 14, 3) := by decide +kernel
theorem dX12_alike_92 : decode cX12_alike 92 = .ok (.iinc 5 (-1), 3) := by decide +kernel
theorem dX12_alike_95 : decode cX12_alike 95 = .ok (.goto (-52), 3) := by decide +kernel
theorem dX12_alike_81 : decode cX12_alike 81 = .ok (.aload_n 0, 1) := by decide +kernel
theorem dX12_alike_82 : decode cX12_alike 82 = .ok (.iload_n 1, 1) := by decide +kernel
theorem dX12_alike_83 : decode cX12_alike 83 = .ok (.iload 5, 2) := by decide +kernel
theorem dX12_alike_85 : decode cX12_alike 85 = .ok (.iload_n 3, 1) := by decide +kernel
theorem dX12_alike_86 : decode cX12_alike 86 = .ok (.invokevirtual 497, 3) := by decide +kernel
theorem dX12_alike_89 : decode cX12_alike 89 = .ok (.ifCond .ne 9, 3) := by decide +kernel
set_option maxHeartbeats 4000000 in
set_option maxRecDepth 20000 in
theorem l_alike2 (d : Nat) {b : Nat} {σ : MS} {r : Int} {F : Int} {n1 : Int} {k : Int} {post : Option Value → MS → Prop} (hr : 0 ≤ r ∧ r < 6) (hR : RG σ) (hit : ITM σ) (hpar : PAR σ) (hok : OKS σ F r) (hk : 0 ≤ k ∧ k < σ.2.1 9 r ∧ 1 ≤ σ.2.1 3 (220 * r + k) ∧ σ.2.1 3 (220 * r + k) ≤ 5) (hx_98 : ∀ (j : Int) , (-1 ≤ j ∧ j < k) → (0 ≤ j → σ.2.1 3 (220 * r + j) = 13 ∨ σ.2.1 3 (220 * r + j) = σ.2.1 3 (220 * r + k)) → Tm (d + 6) m_X12_alike 98 b σ [(5, .int (iI j)), (4, .int (iI (220 * r + k))), (3, .int (iI k)), (2, .int (iI n1)), (0, .ref b), (1, .int (iI r))] [] post) : ∀ (n : Nat) (j : Int) , (-1 ≤ j ∧ j < k) → (j + 1).toNat = n → Tm (d + 6) m_X12_alike 43 b σ [(5, .int (iI j)), (4, .int (iI (220 * r + k))), (3, .int (iI k)), (2, .int (iI n1)), (0, .ref b), (1, .int (iI r))] [] post := by
  intro n
  induction n using Nat.strongRecOn with
  | _ n ih =>
    intro j h0 hm
    have q1 := hit r (by omega) (by omega)
    refine tm_iload dX12_alike_43 0 rfl ?_
    refine tm_if_lt (tgt := 98) dX12_alike_45 (by decide) ⟨by omega, by omega⟩ (fun h1 => ?_) (fun h1 => ?_)
    · exact tm_sub [0, 1, 2, 3, 4, 5] rfl (hx_98 (j) (by omega) (by omega))
    · refine tm_aload_n dX12_alike_48 rfl 4 rfl ?_
      refine tm_get (k := 3) (v := .ref (b + 1 + 1)) lay_12 dX12_alike_49 (by decide) fl12_13 rfl ?_
      refine tm_aload_n dX12_alike_52 rfl 4 rfl ?_
      refine tm_iload_n dX12_alike_53 rfl 5 rfl ?_
      refine tm_iload dX12_alike_54 0 rfl ?_
      refine tm_callV (M := m_X12_alike) (pc := 56) (ix := 203) (M' := m_X12_at) (As := [.int (iI r), .int (iI j)]) (rest := [.ref (b + 1 + 1)]) dX12_alike_56 ok_X12_at im_X12_at se_X12_at ml12_203 np_X12_at rfl rfl (Nat.le_of_ble_eq_true rfl) (Nat.le_of_ble_eq_true rfl) rfl (c_X12_at (d + 4) (σ := σ) (x := r) (k := j) ) (fun r2 σ3 hp => ?_)
      obtain ⟨v4, rfl, rfl, f5⟩ := hp
      subst f5
      show Tm _ _ 59 b σ [(5, .int (iI j)), (4, .int (iI (220 * r + k))), (3, .int (iI k)), (2, .int (iI n1)), (0, .ref b), (1, .int (iI r))] [.int (iI (220 * r + j)), .ref (b + 1 + 1)] _
      refine tm_iald (z := 220 * r + j) (v := σ.2.1 3 (220 * r + j)) dX12_alike_59 (show mT[1]? = some (3, 0, 2860) from rfl) (by omega) (by omega) (by decide) (rfl) ?_
      have g6 := RG.a hR 3 (220 * r + j)
      refine tm_bipush dX12_alike_60 (by decide) ?_
      refine tm_icmp_eq (tgt := 98) dX12_alike_62 (by decide) ⟨by omega, by omega⟩ ⟨by decide, by decide⟩ (fun h7 => ?_) (fun h7 => ?_)
      · exact tm_sub [0, 1, 2, 3, 4, 5] rfl (hx_98 (j) (by omega) (by omega))
      · refine tm_aload_n dX12_alike_65 rfl 4 rfl ?_
        refine tm_aload_n dX12_alike_66 rfl 4 rfl ?_
        refine tm_iload_n dX12_alike_67 rfl 5 rfl ?_
        refine tm_iload dX12_alike_68 0 rfl ?_
        refine tm_callV (M := m_X12_alike) (pc := 70) (ix := 203) (M' := m_X12_at) (As := [.int (iI r), .int (iI j)]) (rest := [.ref b]) dX12_alike_70 ok_X12_at im_X12_at se_X12_at ml12_203 np_X12_at rfl rfl (Nat.le_of_ble_eq_true rfl) (Nat.le_of_ble_eq_true rfl) rfl (c_X12_at (d + 4) (σ := σ) (x := r) (k := j) ) (fun r8 σ9 hp => ?_)
        obtain ⟨v10, rfl, rfl, f11⟩ := hp
        subst f11
        show Tm _ _ 73 b σ [(5, .int (iI j)), (4, .int (iI (220 * r + k))), (3, .int (iI k)), (2, .int (iI n1)), (0, .ref b), (1, .int (iI r))] [.int (iI (220 * r + j)), .ref b] _
        refine tm_iload dX12_alike_73 1 rfl ?_
        refine tm_callV (M := m_X12_alike) (pc := 75) (ix := 494) (M' := m_X12_isAlike) (As := [.int (iI (220 * r + j)), .int (iI (220 * r + k))]) (rest := []) dX12_alike_75 ok_X12_isAlike im_X12_isAlike se_X12_isAlike ml12_494 np_X12_isAlike rfl rfl (Nat.le_of_ble_eq_true rfl) (Nat.le_of_ble_eq_true rfl) rfl (c_X12_isAlike (d + 4) (σ := σ) (x := 220 * r + j) (y := 220 * r + k) (by omega) (by omega) hR) (fun r12 σ13 hp => ?_)
        obtain ⟨v14, rfl, rfl, f15, f16⟩ := hp
        show Tm _ _ 78 b σ [(5, .int (iI j)), (4, .int (iI (220 * r + k))), (3, .int (iI k)), (2, .int (iI n1)), (0, .ref b), (1, .int (iI r))] [.int (iI v14)] _
        refine tm_if_eq (tgt := 92) dX12_alike_78 (by decide) ⟨by omega, by omega⟩ (fun h17 => ?_) (fun h17 => ?_)
        · refine tm_iinc (q0 := 0) (L' := [(5, .int (iI (j + (-1)))), (4, .int (iI (220 * r + k))), (3, .int (iI k)), (2, .int (iI n1)), (0, .ref b), (1, .int (iI r))]) dX12_alike_92 rfl (by decide) rfl ?_
          refine tm_goto (tgt := 43) dX12_alike_95 (by decide) ?_
          exact tm_sub [0, 1, 2, 3, 4, 5] rfl (ih _ (by omega) (j + (-1)) (by omega) rfl)
        · refine tm_aload_n dX12_alike_81 rfl 4 rfl ?_
          refine tm_iload_n dX12_alike_82 rfl 5 rfl ?_
          refine tm_iload dX12_alike_83 0 rfl ?_
          refine tm_iload_n dX12_alike_85 rfl 2 rfl ?_
          refine tm_callV (M := m_X12_alike) (pc := 86) (ix := 497) (M' := m_X12_stands) (As := [.int (iI r), .int (iI j), .int (iI k)]) (rest := []) dX12_alike_86 ok_X12_stands im_X12_stands se_X12_stands ml12_497 np_X12_stands rfl rfl (Nat.le_of_ble_eq_true rfl) (Nat.le_of_ble_eq_true rfl) rfl (c_X12_stands (d) (σ := σ) (r := r) (j := j) (k := k) (F := F) (by omega) hR hit hpar hok (by omega)) (fun r18 σ19 hp => ?_)
          obtain ⟨v20, rfl, rfl, f21⟩ := hp
          show Tm _ _ 89 b σ [(5, .int (iI j)), (4, .int (iI (220 * r + k))), (3, .int (iI k)), (2, .int (iI n1)), (0, .ref b), (1, .int (iI r))] [.int (iI v20)] _
          refine tm_if_ne (tgt := 98) dX12_alike_89 (by decide) ⟨by omega, by omega⟩ (fun h22 => ?_) (fun h22 => ?_)
          · exact tm_sub [0, 1, 2, 3, 4, 5] rfl (hx_98 (j) (by omega) (by omega))
          · refine tm_iinc (q0 := 0) (L' := [(5, .int (iI (j + (-1)))), (4, .int (iI (220 * r + k))), (3, .int (iI k)), (2, .int (iI n1)), (0, .ref b), (1, .int (iI r))]) dX12_alike_92 rfl (by decide) rfl ?_
            refine tm_goto (tgt := 43) dX12_alike_95 (by decide) ?_
            exact tm_sub [0, 1, 2, 3, 4, 5] rfl (ih _ (by omega) (j + (-1)) (by omega) rfl)
theorem dX12_alike_4 : decode cX12_alike 4 = .ok (.iload_n 3, 1) := by decide +kernel
theorem dX12_alike_5 : decode cX12_alike 5 = .ok (.aload_n 0, 1) := by decide +kernel
theorem dX12_alike_6 : decode cX12_alike 6 = .ok (.getfield 32, 3) := by decide +kernel
theorem dX12_alike_9 : decode cX12_alike 9 = .ok (.iload_n 1, 1) := by decide +kernel
theorem dX12_alike_10 : decode cX12_alike 10 = .ok (.iaload, 1) := by decide +kernel
theorem dX12_alike_11 : decode cX12_alike 11 = .ok (.if_icmp .ge 159, 3) := by decide +kernel
theorem dX12_alike_14 : decode cX12_alike 14 = .ok (.aload_n 0, 1) := by decide +kernel
theorem dX12_alike_15 : decode cX12_alike 15 = .ok (.iload_n 1, 1) := by decide +kernel
theorem dX12_alike_16 : decode cX12_alike 16 = .ok (.iload_n 3, 1) := by decide +kernel
theorem dX12_alike_17 : decode cX12_alike 17 = .ok (.invokevirtual 203, 3) := by decide +kernel
theorem dX12_alike_20 : decode cX12_alike 20 = .ok (.istore 4, 2) := by decide +kernel
theorem dX12_alike_22 : decode cX12_alike 22 = .ok (.aload_n 0, 1) := by decide +kernel
theorem dX12_alike_23 : decode cX12_alike 23 = .ok (.getfield 13, 3) := by decide +kernel
theorem dX12_alike_26 : decode cX12_alike 26 = .ok (.iload 4, 2) := by decide +kernel
theorem dX12_alike_28 : decode cX12_alike 28 = .ok (.iaload, 1) := by decide +kernel
theorem dX12_alike_29 : decode cX12_alike 29 = .ok (.invokestatic 196, 3) := by decide +kernel
theorem dX12_alike_32 : decode cX12_alike 32 = .ok (.ifCond .ne 6, 3) := by decide +kernel
theorem dX12_alike_38 : decode cX12_alike 38 = .ok (.iload_n 3, 1) := by decide +kernel
theorem dX12_alike_39 : decode cX12_alike 39 = .ok (.iconst 1, 1) := by decide +kernel
theorem dX12_alike_40 : decode cX12_alike 40 = .ok (.isub, 1) := by decide +kernel
theorem dX12_alike_41 : decode cX12_alike 41 = .ok (.istore 5, 2) := by decide +kernel
theorem dX12_alike_98 : decode cX12_alike 98 = .ok (.iload 5, 2) := by decide +kernel
theorem dX12_alike_100 : decode cX12_alike 100 = .ok (.ifCond .lt 64, 3) := by decide +kernel
theorem dX12_alike_164 : decode cX12_alike 164 = .ok (.iinc 3 1, 3) := by decide +kernel
theorem dX12_alike_167 : decode cX12_alike 167 = .ok (.goto (-163), 3) := by decide +kernel
theorem dX12_alike_103 : decode cX12_alike 103 = .ok (.aload_n 0, 1) := by decide +kernel
theorem dX12_alike_104 : decode cX12_alike 104 = .ok (.getfield 13, 3) := by decide +kernel
theorem dX12_alike_107 : decode cX12_alike 107 = .ok (.aload_n 0, 1) := by decide +kernel
theorem dX12_alike_108 : decode cX12_alike 108 = .ok (.iload_n 1, 1) := by decide +kernel
theorem dX12_alike_109 : decode cX12_alike 109 = .ok (.iload 5, 2) := by decide +kernel
theorem dX12_alike_111 : decode cX12_alike 111 = .ok (.invokevirtual 203, 3) := by decide +kernel
theorem dX12_alike_114 : decode cX12_alike 114 = .ok (.iaload, 1) := by decide +kernel
theorem dX12_alike_115 : decode cX12_alike 115 = .ok (.bipush 13, 2) := by decide +kernel
theorem dX12_alike_117 : decode cX12_alike 117 = .ok (.if_icmp .eq 47, 3) := by decide +kernel
theorem dX12_alike_120 : decode cX12_alike 120 = .ok (.aload_n 0, 1) := by decide +kernel
theorem dX12_alike_121 : decode cX12_alike 121 = .ok (.getfield 17, 3) := by decide +kernel
theorem dX12_alike_124 : decode cX12_alike 124 = .ok (.aload_n 0, 1) := by decide +kernel
theorem dX12_alike_125 : decode cX12_alike 125 = .ok (.iload_n 1, 1) := by decide +kernel
theorem dX12_alike_126 : decode cX12_alike 126 = .ok (.iload 5, 2) := by decide +kernel
theorem dX12_alike_128 : decode cX12_alike 128 = .ok (.invokevirtual 203, 3) := by decide +kernel
theorem dX12_alike_131 : decode cX12_alike 131 = .ok (.iaload, 1) := by decide +kernel
theorem dX12_alike_132 : decode cX12_alike 132 = .ok (.istore 6, 2) := by decide +kernel
theorem dX12_alike_134 : decode cX12_alike 134 = .ok (.aload_n 0, 1) := by decide +kernel
theorem dX12_alike_135 : decode cX12_alike 135 = .ok (.getfield 13, 3) := by decide +kernel
theorem dX12_alike_138 : decode cX12_alike 138 = .ok (.iload 4, 2) := by decide +kernel
theorem dX12_alike_140 : decode cX12_alike 140 = .ok (.iconst 0, 1) := by decide +kernel
theorem dX12_alike_141 : decode cX12_alike 141 = .ok (.iastore, 1) := by decide +kernel
theorem dX12_alike_142 : decode cX12_alike 142 = .ok (.aload_n 0, 1) := by decide +kernel
theorem dX12_alike_143 : decode cX12_alike 143 = .ok (.iload 4, 2) := by decide +kernel
theorem dX12_alike_145 : decode cX12_alike 145 = .ok (.iconst 0, 1) := by decide +kernel
theorem dX12_alike_146 : decode cX12_alike 146 = .ok (.iconst 2, 1) := by decide +kernel
theorem dX12_alike_147 : decode cX12_alike 147 = .ok (.iload 6, 2) := by decide +kernel
theorem dX12_alike_149 : decode cX12_alike 149 = .ok (.invokevirtual 298, 3) := by decide +kernel
theorem dX12_alike_152 : decode cX12_alike 152 = .ok (.aload_n 0, 1) := by decide +kernel
theorem dX12_alike_153 : decode cX12_alike 153 = .ok (.iload 4, 2) := by decide +kernel
theorem dX12_alike_155 : decode cX12_alike 155 = .ok (.iconst 1, 1) := by decide +kernel
theorem dX12_alike_156 : decode cX12_alike 156 = .ok (.iconst 0, 1) := by decide +kernel
theorem dX12_alike_157 : decode cX12_alike 157 = .ok (.iconst 0, 1) := by decide +kernel
theorem dX12_alike_158 : decode cX12_alike 158 = .ok (.invokevirtual 298, 3) := by decide +kernel
theorem dX12_alike_161 : decode cX12_alike 161 = .ok (.iinc 2 1, 3) := by decide +kernel
theorem dX12_alike_35 : decode cX12_alike 35 = .ok (.goto 129, 3) := by decide +kernel
set_option maxHeartbeats 4000000 in
set_option maxRecDepth 20000 in
theorem l_alike1 (d : Nat) {b : Nat} {σ0 : MS} {r : Int} {F : Int} {post : Option Value → MS → Prop} (hr : 0 ≤ r ∧ r < 6) (hR0 : RG σ0) (hit : ITM σ0) (hpar : PAR σ0) (hx_170 : ∀ (n1 : Int) (k : Int) (σ : MS) , (Fr [] [3, 7, 8] [] σ0 σ) → (RG σ) → (0 ≤ n1 ∧ n1 ≤ 220) → (OKS σ F r) → (XO r σ0 σ) → (KC σ0 σ) → Tm (d + 6) m_X12_alike 170 b σ [(3, .int (iI k)), (2, .int (iI n1)), (0, .ref b), (1, .int (iI r))] [] post) : ∀ (n : Nat) (n1 : Int) (k : Int) (σ : MS) , (Fr [] [3, 7, 8] [] σ0 σ) → (RG σ) → (0 ≤ n1 ∧ n1 ≤ k ∧ k ≤ σ0.2.1 9 r) → (OKS σ F r) → (XO r σ0 σ) → (KC σ0 σ) → (220 - k).toNat = n → Tm (d + 6) m_X12_alike 4 b σ [(3, .int (iI k)), (2, .int (iI n1)), (0, .ref b), (1, .int (iI r))] [] post := by
  intro n
  induction n using Nat.strongRecOn with
  | _ n ih =>
    intro n1 k σ hF hR h0 hok hxo hkc hm
    have hit1 := hit.fr hF (by decide)
    have hpar1 := hpar.fr hF (by decide)
    have q1 := hit r (by omega) (by omega)
    have q9 : σ.2.1 9 r = σ0.2.1 9 r := by rw [hF.2.1 9 (by decide)]
    refine tm_iload_n dX12_alike_4 rfl 0 rfl ?_
    refine tm_aload_n dX12_alike_5 rfl 2 rfl ?_
    refine tm_get (k := 9) (v := .ref (b + 1 + 7)) lay_12 dX12_alike_6 (by decide) fl12_32 rfl ?_
    refine tm_iload_n dX12_alike_9 rfl 3 rfl ?_
    refine tm_iald (z := r) (v := σ0.2.1 9 r) dX12_alike_10 (show mT[7]? = some (9, 0, 13) from rfl) (by omega) (by omega) (by decide) (ra_F hF (by decide) (rfl)) ?_
    have g1 := RG.a hR0 9 (r)
    refine tm_icmp_ge (tgt := 170) dX12_alike_11 (by decide) ⟨by omega, by omega⟩ ⟨by omega, by omega⟩ (fun h2 => ?_) (fun h2 => ?_)
    · exact tm_sub [0, 1, 2, 3] rfl (hx_170 (n1) (k) σ (Fr.rfl.trans (Fr.sub hF (by decide) (by decide) (by decide))) hR (by omega) hok hxo hkc)
    · refine tm_aload_n dX12_alike_14 rfl 2 rfl ?_
      refine tm_iload_n dX12_alike_15 rfl 3 rfl ?_
      refine tm_iload_n dX12_alike_16 rfl 0 rfl ?_
      refine tm_callV (M := m_X12_alike) (pc := 17) (ix := 203) (M' := m_X12_at) (As := [.int (iI r), .int (iI k)]) (rest := []) dX12_alike_17 ok_X12_at im_X12_at se_X12_at ml12_203 np_X12_at rfl rfl (Nat.le_of_ble_eq_true rfl) (Nat.le_of_ble_eq_true rfl) rfl (c_X12_at (d + 4) (σ := σ) (x := r) (k := k) ) (fun r3 σ4 hp => ?_)
      obtain ⟨v5, rfl, rfl, f6⟩ := hp
      subst f6
      show Tm _ _ 20 b σ [(3, .int (iI k)), (2, .int (iI n1)), (0, .ref b), (1, .int (iI r))] [.int (iI (220 * r + k))] _
      refine tm_istore (L' := [(4, .int (iI (220 * r + k))), (3, .int (iI k)), (2, .int (iI n1)), (0, .ref b), (1, .int (iI r))]) dX12_alike_20 (by decide) rfl ?_
      refine tm_aload_n dX12_alike_22 rfl 3 rfl ?_
      refine tm_get (k := 3) (v := .ref (b + 1 + 1)) lay_12 dX12_alike_23 (by decide) fl12_13 rfl ?_
      refine tm_iload dX12_alike_26 0 rfl ?_
      refine tm_iald (z := 220 * r + k) (v := σ.2.1 3 (220 * r + k)) dX12_alike_28 (show mT[1]? = some (3, 0, 2860) from rfl) (by omega) (by omega) (by decide) (rfl) ?_
      have g7 := RG.a hR 3 (220 * r + k)
      refine tm_callS (M := m_X12_alike) (pc := 29) (ix := 196) (M' := m_X12_isFive) (As := [.int (iI (σ.2.1 3 (220 * r + k)))]) (rest := []) dX12_alike_29 ok_X12_isFive stt_X12_isFive ml12_196 np_X12_isFive rfl (Nat.le_of_ble_eq_true rfl) (Nat.le_of_ble_eq_true rfl) rfl (c_X12_isFive (d + 3) (σ := σ) (x := σ.2.1 3 (220 * r + k)) (by omega)) (fun r8 σ9 hp => ?_)
      obtain ⟨v10, rfl, rfl, f11, f12⟩ := hp
      show Tm _ _ 32 b σ [(4, .int (iI (220 * r + k))), (3, .int (iI k)), (2, .int (iI n1)), (0, .ref b), (1, .int (iI r))] [.int (iI v10)] _
      refine tm_if_ne (tgt := 38) dX12_alike_32 (by decide) ⟨by omega, by omega⟩ (fun h13 => ?_) (fun h13 => ?_)
      · refine tm_iload_n dX12_alike_38 rfl 1 rfl ?_
        refine tm_iconst dX12_alike_39 ?_
        refine tm_isub dX12_alike_40 ?_
        refine tm_istore (L' := [(5, .int (iI (k - 1))), (4, .int (iI (220 * r + k))), (3, .int (iI k)), (2, .int (iI n1)), (0, .ref b), (1, .int (iI r))]) dX12_alike_41 (by decide) rfl ?_
        refine tm_sub [0, 1, 2, 3, 4, 5] rfl (l_alike2 (d) (σ := σ) (r := r) (n1 := n1) (k := k) (F := F) hr hR hit1 hpar1 hok (by omega) (fun j19 f17 f18 => ?_) _ (k - 1) (by omega) rfl)
        show Tm _ _ 98 b σ [(5, .int (iI j19)), (4, .int (iI (220 * r + k))), (3, .int (iI k)), (2, .int (iI n1)), (0, .ref b), (1, .int (iI r))] [] _
        refine tm_iload dX12_alike_98 0 rfl ?_
        refine tm_if_lt (tgt := 164) dX12_alike_100 (by decide) ⟨by omega, by omega⟩ (fun h20 => ?_) (fun h20 => ?_)
        · refine tm_iinc (q0 := 2) (L' := [(3, .int (iI (k + 1))), (5, .int (iI j19)), (4, .int (iI (220 * r + k))), (2, .int (iI n1)), (0, .ref b), (1, .int (iI r))]) dX12_alike_164 rfl (by decide) rfl ?_
          refine tm_goto (tgt := 4) dX12_alike_167 (by decide) ?_
          exact tm_sub [0, 3, 4, 5] rfl (ih _ (by omega) (n1) (k + 1) σ (Fr.rfl.trans (Fr.sub hF (by decide) (by decide) (by decide))) hR (by omega) hok hxo hkc rfl)
        · refine tm_aload_n dX12_alike_103 rfl 4 rfl ?_
          refine tm_get (k := 3) (v := .ref (b + 1 + 1)) lay_12 dX12_alike_104 (by decide) fl12_13 rfl ?_
          refine tm_aload_n dX12_alike_107 rfl 4 rfl ?_
          refine tm_iload_n dX12_alike_108 rfl 5 rfl ?_
          refine tm_iload dX12_alike_109 0 rfl ?_
          refine tm_callV (M := m_X12_alike) (pc := 111) (ix := 203) (M' := m_X12_at) (As := [.int (iI r), .int (iI j19)]) (rest := [.ref (b + 1 + 1)]) dX12_alike_111 ok_X12_at im_X12_at se_X12_at ml12_203 np_X12_at rfl rfl (Nat.le_of_ble_eq_true rfl) (Nat.le_of_ble_eq_true rfl) rfl (c_X12_at (d + 4) (σ := σ) (x := r) (k := j19) ) (fun r21 σ22 hp => ?_)
          obtain ⟨v23, rfl, rfl, f24⟩ := hp
          subst f24
          show Tm _ _ 114 b σ [(5, .int (iI j19)), (4, .int (iI (220 * r + k))), (3, .int (iI k)), (2, .int (iI n1)), (0, .ref b), (1, .int (iI r))] [.int (iI (220 * r + j19)), .ref (b + 1 + 1)] _
          refine tm_iald (z := 220 * r + j19) (v := σ.2.1 3 (220 * r + j19)) dX12_alike_114 (show mT[1]? = some (3, 0, 2860) from rfl) (by omega) (by omega) (by decide) (rfl) ?_
          have g25 := RG.a hR 3 (220 * r + j19)
          refine tm_bipush dX12_alike_115 (by decide) ?_
          refine tm_icmp_eq (tgt := 164) dX12_alike_117 (by decide) ⟨by omega, by omega⟩ ⟨by decide, by decide⟩ (fun h26 => ?_) (fun h26 => ?_)
          · refine tm_iinc (q0 := 2) (L' := [(3, .int (iI (k + 1))), (5, .int (iI j19)), (4, .int (iI (220 * r + k))), (2, .int (iI n1)), (0, .ref b), (1, .int (iI r))]) dX12_alike_164 rfl (by decide) rfl ?_
            refine tm_goto (tgt := 4) dX12_alike_167 (by decide) ?_
            exact tm_sub [0, 3, 4, 5] rfl (ih _ (by omega) (n1) (k + 1) σ (Fr.rfl.trans (Fr.sub hF (by decide) (by decide) (by decide))) hR (by omega) hok hxo hkc rfl)
          · have q5 := hok.dest (k := j19) (by omega) (by omega) (by omega)
            have q4 : σ.2.1 4 = σ0.2.1 4 := hF.2.1 4 (by decide)
            rw [q4] at q5
            refine tm_aload_n dX12_alike_120 rfl 4 rfl ?_
            refine tm_get (k := 4) (v := .ref (b + 1 + 2)) lay_12 dX12_alike_121 (by decide) fl12_17 rfl ?_
            refine tm_aload_n dX12_alike_124 rfl 4 rfl ?_
            refine tm_iload_n dX12_alike_125 rfl 5 rfl ?_
            refine tm_iload dX12_alike_126 0 rfl ?_
            refine tm_callV (M := m_X12_alike) (pc := 128) (ix := 203) (M' := m_X12_at) (As := [.int (iI r), .int (iI j19)]) (rest := [.ref (b + 1 + 2)]) dX12_alike_128 ok_X12_at im_X12_at se_X12_at ml12_203 np_X12_at rfl rfl (Nat.le_of_ble_eq_true rfl) (Nat.le_of_ble_eq_true rfl) rfl (c_X12_at (d + 4) (σ := σ) (x := r) (k := j19) ) (fun r27 σ28 hp => ?_)
            obtain ⟨v29, rfl, rfl, f30⟩ := hp
            subst f30
            show Tm _ _ 131 b σ [(5, .int (iI j19)), (4, .int (iI (220 * r + k))), (3, .int (iI k)), (2, .int (iI n1)), (0, .ref b), (1, .int (iI r))] [.int (iI (220 * r + j19)), .ref (b + 1 + 2)] _
            refine tm_iald (z := 220 * r + j19) (v := σ0.2.1 4 (220 * r + j19)) dX12_alike_131 (show mT[2]? = some (4, 0, 2860) from rfl) (by omega) (by omega) (by decide) (ra_F hF (by decide) (rfl)) ?_
            have g31 := RG.a hR0 4 (220 * r + j19)
            refine tm_istore (L' := [(6, .int (iI (σ0.2.1 4 (220 * r + j19)))), (5, .int (iI j19)), (4, .int (iI (220 * r + k))), (3, .int (iI k)), (2, .int (iI n1)), (0, .ref b), (1, .int (iI r))]) dX12_alike_132 (by decide) rfl ?_
            refine tm_aload_n dX12_alike_134 rfl 5 rfl ?_
            refine tm_get (k := 3) (v := .ref (b + 1 + 1)) lay_12 dX12_alike_135 (by decide) fl12_13 rfl ?_
            refine tm_iload dX12_alike_138 2 rfl ?_
            refine tm_iconst dX12_alike_140 ?_
            refine tm_iast (z := 220 * r + k) (v := 0) dX12_alike_141 (show mT[1]? = some (3, 0, 2860) from rfl) (by omega) (by omega) (by decide) ?_
            refine tm_aload_n dX12_alike_142 rfl 5 rfl ?_
            refine tm_iload dX12_alike_143 2 rfl ?_
            refine tm_iconst dX12_alike_145 ?_
            refine tm_iconst dX12_alike_146 ?_
            refine tm_iload dX12_alike_147 0 rfl ?_
            refine tm_callV (M := m_X12_alike) (pc := 149) (ix := 298) (M' := m_X12_setArg) (As := [.int (iI (220 * r + k)), .int (iI 0), .int (iI 2), .int (iI (σ0.2.1 4 (220 * r + j19)))]) (rest := []) dX12_alike_149 ok_X12_setArg im_X12_setArg se_X12_setArg ml12_298 np_X12_setArg rfl rfl (Nat.le_of_ble_eq_true rfl) (Nat.le_of_ble_eq_true rfl) rfl (c_X12_setArg (d + 4) (σ := (sA 3 (220 * r + k) (0) σ)) (x := 220 * r + k) (i := 0) (k := 2) (w := σ0.2.1 4 (220 * r + j19)) (by omega)) (fun r32 σ33 hp => ?_)
            obtain ⟨rfl, f35⟩ := hp
            subst f35
            show Tm _ _ 152 b (fArg (220 * r + k) (0) (2) (σ0.2.1 4 (220 * r + j19)) (sA 3 (220 * r + k) (0) σ)) [(6, .int (iI (σ0.2.1 4 (220 * r + j19)))), (5, .int (iI j19)), (4, .int (iI (220 * r + k))), (3, .int (iI k)), (2, .int (iI n1)), (0, .ref b), (1, .int (iI r))] [] _
            refine tm_aload_n dX12_alike_152 rfl 5 rfl ?_
            refine tm_iload dX12_alike_153 2 rfl ?_
            refine tm_iconst dX12_alike_155 ?_
            refine tm_iconst dX12_alike_156 ?_
            refine tm_iconst dX12_alike_157 ?_
            refine tm_callV (M := m_X12_alike) (pc := 158) (ix := 298) (M' := m_X12_setArg) (As := [.int (iI (220 * r + k)), .int (iI 1), .int (iI 0), .int (iI 0)]) (rest := []) dX12_alike_158 ok_X12_setArg im_X12_setArg se_X12_setArg ml12_298 np_X12_setArg rfl rfl (Nat.le_of_ble_eq_true rfl) (Nat.le_of_ble_eq_true rfl) rfl (c_X12_setArg (d + 4) (σ := (fArg (220 * r + k) (0) (2) (σ0.2.1 4 (220 * r + j19)) (sA 3 (220 * r + k) (0) σ))) (x := 220 * r + k) (i := 1) (k := 0) (w := 0) (by omega)) (fun r36 σ37 hp => ?_)
            obtain ⟨rfl, f39⟩ := hp
            subst f39
            show Tm _ _ 161 b (fArg (220 * r + k) (1) (0) (0) (fArg (220 * r + k) (0) (2) (σ0.2.1 4 (220 * r + j19)) (sA 3 (220 * r + k) (0) σ))) [(6, .int (iI (σ0.2.1 4 (220 * r + j19)))), (5, .int (iI j19)), (4, .int (iI (220 * r + k))), (3, .int (iI k)), (2, .int (iI n1)), (0, .ref b), (1, .int (iI r))] [] _
            refine tm_iinc (q0 := 4) (L' := [(2, .int (iI (n1 + 1))), (6, .int (iI (σ0.2.1 4 (220 * r + j19)))), (5, .int (iI j19)), (4, .int (iI (220 * r + k))), (3, .int (iI k)), (0, .ref b), (1, .int (iI r))]) dX12_alike_161 rfl (by decide) rfl ?_
            refine tm_iinc (q0 := 4) (L' := [(3, .int (iI (k + 1))), (2, .int (iI (n1 + 1))), (6, .int (iI (σ0.2.1 4 (220 * r + j19)))), (5, .int (iI j19)), (4, .int (iI (220 * r + k))), (0, .ref b), (1, .int (iI r))]) dX12_alike_164 rfl (by decide) rfl ?_
            refine tm_goto (tgt := 4) dX12_alike_167 (by decide) ?_
            exact tm_sub [0, 1, 5, 6] rfl (ih _ (by omega) (n1 + 1) (k + 1) (fArg (220 * r + k) (1) (0) (0) (fArg (220 * r + k) (0) (2) (σ0.2.1 4 (220 * r + j19)) (sA 3 (220 * r + k) (0) σ))) ((((Fr.rfl.trans (Fr.sub hF (by decide) (by decide) (by decide))).A (by decide)).trans (Fr.sub fArg_fr (by decide) (by decide) (by decide))).trans (Fr.sub fArg_fr (by decide) (by decide) (by decide))) (((hR.A (by omega)).arg (by omega) (by omega)).arg (by omega) (by omega)) (by omega) (fCpy_off.oks hok (fCpy_oki (hok k (by omega) (by omega)) (by omega) (by omega) (by omega))) (hxo.trans (fCpy_off.xo (by omega) (by omega))) (hkc.cpy (by omega)) rfl)
      · refine tm_goto (tgt := 164) dX12_alike_35 (by decide) ?_
        refine tm_iinc (q0 := 1) (L' := [(3, .int (iI (k + 1))), (4, .int (iI (220 * r + k))), (2, .int (iI n1)), (0, .ref b), (1, .int (iI r))]) dX12_alike_164 rfl (by decide) rfl ?_
        refine tm_goto (tgt := 4) dX12_alike_167 (by decide) ?_
        exact tm_sub [0, 2, 3, 4] rfl (ih _ (by omega) (n1) (k + 1) σ (Fr.rfl.trans (Fr.sub hF (by decide) (by decide) (by decide))) hR (by omega) hok hxo hkc rfl)
theorem dX12_alike_0 : decode cX12_alike 0 = .ok (.iconst 0, 1) := by decide +kernel
theorem dX12_alike_1 : decode cX12_alike 1 = .ok (.istore_n 2, 1) := by decide +kernel
theorem dX12_alike_2 : decode cX12_alike 2 = .ok (.iconst 0, 1) := by decide +kernel
theorem dX12_alike_3 : decode cX12_alike 3 = .ok (.istore_n 3, 1) := by decide +kernel
theorem dX12_alike_170 : decode cX12_alike 170 = .ok (.iload_n 2, 1) := by decide +kernel
theorem dX12_alike_171 : decode cX12_alike 171 = .ok (.ireturn, 1) := by decide +kernel
set_option maxHeartbeats 4000000 in
set_option maxRecDepth 20000 in
theorem c_X12_alike (d : Nat) {b : Nat} {σ : MS} {r : Int} {F : Int} (hr : 0 ≤ r ∧ r < 6) (hR : RG σ) (hit : ITM σ) (hpar : PAR σ) (hok : OKS σ F r) : Tm (d + 6) m_X12_alike 0 b σ [(0, .ref b), (1, .int (iI r))] [] (fun ro σ2 => ∃ v : Int, ro = some (.int (iI v)) ∧ (Fr [] [3, 7, 8] [] σ σ2) ∧ (RG σ2) ∧ (OKS σ2 F r) ∧ (XO r σ σ2) ∧ (KC σ σ2)) := by
  have q1 := hit r (by omega) (by omega)
  refine tm_iconst dX12_alike_0 ?_
  refine tm_istore_n (L' := [(2, .int (iI 0)), (0, .ref b), (1, .int (iI r))]) dX12_alike_1 rfl (by decide) rfl ?_
  refine tm_iconst dX12_alike_2 ?_
  refine tm_istore_n (L' := [(3, .int (iI 0)), (2, .int (iI 0)), (0, .ref b), (1, .int (iI r))]) dX12_alike_3 rfl (by decide) rfl ?_
  refine tm_sub [0, 1, 2, 3] rfl (l_alike1 (d) (σ0 := σ) (r := r) (F := F) hr hR hit hpar (fun n110 k11 σ12 F4 R5 f6 f7 f8 f9 => ?_) _ (0) (0) σ Fr.rfl hR (by omega) hok XO.rfl KC.rfl rfl)
  show Tm _ _ 170 b σ12 [(3, .int (iI k11)), (2, .int (iI n110)), (0, .ref b), (1, .int (iI r))] [] _
  refine tm_iload_n dX12_alike_170 rfl 1 rfl ?_
  exact tm_iret rfl dX12_alike_171 (⟨_, rfl, (Fr.rfl.trans (Fr.sub F4 (by decide) (by decide) (by decide))), R5, f7, f8, f9⟩)
