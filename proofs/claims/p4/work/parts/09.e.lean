theorem nArgs_o {σ : MS} {k : Nat} {i v x : Int} (hk : k ≠ 3 ∧ k ≠ 5 ∧ k ≠ 6 ∧ k ≠ 11) : nArgs (sA k i v σ) x = nArgs σ x := by
  unfold nArgs
  simp only [sA, if_neg (Ne.symm hk.1), if_neg (Ne.symm hk.2.1), if_neg (Ne.symm hk.2.2.1), if_neg (Ne.symm hk.2.2.2)]
theorem oki_dest {σ : MS} {F x v : Int} (ho : OKI σ F x) (hw : σ.2.1 3 x ≤ 5 ∨ σ.2.1 3 x = 10) (hv : 0 ≤ v ∧ v < 192) : OKI (sA 4 x v σ) F x := by
  obtain ⟨o1, o2, o3, o4, o5, o6, o7, o8, o9⟩ := ho
  have e4 : (sA 4 x v σ).2.1 4 x = v := ra_eq
  unfold OKI
  rw [nArgs_o (by decide), e4]
  exact ⟨o1, fun _ => hv, fun q => by have : σ.2.1 3 x = 8 ∨ σ.2.1 3 x = 9 ∨ σ.2.1 3 x = 13 := q; omega, fun q => by have : σ.2.1 3 x = 14 ∨ σ.2.1 3 x = 15 := q; omega, fun q => by have : σ.2.1 3 x = 12 := q; omega, o6, o7, o8, o9⟩
theorem oki_arg {σ : MS} {F x i v : Int} (ho : OKI σ F x) (h0 : 0 ≤ i) (h1 : i < 4) (hv : σ.2.1 7 (4 * x + i) = 2 → 0 ≤ v ∧ v < 192) : OKI (sA 8 (4 * x + i) v σ) F x := by
  obtain ⟨o1, o2, o3, o4, o5, o6, o7, o8, o9⟩ := ho
  unfold OKI
  rw [nArgs_o (by decide)]
  refine ⟨o1, o2, o3, o4, o5, o6, o7, fun j c e => ⟨(o8 j c e).1, fun q => ⟨?_, ((o8 j c e).2 q).2⟩⟩, o9⟩
  by_cases hj : j = i
  · subst hj
    rw [show (sA 8 (4 * x + j) v σ).2.1 8 (4 * x + j) = v from ra_eq]
    exact hv q
  · rw [show (sA 8 (4 * x + i) v σ).2.1 8 (4 * x + j) = σ.2.1 8 (4 * x + j) from ra_ne (by omega) rfl]
    exact ((o8 j c e).2 q).1
theorem OFF.a8 {x i v : Int} {σ : MS} (h0 : 0 ≤ i) (h1 : i < 4) : OFF x σ (sA 8 (4 * x + i) v σ) := ⟨fun y hy => ⟨Eq.refl _, Eq.refl _, Eq.refl _, Eq.refl _⟩, fun z hz => ⟨Eq.refl _, ra_ne (by omega) (Eq.refl _)⟩, Eq.refl _, Eq.refl _⟩
theorem okf_put {σ : MS} {r y v : Int} (h : OKF σ r) (hv : 0 ≤ v ∧ v < 192) : OKF (sA 18 y v σ) r := by
  refine ⟨h.1, fun f a b => ⟨(h.2 f a b).1, fun n c e => ?_⟩⟩
  by_cases q : 144 * r + 12 * f + n = y
  · rw [q, show (sA 18 y v σ).2.1 18 y = v from ra_eq]; exact hv
  · rw [show (sA 18 y v σ).2.1 18 (144 * r + 12 * f + n) = σ.2.1 18 (144 * r + 12 * f + n) from ra_ne q rfl]; exact (h.2 f a b).2 n c e
/-- nothing of the names' registers has changed but of routine r's frames -/
def XN (r : Int) (σ τ : MS) : Prop := ∀ z, (z < 144 * r ∨ 144 * r + 144 ≤ z) → τ.2.1 18 z = σ.2.1 18 z
theorem XN.rfl {r : Int} {σ : MS} : XN r σ σ := fun _ _ => Eq.refl _
theorem XN.put {r y v : Int} {σ τ : MS} (h : XN r σ τ) (hy : 144 * r ≤ y ∧ y < 144 * r + 144) : XN r σ (sA 18 y v τ) := fun z hz => ra_ne (by omega) (h z hz)
def NUL (σ : MS) : Prop := ∀ g, 0 ≤ g → g < 192 → 0 ≤ σ.2.1 64 g ∧ σ.2.1 64 g ≤ g
theorem NUL.num {σ : MS} (h : NUL σ) : NUM σ := fun g a b => ⟨(h g a b).1, by have := (h g a b).2; omega⟩
theorem NUL.fr {ss ks js : List Nat} {σ τ : MS} (h : NUL σ) (f : Fr ss ks js σ τ) (hk : 64 ∉ ks) : NUL τ := fun l => by rw [f.2.1 64 hk]; exact h l
theorem NUL.A {σ : MS} (h : NUL σ) {z v : Int} (hv : 0 ≤ v ∧ v ≤ z) : NUL (sA 64 z v σ) := fun l a b => by
  by_cases e : l = z
  · subst e; rw [show (sA 64 l v σ).2.1 64 l = v from ra_eq]; exact hv
  · rw [show (sA 64 z v σ).2.1 64 l = σ.2.1 64 l from ra_ne e rfl]; exact h l a b
/-- where an item doesn't write, its number stays -/
def DK (σ τ : MS) : Prop := ∀ x, ¬ (σ.2.1 3 x ≤ 5 ∨ σ.2.1 3 x = 10) → τ.2.1 4 x = σ.2.1 4 x
theorem DK.rfl {σ : MS} : DK σ σ := fun _ _ => Eq.refl _
theorem DK.t {ss ks js : List Nat} {σ τ υ : MS} (h : DK σ τ) (f : Fr ss ks js τ υ) (hk : 4 ∉ ks) : DK σ υ := fun x q => by rw [f.2.1 4 hk]; exact h x q
theorem DK.s {ss ks js : List Nat} {σ τ υ : MS} (h : DK τ υ) (f : Fr ss ks js σ τ) (hk : 4 ∉ ks) (h3 : 3 ∉ ks) : DK σ υ := fun x q => by
  have := h x (by rw [f.2.1 3 h3]; exact q)
  rw [this, f.2.1 4 hk]
theorem DK.put {σ τ : MS} (h : DK σ τ) {x v : Int} (hx : σ.2.1 3 x ≤ 5 ∨ σ.2.1 3 x = 10) : DK σ (sA 4 x v τ) := fun y q => ra_ne (fun e => q (by rw [e]; exact hx)) (h y q)

theorem dX12_renumber_51 : decode cX12_renumber 51 = .ok (.iload 4, 2) := by decide +kernel
theorem dX12_renumber_53 : decode cX12_renumber 53 = .ok (.aload_n 0, 1) := by decide +kernel
theorem dX12_renumber_54 : decode cX12_renumber 54 = .ok (.iload_n 3, 1) := by decide +kernel
theorem dX12_renumber_55 : decode cX12_renumber 55 = .ok (.invokevirtual 199, 3) := by decide +kernel
theorem dX12_renumber_58 : decode cX12_renumber 58 = .ok (.if_icmp .ge 65, 3) := by decide +kernel
theorem dX12_renumber_61 : decode cX12_renumber 61 = .ok (.aload_n 0, 1) := by decide +kernel
theorem dX12_renumber_62 : decode cX12_renumber 62 = .ok (.getfield 29, 3) := by decide +kernel
theorem dX12_renumber_65 : decode cX12_renumber 65 = .ok (.iconst 4, 1) := by decide +kernel
theorem dX12_renumber_66 : decode cX12_renumber 66 = .ok (.iload_n 3, 1) := by decide +kernel
theorem dX12_renumber_67 : decode cX12_renumber 67 = .ok (.imul, 1) := by decide +kernel
theorem dX12_renumber_68 : decode cX12_renumber 68 = .ok (.iload 4, 2) := by decide +kernel
theorem dX12_renumber_70 : decode cX12_renumber 70 = .ok (.iadd, 1) := by decide +kernel
theorem dX12_renumber_71 : decode cX12_renumber 71 = .ok (.aload_n 0, 1) := by decide +kernel
theorem dX12_renumber_72 : decode cX12_renumber 72 = .ok (.getfield 26, 3) := by decide +kernel
theorem dX12_renumber_75 : decode cX12_renumber 75 = .ok (.iconst 4, 1) := by decide +kernel
theorem dX12_renumber_76 : decode cX12_renumber 76 = .ok (.iload_n 3, 1) := by decide +kernel
theorem dX12_renumber_77 : decode cX12_renumber 77 = .ok (.imul, 1) := by decide +kernel
theorem dX12_renumber_78 : decode cX12_renumber 78 = .ok (.iload 4, 2) := by decide +kernel
theorem dX12_renumber_80 : decode cX12_renumber 80 = .ok (.iadd, 1) := by decide +kernel
theorem dX12_renumber_81 : decode cX12_renumber 81 = .ok (.iaload, 1) := by decide +kernel
theorem dX12_renumber_82 : decode cX12_renumber 82 = .ok (.iconst 2, 1) := by decide +kernel
theorem dX12_renumber_83 : decode cX12_renumber 83 = .ok (.if_icmp .ne 22, 3) := by decide +kernel
theorem dX12_renumber_105 : decode cX12_renumber 105 = .ok (.aload_n 0, 1) := by decide +kernel
theorem dX12_renumber_106 : decode cX12_renumber 106 = .ok (.getfield 29, 3) := by decide +kernel
theorem dX12_renumber_109 : decode cX12_renumber 109 = .ok (.iconst 4, 1) := by decide +kernel
theorem dX12_renumber_110 : decode cX12_renumber 110 = .ok (.iload_n 3, 1) := by decide +kernel
theorem dX12_renumber_111 : decode cX12_renumber 111 = .ok (.imul, 1) := by decide +kernel
theorem dX12_renumber_112 : decode cX12_renumber 112 = .ok (.iload 4, 2) := by decide +kernel
theorem dX12_renumber_114 : decode cX12_renumber 114 = .ok (.iadd, 1) := by decide +kernel
theorem dX12_renumber_115 : decode cX12_renumber 115 = .ok (.iaload, 1) := by decide +kernel
theorem dX12_renumber_116 : decode cX12_renumber 116 = .ok (.iastore, 1) := by decide +kernel
theorem dX12_renumber_117 : decode cX12_renumber 117 = .ok (.iinc 4 1, 3) := by decide +kernel
theorem dX12_renumber_120 : decode cX12_renumber 120 = .ok (.goto (-69), 3) := by decide +kernel
theorem dX12_renumber_86 : decode cX12_renumber 86 = .ok (.aload_n 0, 1) := by decide +kernel
theorem dX12_renumber_87 : decode cX12_renumber 87 = .ok (.getfield 143, 3) := by decide +kernel
theorem dX12_renumber_90 : decode cX12_renumber 90 = .ok (.aload_n 0, 1) := by decide +kernel
theorem dX12_renumber_91 : decode cX12_renumber 91 = .ok (.getfield 29, 3) := by decide +kernel
theorem dX12_renumber_94 : decode cX12_renumber 94 = .ok (.iconst 4, 1) := by decide +kernel
theorem dX12_renumber_95 : decode cX12_renumber 95 = .ok (.iload_n 3, 1) := by decide +kernel
theorem dX12_renumber_96 : decode cX12_renumber 96 = .ok (.imul, 1) := by decide +kernel
theorem dX12_renumber_97 : decode cX12_renumber 97 = .ok (.iload 4, 2) := by decide +kernel
theorem dX12_renumber_99 : decode cX12_renumber 99 = .ok (.iadd, 1) := by decide +kernel
theorem dX12_renumber_100 : decode cX12_renumber 100 = .ok (.iaload, 1) := by decide +kernel
theorem dX12_renumber_101 : decode cX12_renumber 101 = .ok (.iaload, 1) := by decide +kernel
theorem dX12_renumber_102 : decode cX12_renumber 102 = .ok (.goto 14, 3) := by decide +kernel
set_option maxHeartbeats 4000000 in
set_option maxRecDepth 20000 in
theorem l_ren2 (d : Nat) {b : Nat} {σ0 : MS} {r : Int} {F : Int} {k : Int} {post : Option Value → MS → Prop} (hr : 0 ≤ r ∧ r < 6) (hR0 : RG σ0) (hit : ITM σ0) (hpar : PAR σ0) (hnu : NUM σ0) (hk : 0 ≤ k ∧ k < σ0.2.1 9 r) (hx_123 : ∀ (i : Int) (σ : MS) , (Fr [] [8] [] σ0 σ) → (RG σ) → (OKS σ F r) → (XO r σ0 σ) → Tm (d + 4) m_X12_renumber 123 b σ [(4, .int (iI i)), (3, .int (iI (220 * r + k))), (2, .int (iI k)), (0, .ref b), (1, .int (iI r))] [] post) : ∀ (n : Nat) (i : Int) (σ : MS) , (Fr [] [8] [] σ0 σ) → (RG σ) → (0 ≤ i ∧ i ≤ 4) → (OKS σ F r) → (XO r σ0 σ) → (4 - i).toNat = n → Tm (d + 4) m_X12_renumber 51 b σ [(4, .int (iI i)), (3, .int (iI (220 * r + k))), (2, .int (iI k)), (0, .ref b), (1, .int (iI r))] [] post := by
  intro n
  induction n using Nat.strongRecOn with
  | _ n ih =>
    intro i σ hF hR h0 hok hxo hm
    have hit1 := hit.fr hF (by decide)
    have hpar1 := hpar.fr hF (by decide)
    have hnu1 := hnu.fr hF (by decide)
    have q1 := hit r (by omega) (by omega)
    have q9 : σ.2.1 9 r = σ0.2.1 9 r := by rw [hF.2.1 9 (by decide)]
    have q7 : σ.2.1 7 = σ0.2.1 7 := hF.2.1 7 (by decide)
    refine tm_iload dX12_renumber_51 0 rfl ?_
    refine tm_aload_n dX12_renumber_53 rfl 3 rfl ?_
    refine tm_iload_n dX12_renumber_54 rfl 1 rfl ?_
    refine tm_callV (M := m_X12_renumber) (pc := 55) (ix := 199) (M' := m_X12_args) (As := [.int (iI (220 * r + k))]) (rest := [.int (iI i)]) dX12_renumber_55 ok_X12_args im_X12_args se_X12_args ml12_199 np_X12_args rfl rfl (Nat.le_of_ble_eq_true rfl) (Nat.le_of_ble_eq_true rfl) rfl (c_X12_args (d) (σ := σ) (x := 220 * r + k) (by omega) hR (hok.of (by omega) (by omega)) hpar1) (fun r1 σ2 hp => ?_)
    obtain ⟨v3, rfl, rfl, f4, f5⟩ := hp
    show Tm _ _ 58 b σ [(4, .int (iI i)), (3, .int (iI (220 * r + k))), (2, .int (iI k)), (0, .ref b), (1, .int (iI r))] [.int (iI v3), .int (iI i)] _
    refine tm_icmp_ge (tgt := 123) dX12_renumber_58 (by decide) ⟨by omega, by omega⟩ ⟨by omega, by omega⟩ (fun h6 => ?_) (fun h6 => ?_)
    · exact tm_sub [0, 1, 2, 3, 4] rfl (hx_123 (i) σ (Fr.rfl.trans (Fr.sub hF (by decide) (by decide) (by decide))) hR hok hxo)
    · have q2 := hok.arg (k := k) (by omega) (by omega) (i := i) (by omega) (by omega)
      rw [q7] at q2
      refine tm_aload_n dX12_renumber_61 rfl 3 rfl ?_
      refine tm_get (k := 8) (v := .ref (b + 1 + 6)) lay_12 dX12_renumber_62 (by decide) fl12_29 rfl ?_
      refine tm_iconst dX12_renumber_65 ?_
      refine tm_iload_n dX12_renumber_66 rfl 1 rfl ?_
      refine tm_imul dX12_renumber_67 ?_
      refine tm_iload dX12_renumber_68 0 rfl ?_
      refine tm_iadd dX12_renumber_70 ?_
      refine tm_aload_n dX12_renumber_71 rfl 3 rfl ?_
      refine tm_get (k := 7) (v := .ref (b + 1 + 5)) lay_12 dX12_renumber_72 (by decide) fl12_26 rfl ?_
      refine tm_iconst dX12_renumber_75 ?_
      refine tm_iload_n dX12_renumber_76 rfl 1 rfl ?_
      refine tm_imul dX12_renumber_77 ?_
      refine tm_iload dX12_renumber_78 0 rfl ?_
      refine tm_iadd dX12_renumber_80 ?_
      refine tm_iald (z := (4 * (220 * r + k)) + i) (v := σ0.2.1 7 ((4 * (220 * r + k)) + i)) dX12_renumber_81 (show mT[5]? = some (7, 0, 11440) from rfl) (by omega) (by omega) (by decide) (ra_F hF (by decide) (rfl)) ?_
      have g7 := RG.a hR0 7 ((4 * (220 * r + k)) + i)
      refine tm_iconst dX12_renumber_82 ?_
      refine tm_icmp_ne (tgt := 105) dX12_renumber_83 (by decide) ⟨by omega, by omega⟩ ⟨by decide, by decide⟩ (fun h8 => ?_) (fun h8 => ?_)
      · refine tm_aload_n dX12_renumber_105 rfl 3 rfl ?_
        refine tm_get (k := 8) (v := .ref (b + 1 + 6)) lay_12 dX12_renumber_106 (by decide) fl12_29 rfl ?_
        refine tm_iconst dX12_renumber_109 ?_
        refine tm_iload_n dX12_renumber_110 rfl 1 rfl ?_
        refine tm_imul dX12_renumber_111 ?_
        refine tm_iload dX12_renumber_112 0 rfl ?_
        refine tm_iadd dX12_renumber_114 ?_
        refine tm_iald (z := (4 * (220 * r + k)) + i) (v := σ.2.1 8 ((4 * (220 * r + k)) + i)) dX12_renumber_115 (show mT[6]? = some (8, 0, 11440) from rfl) (by omega) (by omega) (by decide) (rfl) ?_
        have g9 := RG.a hR 8 ((4 * (220 * r + k)) + i)
        refine tm_iast (z := (4 * (220 * r + k)) + i) (v := σ.2.1 8 ((4 * (220 * r + k)) + i)) dX12_renumber_116 (show mT[6]? = some (8, 0, 11440) from rfl) (by omega) (by omega) (by decide) ?_
        refine tm_iinc (q0 := 0) (L' := [(4, .int (iI (i + 1))), (3, .int (iI (220 * r + k))), (2, .int (iI k)), (0, .ref b), (1, .int (iI r))]) dX12_renumber_117 rfl (by decide) rfl ?_
        refine tm_goto (tgt := 51) dX12_renumber_120 (by decide) ?_
        exact tm_sub [0, 1, 2, 3, 4] rfl (ih _ (by omega) (i + 1) (sA 8 ((4 * (220 * r + k)) + i) (σ.2.1 8 ((4 * (220 * r + k)) + i)) σ) ((Fr.rfl.trans (Fr.sub hF (by decide) (by decide) (by decide))).A (by decide)) (hR.A (by omega)) (by omega) ((OFF.a8 (by omega) (by omega)).oks hok (oki_arg (hok k (by omega) (by omega)) (by omega) (by omega) (by rw [q7]; omega))) (hxo.trans ((OFF.a8 (by omega) (by omega)).xo (by omega) (by omega))) rfl)
      · refine tm_aload_n dX12_renumber_86 rfl 3 rfl ?_
        refine tm_get (k := 64) (v := .ref (b + 1 + 41)) lay_12 dX12_renumber_87 (by decide) fl12_143 rfl ?_
        refine tm_aload_n dX12_renumber_90 rfl 3 rfl ?_
        refine tm_get (k := 8) (v := .ref (b + 1 + 6)) lay_12 dX12_renumber_91 (by decide) fl12_29 rfl ?_
        refine tm_iconst dX12_renumber_94 ?_
        refine tm_iload_n dX12_renumber_95 rfl 1 rfl ?_
        refine tm_imul dX12_renumber_96 ?_
        refine tm_iload dX12_renumber_97 0 rfl ?_
        refine tm_iadd dX12_renumber_99 ?_
        refine tm_iald (z := (4 * (220 * r + k)) + i) (v := σ.2.1 8 ((4 * (220 * r + k)) + i)) dX12_renumber_100 (show mT[6]? = some (8, 0, 11440) from rfl) (by omega) (by omega) (by decide) (rfl) ?_
        have g10 := RG.a hR 8 ((4 * (220 * r + k)) + i)
        refine tm_iald (z := σ.2.1 8 ((4 * (220 * r + k)) + i)) (v := σ0.2.1 64 (σ.2.1 8 ((4 * (220 * r + k)) + i))) dX12_renumber_101 (show mT[41]? = some (64, 0, 192) from rfl) (by omega) (by omega) (by decide) (ra_F hF (by decide) (rfl)) ?_
        have g11 := RG.a hR0 64 (σ.2.1 8 ((4 * (220 * r + k)) + i))
        have := hnu (σ.2.1 8 ((4 * (220 * r + k)) + i)) (by omega) (by omega)
        refine tm_goto (tgt := 116) dX12_renumber_102 (by decide) ?_
        refine tm_iast (z := (4 * (220 * r + k)) + i) (v := σ0.2.1 64 (σ.2.1 8 ((4 * (220 * r + k)) + i))) dX12_renumber_116 (show mT[6]? = some (8, 0, 11440) from rfl) (by omega) (by omega) (by decide) ?_
        refine tm_iinc (q0 := 0) (L' := [(4, .int (iI (i + 1))), (3, .int (iI (220 * r + k))), (2, .int (iI k)), (0, .ref b), (1, .int (iI r))]) dX12_renumber_117 rfl (by decide) rfl ?_
        refine tm_goto (tgt := 51) dX12_renumber_120 (by decide) ?_
        exact tm_sub [0, 1, 2, 3, 4] rfl (ih _ (by omega) (i + 1) (sA 8 ((4 * (220 * r + k)) + i) (σ0.2.1 64 (σ.2.1 8 ((4 * (220 * r + k)) + i))) σ) ((Fr.rfl.trans (Fr.sub hF (by decide) (by decide) (by decide))).A (by decide)) (hR.A (by omega)) (by omega) ((OFF.a8 (by omega) (by omega)).oks hok (oki_arg (hok k (by omega) (by omega)) (by omega) (by omega) (by rw [q7]; omega))) (hxo.trans ((OFF.a8 (by omega) (by omega)).xo (by omega) (by omega))) rfl)
theorem dX12_renumber_2 : decode cX12_renumber 2 = .ok (.iload_n 2, 1) := by decide +kernel
theorem dX12_renumber_3 : decode cX12_renumber 3 = .ok (.aload_n 0, 1) := by decide +kernel
theorem dX12_renumber_4 : decode cX12_renumber 4 = .ok (.getfield 32, 3) := by decide +kernel
theorem dX12_renumber_7 : decode cX12_renumber 7 = .ok (.iload_n 1, 1) := by decide +kernel
theorem dX12_renumber_8 : decode cX12_renumber 8 = .ok (.iaload, 1) := by decide +kernel
theorem dX12_renumber_9 : decode cX12_renumber 9 = .ok (.if_icmp .ge 120, 3) := by decide +kernel
theorem dX12_renumber_12 : decode cX12_renumber 12 = .ok (.aload_n 0, 1) := by decide +kernel
theorem dX12_renumber_13 : decode cX12_renumber 13 = .ok (.iload_n 1, 1) := by decide +kernel
theorem dX12_renumber_14 : decode cX12_renumber 14 = .ok (.iload_n 2, 1) := by decide +kernel
theorem dX12_renumber_15 : decode cX12_renumber 15 = .ok (.invokevirtual 203, 3) := by decide +kernel
theorem dX12_renumber_18 : decode cX12_renumber 18 = .ok (.istore_n 3, 1) := by decide +kernel
theorem dX12_renumber_19 : decode cX12_renumber 19 = .ok (.aload_n 0, 1) := by decide +kernel
theorem dX12_renumber_20 : decode cX12_renumber 20 = .ok (.getfield 13, 3) := by decide +kernel
theorem dX12_renumber_23 : decode cX12_renumber 23 = .ok (.iload_n 3, 1) := by decide +kernel
theorem dX12_renumber_24 : decode cX12_renumber 24 = .ok (.iaload, 1) := by decide +kernel
theorem dX12_renumber_25 : decode cX12_renumber 25 = .ok (.invokestatic 192, 3) := by decide +kernel
theorem dX12_renumber_28 : decode cX12_renumber 28 = .ok (.ifCond .eq 20, 3) := by decide +kernel
theorem dX12_renumber_48 : decode cX12_renumber 48 = .ok (.iconst 0, 1) := by decide +kernel
theorem dX12_renumber_49 : decode cX12_renumber 49 = .ok (.istore 4, 2) := by decide +kernel
theorem dX12_renumber_123 : decode cX12_renumber 123 = .ok (.iinc 2 1, 3) := by decide +kernel
theorem dX12_renumber_126 : decode cX12_renumber 126 = .ok (.goto (-124), 3) := by decide +kernel
theorem dX12_renumber_31 : decode cX12_renumber 31 = .ok (.aload_n 0, 1) := by decide +kernel
theorem dX12_renumber_32 : decode cX12_renumber 32 = .ok (.getfield 17, 3) := by decide +kernel
theorem dX12_renumber_35 : decode cX12_renumber 35 = .ok (.iload_n 3, 1) := by decide +kernel
theorem dX12_renumber_36 : decode cX12_renumber 36 = .ok (.aload_n 0, 1) := by decide +kernel
theorem dX12_renumber_37 : decode cX12_renumber 37 = .ok (.getfield 143, 3) := by decide +kernel
theorem dX12_renumber_40 : decode cX12_renumber 40 = .ok (.aload_n 0, 1) := by decide +kernel
theorem dX12_renumber_41 : decode cX12_renumber 41 = .ok (.getfield 17, 3) := by decide +kernel
theorem dX12_renumber_44 : decode cX12_renumber 44 = .ok (.iload_n 3, 1) := by decide +kernel
theorem dX12_renumber_45 : decode cX12_renumber 45 = .ok (.iaload, 1) := by decide +kernel
theorem dX12_renumber_46 : decode cX12_renumber 46 = .ok (.iaload, 1) := by decide +kernel
theorem dX12_renumber_47 : decode cX12_renumber 47 = .ok (.iastore, 1) := by decide +kernel
set_option maxHeartbeats 4000000 in
set_option maxRecDepth 20000 in
theorem l_ren1 (d : Nat) {b : Nat} {σ0 : MS} {r : Int} {F : Int} {post : Option Value → MS → Prop} (hr : 0 ≤ r ∧ r < 6) (hR0 : RG σ0) (hit : ITM σ0) (hpar : PAR σ0) (hnu : NUM σ0) (hx_129 : ∀ (k : Int) (σ : MS) , (Fr [] [4, 8] [] σ0 σ) → (RG σ) → (OKS σ F r) → (XO r σ0 σ) → (DK σ0 σ) → Tm (d + 4) m_X12_renumber 129 b σ [(2, .int (iI k)), (0, .ref b), (1, .int (iI r))] [] post) : ∀ (n : Nat) (k : Int) (σ : MS) , (Fr [] [4, 8] [] σ0 σ) → (RG σ) → (0 ≤ k ∧ k ≤ σ0.2.1 9 r) → (OKS σ F r) → (XO r σ0 σ) → (DK σ0 σ) → (220 - k).toNat = n → Tm (d + 4) m_X12_renumber 2 b σ [(2, .int (iI k)), (0, .ref b), (1, .int (iI r))] [] post := by
  intro n
  induction n using Nat.strongRecOn with
  | _ n ih =>
    intro k σ hF hR h0 hok hxo hdk hm
    have hit1 := hit.fr hF (by decide)
    have hpar1 := hpar.fr hF (by decide)
    have hnu1 := hnu.fr hF (by decide)
    have q1 := hit r (by omega) (by omega)
    have q9 : σ.2.1 9 r = σ0.2.1 9 r := by rw [hF.2.1 9 (by decide)]
    have q3 : σ.2.1 3 = σ0.2.1 3 := hF.2.1 3 (by decide)
    refine tm_iload_n dX12_renumber_2 rfl 0 rfl ?_
    refine tm_aload_n dX12_renumber_3 rfl 1 rfl ?_
    refine tm_get (k := 9) (v := .ref (b + 1 + 7)) lay_12 dX12_renumber_4 (by decide) fl12_32 rfl ?_
    refine tm_iload_n dX12_renumber_7 rfl 2 rfl ?_
    refine tm_iald (z := r) (v := σ0.2.1 9 r) dX12_renumber_8 (show mT[7]? = some (9, 0, 13) from rfl) (by omega) (by omega) (by decide) (ra_F hF (by decide) (rfl)) ?_
    have g1 := RG.a hR0 9 (r)
    refine tm_icmp_ge (tgt := 129) dX12_renumber_9 (by decide) ⟨by omega, by omega⟩ ⟨by omega, by omega⟩ (fun h2 => ?_) (fun h2 => ?_)
    · exact tm_sub [0, 1, 2] rfl (hx_129 (k) σ (Fr.rfl.trans (Fr.sub hF (by decide) (by decide) (by decide))) hR hok hxo hdk)
    · refine tm_aload_n dX12_renumber_12 rfl 1 rfl ?_
      refine tm_iload_n dX12_renumber_13 rfl 2 rfl ?_
      refine tm_iload_n dX12_renumber_14 rfl 0 rfl ?_
      refine tm_callV (M := m_X12_renumber) (pc := 15) (ix := 203) (M' := m_X12_at) (As := [.int (iI r), .int (iI k)]) (rest := []) dX12_renumber_15 ok_X12_at im_X12_at se_X12_at ml12_203 np_X12_at rfl rfl (Nat.le_of_ble_eq_true rfl) (Nat.le_of_ble_eq_true rfl) rfl (c_X12_at (d + 2) (σ := σ) (x := r) (k := k) ) (fun r3 σ4 hp => ?_)
      obtain ⟨v5, rfl, rfl, f6⟩ := hp
      subst f6
      show Tm _ _ 18 b σ [(2, .int (iI k)), (0, .ref b), (1, .int (iI r))] [.int (iI (220 * r + k))] _
      refine tm_istore_n (L' := [(3, .int (iI (220 * r + k))), (2, .int (iI k)), (0, .ref b), (1, .int (iI r))]) dX12_renumber_18 rfl (by decide) rfl ?_
      refine tm_aload_n dX12_renumber_19 rfl 2 rfl ?_
      refine tm_get (k := 3) (v := .ref (b + 1 + 1)) lay_12 dX12_renumber_20 (by decide) fl12_13 rfl ?_
      refine tm_iload_n dX12_renumber_23 rfl 0 rfl ?_
      refine tm_iald (z := 220 * r + k) (v := σ0.2.1 3 (220 * r + k)) dX12_renumber_24 (show mT[1]? = some (3, 0, 2860) from rfl) (by omega) (by omega) (by decide) (ra_F hF (by decide) (rfl)) ?_
      have g7 := RG.a hR0 3 (220 * r + k)
      refine tm_callS (M := m_X12_renumber) (pc := 25) (ix := 192) (M' := m_X12_writes) (As := [.int (iI (σ0.2.1 3 (220 * r + k)))]) (rest := []) dX12_renumber_25 ok_X12_writes stt_X12_writes ml12_192 np_X12_writes rfl (Nat.le_of_ble_eq_true rfl) (Nat.le_of_ble_eq_true rfl) rfl (c_X12_writes (d + 2) (σ := σ) (x := σ0.2.1 3 (220 * r + k)) (by omega)) (fun r8 σ9 hp => ?_)
      obtain ⟨v10, rfl, rfl, f11, f12⟩ := hp
      show Tm _ _ 28 b σ [(3, .int (iI (220 * r + k))), (2, .int (iI k)), (0, .ref b), (1, .int (iI r))] [.int (iI v10)] _
      refine tm_if_eq (tgt := 48) dX12_renumber_28 (by decide) ⟨by omega, by omega⟩ (fun h13 => ?_) (fun h13 => ?_)
      · refine tm_iconst dX12_renumber_48 ?_
        refine tm_istore (L' := [(4, .int (iI 0)), (3, .int (iI (220 * r + k))), (2, .int (iI k)), (0, .ref b), (1, .int (iI r))]) dX12_renumber_49 (by decide) rfl ?_
        refine tm_sub [0, 1, 2, 3, 4] rfl (l_ren2 (d) (σ0 := σ) (r := r) (k := k) (F := F) hr hR (hit.fr (show Fr [] [4, 8] [] σ0 σ from (Fr.rfl.trans (Fr.sub hF (by decide) (by decide) (by decide)))) (by decide)) (hpar.fr (show Fr [] [4, 8] [] σ0 σ from (Fr.rfl.trans (Fr.sub hF (by decide) (by decide) (by decide)))) (by decide)) (hnu.fr (show Fr [] [4, 8] [] σ0 σ from (Fr.rfl.trans (Fr.sub hF (by decide) (by decide) (by decide)))) (by decide)) (by rw [((show Fr [] [4, 8] [] σ0 σ from (Fr.rfl.trans (Fr.sub hF (by decide) (by decide) (by decide))))).2.1 9 (by decide)]; omega) (fun i20 σ21 F16 R17 f18 f19 => ?_) _ (0) σ Fr.rfl hR (by omega) hok XO.rfl rfl)
        show Tm _ _ 123 b σ21 [(4, .int (iI i20)), (3, .int (iI (220 * r + k))), (2, .int (iI k)), (0, .ref b), (1, .int (iI r))] [] _
        refine tm_iinc (q0 := 2) (L' := [(2, .int (iI (k + 1))), (4, .int (iI i20)), (3, .int (iI (220 * r + k))), (0, .ref b), (1, .int (iI r))]) dX12_renumber_123 rfl (by decide) rfl ?_
        refine tm_goto (tgt := 2) dX12_renumber_126 (by decide) ?_
        exact tm_sub [0, 3, 4] rfl (ih _ (by omega) (k + 1) σ21 ((Fr.rfl.trans (Fr.sub hF (by decide) (by decide) (by decide))).trans (Fr.sub F16 (by decide) (by decide) (by decide))) R17 (by omega) f18 (hxo.trans f19) (hdk.t F16 (by decide)) rfl)
      · have q2 := hok.dest (k := k) (by omega) (by omega) (by rw [q3]; omega)
        have hokd : ∀ v, 0 ≤ v ∧ v < 192 → OKS (sA 4 (220 * r + k) v σ) F r := fun v hv => (OFF.A (by decide)).oks hok (oki_dest (hok k (by omega) (by omega)) (by rw [q3]; omega) hv)
        refine tm_aload_n dX12_renumber_31 rfl 2 rfl ?_
        refine tm_get (k := 4) (v := .ref (b + 1 + 2)) lay_12 dX12_renumber_32 (by decide) fl12_17 rfl ?_
        refine tm_iload_n dX12_renumber_35 rfl 0 rfl ?_
        refine tm_aload_n dX12_renumber_36 rfl 2 rfl ?_
        refine tm_get (k := 64) (v := .ref (b + 1 + 41)) lay_12 dX12_renumber_37 (by decide) fl12_143 rfl ?_
        refine tm_aload_n dX12_renumber_40 rfl 2 rfl ?_
        refine tm_get (k := 4) (v := .ref (b + 1 + 2)) lay_12 dX12_renumber_41 (by decide) fl12_17 rfl ?_
        refine tm_iload_n dX12_renumber_44 rfl 0 rfl ?_
        refine tm_iald (z := 220 * r + k) (v := σ.2.1 4 (220 * r + k)) dX12_renumber_45 (show mT[2]? = some (4, 0, 2860) from rfl) (by omega) (by omega) (by decide) (rfl) ?_
        have g22 := RG.a hR 4 (220 * r + k)
        refine tm_iald (z := σ.2.1 4 (220 * r + k)) (v := σ0.2.1 64 (σ.2.1 4 (220 * r + k))) dX12_renumber_46 (show mT[41]? = some (64, 0, 192) from rfl) (by omega) (by omega) (by decide) (ra_F hF (by decide) (rfl)) ?_
        have g23 := RG.a hR0 64 (σ.2.1 4 (220 * r + k))
        have := hnu (σ.2.1 4 (220 * r + k)) (by omega) (by omega)
        refine tm_iast (z := 220 * r + k) (v := σ0.2.1 64 (σ.2.1 4 (220 * r + k))) dX12_renumber_47 (show mT[2]? = some (4, 0, 2860) from rfl) (by omega) (by omega) (by decide) ?_
        refine tm_iconst dX12_renumber_48 ?_
        refine tm_istore (L' := [(4, .int (iI 0)), (3, .int (iI (220 * r + k))), (2, .int (iI k)), (0, .ref b), (1, .int (iI r))]) dX12_renumber_49 (by decide) rfl ?_
        refine tm_sub [0, 1, 2, 3, 4] rfl (l_ren2 (d) (σ0 := (sA 4 (220 * r + k) (σ0.2.1 64 (σ.2.1 4 (220 * r + k))) σ)) (r := r) (k := k) (F := F) hr (hR.A (by omega)) (hit.fr (show Fr [] [4, 8] [] σ0 (sA 4 (220 * r + k) (σ0.2.1 64 (σ.2.1 4 (220 * r + k))) σ) from ((Fr.rfl.trans (Fr.sub hF (by decide) (by decide) (by decide))).A (by decide))) (by decide)) (hpar.fr (show Fr [] [4, 8] [] σ0 (sA 4 (220 * r + k) (σ0.2.1 64 (σ.2.1 4 (220 * r + k))) σ) from ((Fr.rfl.trans (Fr.sub hF (by decide) (by decide) (by decide))).A (by decide))) (by decide)) (hnu.fr (show Fr [] [4, 8] [] σ0 (sA 4 (220 * r + k) (σ0.2.1 64 (σ.2.1 4 (220 * r + k))) σ) from ((Fr.rfl.trans (Fr.sub hF (by decide) (by decide) (by decide))).A (by decide))) (by decide)) (by rw [((show Fr [] [4, 8] [] σ0 (sA 4 (220 * r + k) (σ0.2.1 64 (σ.2.1 4 (220 * r + k))) σ) from ((Fr.rfl.trans (Fr.sub hF (by decide) (by decide) (by decide))).A (by decide)))).2.1 9 (by decide)]; omega) (fun i30 σ31 F26 R27 f28 f29 => ?_) _ (0) (sA 4 (220 * r + k) (σ0.2.1 64 (σ.2.1 4 (220 * r + k))) σ) Fr.rfl (hR.A (by omega)) (by omega) (hokd _ (by omega)) XO.rfl rfl)
        show Tm _ _ 123 b σ31 [(4, .int (iI i30)), (3, .int (iI (220 * r + k))), (2, .int (iI k)), (0, .ref b), (1, .int (iI r))] [] _
        refine tm_iinc (q0 := 2) (L' := [(2, .int (iI (k + 1))), (4, .int (iI i30)), (3, .int (iI (220 * r + k))), (0, .ref b), (1, .int (iI r))]) dX12_renumber_123 rfl (by decide) rfl ?_
        refine tm_goto (tgt := 2) dX12_renumber_126 (by decide) ?_
        exact tm_sub [0, 3, 4] rfl (ih _ (by omega) (k + 1) σ31 (((Fr.rfl.trans (Fr.sub hF (by decide) (by decide) (by decide))).A (by decide)).trans (Fr.sub F26 (by decide) (by decide) (by decide))) R27 (by omega) f28 ((hxo.trans ((OFF.A (by decide)).xo (by omega) (by omega))).trans f29) ((hdk.put (by omega)).t F26 (by decide)) rfl)
theorem dX12_renumber_143 : decode cX12_renumber 143 = .ok (.iload_n 3, 1) := by decide +kernel
theorem dX12_renumber_144 : decode cX12_renumber 144 = .ok (.aload_n 0, 1) := by decide +kernel
theorem dX12_renumber_145 : decode cX12_renumber 145 = .ok (.getfield 38, 3) := by decide +kernel
theorem dX12_renumber_148 : decode cX12_renumber 148 = .ok (.aload_n 0, 1) := by decide +kernel
theorem dX12_renumber_149 : decode cX12_renumber 149 = .ok (.getfield 47, 3) := by decide +kernel
theorem dX12_renumber_152 : decode cX12_renumber 152 = .ok (.bipush 12, 2) := by decide +kernel
theorem dX12_renumber_154 : decode cX12_renumber 154 = .ok (.iload_n 1, 1) := by decide +kernel
theorem dX12_renumber_155 : decode cX12_renumber 155 = .ok (.imul, 1) := by decide +kernel
theorem dX12_renumber_156 : decode cX12_renumber 156 = .ok (.iload_n 2, 1) := by decide +kernel
theorem dX12_renumber_157 : decode cX12_renumber 157 = .ok (.iadd, 1) := by decide +kernel
theorem dX12_renumber_158 : decode cX12_renumber 158 = .ok (.iaload, 1) := by decide +kernel
theorem dX12_renumber_159 : decode cX12_renumber 159 = .ok (.iaload, 1) := by decide +kernel
theorem dX12_renumber_160 : decode cX12_renumber 160 = .ok (.if_icmp .ge 42, 3) := by decide +kernel
theorem dX12_renumber_163 : decode cX12_renumber 163 = .ok (.sipush 144, 3) := by decide +kernel
theorem dX12_renumber_166 : decode cX12_renumber 166 = .ok (.iload_n 1, 1) := by decide +kernel
theorem dX12_renumber_167 : decode cX12_renumber 167 = .ok (.imul, 1) := by decide +kernel
theorem dX12_renumber_168 : decode cX12_renumber 168 = .ok (.bipush 12, 2) := by decide +kernel
theorem dX12_renumber_170 : decode cX12_renumber 170 = .ok (.iload_n 2, 1) := by decide +kernel
theorem dX12_renumber_171 : decode cX12_renumber 171 = .ok (.imul, 1) := by decide +kernel
theorem dX12_renumber_172 : decode cX12_renumber 172 = .ok (.iadd, 1) := by decide +kernel
theorem dX12_renumber_173 : decode cX12_renumber 173 = .ok (.iload_n 3, 1) := by decide +kernel
theorem dX12_renumber_174 : decode cX12_renumber 174 = .ok (.iadd, 1) := by decide +kernel
theorem dX12_renumber_175 : decode cX12_renumber 175 = .ok (.istore 4, 2) := by decide +kernel
theorem dX12_renumber_177 : decode cX12_renumber 177 = .ok (.aload_n 0, 1) := by decide +kernel
theorem dX12_renumber_178 : decode cX12_renumber 178 = .ok (.getfield 56, 3) := by decide +kernel
theorem dX12_renumber_181 : decode cX12_renumber 181 = .ok (.iload 4, 2) := by decide +kernel
theorem dX12_renumber_183 : decode cX12_renumber 183 = .ok (.aload_n 0, 1) := by decide +kernel
theorem dX12_renumber_184 : decode cX12_renumber 184 = .ok (.getfield 143, 3) := by decide +kernel
theorem dX12_renumber_187 : decode cX12_renumber 187 = .ok (.aload_n 0, 1) := by decide +kernel
theorem dX12_renumber_188 : decode cX12_renumber 188 = .ok (.getfield 56, 3) := by decide +kernel
theorem dX12_renumber_191 : decode cX12_renumber 191 = .ok (.iload 4, 2) := by decide +kernel
theorem dX12_renumber_193 : decode cX12_renumber 193 = .ok (.iaload, 1) := by decide +kernel
theorem dX12_renumber_194 : decode cX12_renumber 194 = .ok (.iaload, 1) := by decide +kernel
theorem dX12_renumber_195 : decode cX12_renumber 195 = .ok (.iastore, 1) := by decide +kernel
theorem dX12_renumber_196 : decode cX12_renumber 196 = .ok (.iinc 3 1, 3) := by decide +kernel
theorem dX12_renumber_199 : decode cX12_renumber 199 = .ok (.goto (-56), 3) := by decide +kernel
set_option maxHeartbeats 4000000 in
set_option maxRecDepth 20000 in
theorem l_ren4 (d : Nat) {b : Nat} {σ0 : MS} {r : Int} {f : Int} {post : Option Value → MS → Prop} (hr : 0 ≤ r ∧ r < 6) (hR0 : RG σ0) (hnam : NAM σ0) (hnu : NUM σ0) (hf : 0 ≤ f ∧ f < σ0.2.1 14 r) (hx_202 : ∀ (n1 : Int) (σ : MS) , (Fr [] [18] [] σ0 σ) → (RG σ) → (OKF σ r) → (XN r σ0 σ) → Tm (d + 1) m_X12_renumber 202 b σ [(3, .int (iI n1)), (2, .int (iI f)), (0, .ref b), (1, .int (iI r))] [] post) : ∀ (n : Nat) (n1 : Int) (σ : MS) , (Fr [] [18] [] σ0 σ) → (RG σ) → (0 ≤ n1 ∧ n1 ≤ 12) → (OKF σ r) → (XN r σ0 σ) → (12 - n1).toNat = n → Tm (d + 1) m_X12_renumber 143 b σ [(3, .int (iI n1)), (2, .int (iI f)), (0, .ref b), (1, .int (iI r))] [] post := by
  intro n
  induction n using Nat.strongRecOn with
  | _ n ih =>
    intro n1 σ hF hR h0 hof hxn hm
    have q1 := hof.1
    have e14 : σ.2.1 14 = σ0.2.1 14 := hF.2.1 14 (by decide)
    have e15 : σ.2.1 15 = σ0.2.1 15 := hF.2.1 15 (by decide)
    have e12 : σ.2.1 12 = σ0.2.1 12 := hF.2.1 12 (by decide)
    rw [e14] at q1
    have q2 := (hof.2 f (by omega) (by rw [e14]; omega)).1
    rw [e15] at q2
    have q3 := hnam _ q2.1 q2.2
    refine tm_iload_n dX12_renumber_143 rfl 0 rfl ?_
    refine tm_aload_n dX12_renumber_144 rfl 2 rfl ?_
    refine tm_get (k := 12) (v := .ref (b + 1 + 9)) lay_12 dX12_renumber_145 (by decide) fl12_38 rfl ?_
    refine tm_aload_n dX12_renumber_148 rfl 2 rfl ?_
    refine tm_get (k := 15) (v := .ref (b + 1 + 12)) lay_12 dX12_renumber_149 (by decide) fl12_47 rfl ?_
    refine tm_bipush dX12_renumber_152 (by decide) ?_
    refine tm_iload_n dX12_renumber_154 rfl 3 rfl ?_
    refine tm_imul dX12_renumber_155 ?_
    refine tm_iload_n dX12_renumber_156 rfl 1 rfl ?_
    refine tm_iadd dX12_renumber_157 ?_
    refine tm_iald (z := (12 * r) + f) (v := σ0.2.1 15 ((12 * r) + f)) dX12_renumber_158 (show mT[12]? = some (15, 0, 72) from rfl) (by omega) (by omega) (by decide) (ra_F hF (by decide) (rfl)) ?_
    have g1 := RG.a hR0 15 ((12 * r) + f)
    refine tm_iald (z := σ0.2.1 15 ((12 * r) + f)) (v := σ0.2.1 12 (σ0.2.1 15 ((12 * r) + f))) dX12_renumber_159 (show mT[9]? = some (12, 0, 6) from rfl) (by omega) (by omega) (by decide) (ra_F hF (by decide) (rfl)) ?_
    have g2 := RG.a hR0 12 (σ0.2.1 15 ((12 * r) + f))
    refine tm_icmp_ge (tgt := 202) dX12_renumber_160 (by decide) ⟨by omega, by omega⟩ ⟨by omega, by omega⟩ (fun h3 => ?_) (fun h3 => ?_)
    · exact tm_sub [0, 1, 2, 3] rfl (hx_202 (n1) σ (Fr.rfl.trans (Fr.sub hF (by decide) (by decide) (by decide))) hR hof hxn)
    · have q4 := (hof.2 f (by omega) (by rw [e14]; omega)).2 n1 (by omega) (by rw [e12, e15]; omega)
      refine tm_sipush dX12_renumber_163 (by decide) ?_
      refine tm_iload_n dX12_renumber_166 rfl 3 rfl ?_
      refine tm_imul dX12_renumber_167 ?_
      refine tm_bipush dX12_renumber_168 (by decide) ?_
      refine tm_iload_n dX12_renumber_170 rfl 1 rfl ?_
      refine tm_imul dX12_renumber_171 ?_
      refine tm_iadd dX12_renumber_172 ?_
      refine tm_iload_n dX12_renumber_173 rfl 0 rfl ?_
      refine tm_iadd dX12_renumber_174 ?_
      refine tm_istore (L' := [(4, .int (iI (((144 * r) + (12 * f)) + n1))), (3, .int (iI n1)), (2, .int (iI f)), (0, .ref b), (1, .int (iI r))]) dX12_renumber_175 (by decide) rfl ?_
      refine tm_aload_n dX12_renumber_177 rfl 3 rfl ?_
      refine tm_get (k := 18) (v := .ref (b + 1 + 15)) lay_12 dX12_renumber_178 (by decide) fl12_56 rfl ?_
      refine tm_iload dX12_renumber_181 0 rfl ?_
      refine tm_aload_n dX12_renumber_183 rfl 3 rfl ?_
      refine tm_get (k := 64) (v := .ref (b + 1 + 41)) lay_12 dX12_renumber_184 (by decide) fl12_143 rfl ?_
      refine tm_aload_n dX12_renumber_187 rfl 3 rfl ?_
      refine tm_get (k := 18) (v := .ref (b + 1 + 15)) lay_12 dX12_renumber_188 (by decide) fl12_56 rfl ?_
      refine tm_iload dX12_renumber_191 0 rfl ?_
      refine tm_iald (z := ((144 * r) + (12 * f)) + n1) (v := σ.2.1 18 (((144 * r) + (12 * f)) + n1)) dX12_renumber_193 (show mT[15]? = some (18, 0, 864) from rfl) (by omega) (by omega) (by decide) (rfl) ?_
      have g4 := RG.a hR 18 (((144 * r) + (12 * f)) + n1)
      refine tm_iald (z := σ.2.1 18 (((144 * r) + (12 * f)) + n1)) (v := σ0.2.1 64 (σ.2.1 18 (((144 * r) + (12 * f)) + n1))) dX12_renumber_194 (show mT[41]? = some (64, 0, 192) from rfl) (by omega) (by omega) (by decide) (ra_F hF (by decide) (rfl)) ?_
      have g5 := RG.a hR0 64 (σ.2.1 18 (((144 * r) + (12 * f)) + n1))
      have := hnu (σ.2.1 18 (((144 * r) + (12 * f)) + n1)) (by omega) (by omega)
      refine tm_iast (z := ((144 * r) + (12 * f)) + n1) (v := σ0.2.1 64 (σ.2.1 18 (((144 * r) + (12 * f)) + n1))) dX12_renumber_195 (show mT[15]? = some (18, 0, 864) from rfl) (by omega) (by omega) (by decide) ?_
      refine tm_iinc (q0 := 1) (L' := [(3, .int (iI (n1 + 1))), (4, .int (iI (((144 * r) + (12 * f)) + n1))), (2, .int (iI f)), (0, .ref b), (1, .int (iI r))]) dX12_renumber_196 rfl (by decide) rfl ?_
      refine tm_goto (tgt := 143) dX12_renumber_199 (by decide) ?_
      exact tm_sub [0, 2, 3, 4] rfl (ih _ (by omega) (n1 + 1) (sA 18 (((144 * r) + (12 * f)) + n1) (σ0.2.1 64 (σ.2.1 18 (((144 * r) + (12 * f)) + n1))) σ) ((Fr.rfl.trans (Fr.sub hF (by decide) (by decide) (by decide))).A (by decide)) (hR.A (by omega)) (by omega) (okf_put hof (by omega)) (hxn.put (by omega)) rfl)
theorem dX12_renumber_131 : decode cX12_renumber 131 = .ok (.iload_n 2, 1) := by decide +kernel
theorem dX12_renumber_132 : decode cX12_renumber 132 = .ok (.aload_n 0, 1) := by decide +kernel
theorem dX12_renumber_133 : decode cX12_renumber 133 = .ok (.getfield 44, 3) := by decide +kernel
theorem dX12_renumber_136 : decode cX12_renumber 136 = .ok (.iload_n 1, 1) := by decide +kernel
theorem dX12_renumber_137 : decode cX12_renumber 137 = .ok (.iaload, 1) := by decide +kernel
theorem dX12_renumber_138 : decode cX12_renumber 138 = .ok (.if_icmp .ge 70, 3) := by decide +kernel
theorem dX12_renumber_141 : decode cX12_renumber 141 = .ok (.iconst 0, 1) := by decide +kernel
theorem dX12_renumber_142 : decode cX12_renumber 142 = .ok (.istore_n 3, 1) := by decide +kernel
theorem dX12_renumber_202 : decode cX12_renumber 202 = .ok (.iinc 2 1, 3) := by decide +kernel
theorem dX12_renumber_205 : decode cX12_renumber 205 = .ok (.goto (-74), 3) := by decide +kernel
set_option maxHeartbeats 4000000 in
set_option maxRecDepth 20000 in
theorem l_ren3 (d : Nat) {b : Nat} {σ0 : MS} {r : Int} {post : Option Value → MS → Prop} (hr : 0 ≤ r ∧ r < 6) (hR0 : RG σ0) (hnam : NAM σ0) (hnu : NUM σ0) (hx_208 : ∀ (f : Int) (σ : MS) , (Fr [] [18] [] σ0 σ) → (RG σ) → (OKF σ r) → (XN r σ0 σ) → Tm (d + 1) m_X12_renumber 208 b σ [(2, .int (iI f)), (0, .ref b), (1, .int (iI r))] [] post) : ∀ (n : Nat) (f : Int) (σ : MS) , (Fr [] [18] [] σ0 σ) → (RG σ) → (0 ≤ f ∧ f ≤ 12) → (OKF σ r) → (XN r σ0 σ) → (12 - f).toNat = n → Tm (d + 1) m_X12_renumber 131 b σ [(2, .int (iI f)), (0, .ref b), (1, .int (iI r))] [] post := by
  intro n
  induction n using Nat.strongRecOn with
  | _ n ih =>
    intro f σ hF hR h0 hof hxn hm
    have q1 := hof.1
    have e14 : σ.2.1 14 = σ0.2.1 14 := hF.2.1 14 (by decide)
    have e15 : σ.2.1 15 = σ0.2.1 15 := hF.2.1 15 (by decide)
    have e12 : σ.2.1 12 = σ0.2.1 12 := hF.2.1 12 (by decide)
    rw [e14] at q1
    refine tm_iload_n dX12_renumber_131 rfl 0 rfl ?_
    refine tm_aload_n dX12_renumber_132 rfl 1 rfl ?_
    refine tm_get (k := 14) (v := .ref (b + 1 + 11)) lay_12 dX12_renumber_133 (by decide) fl12_44 rfl ?_
    refine tm_iload_n dX12_renumber_136 rfl 2 rfl ?_
    refine tm_iald (z := r) (v := σ0.2.1 14 r) dX12_renumber_137 (show mT[11]? = some (14, 0, 6) from rfl) (by omega) (by omega) (by decide) (ra_F hF (by decide) (rfl)) ?_
    have g1 := RG.a hR0 14 (r)
    refine tm_icmp_ge (tgt := 208) dX12_renumber_138 (by decide) ⟨by omega, by omega⟩ ⟨by omega, by omega⟩ (fun h2 => ?_) (fun h2 => ?_)
    · exact tm_sub [0, 1, 2] rfl (hx_208 (f) σ (Fr.rfl.trans (Fr.sub hF (by decide) (by decide) (by decide))) hR hof hxn)
    · refine tm_iconst dX12_renumber_141 ?_
      refine tm_istore_n (L' := [(3, .int (iI 0)), (2, .int (iI f)), (0, .ref b), (1, .int (iI r))]) dX12_renumber_142 rfl (by decide) rfl ?_
      refine tm_sub [0, 1, 2, 3] rfl (l_ren4 (d) (σ0 := σ) (r := r) (f := f) hr hR (hnam.fr hF (by decide)) (hnu.fr hF (by decide)) (by rw [e14]; omega) (fun n19 σ10 F5 R6 f7 f8 => ?_) _ (0) σ Fr.rfl hR (by omega) hof XN.rfl rfl)
      show Tm _ _ 202 b σ10 [(3, .int (iI n19)), (2, .int (iI f)), (0, .ref b), (1, .int (iI r))] [] _
      refine tm_iinc (q0 := 1) (L' := [(2, .int (iI (f + 1))), (3, .int (iI n19)), (0, .ref b), (1, .int (iI r))]) dX12_renumber_202 rfl (by decide) rfl ?_
      refine tm_goto (tgt := 131) dX12_renumber_205 (by decide) ?_
      exact tm_sub [0, 2, 3] rfl (ih _ (by omega) (f + 1) σ10 ((Fr.rfl.trans (Fr.sub hF (by decide) (by decide) (by decide))).trans (Fr.sub F5 (by decide) (by decide) (by decide))) R6 (by omega) f7 (fun z hz => (f8 z hz).trans (hxn z hz)) rfl)
theorem dX12_renumber_0 : decode cX12_renumber 0 = .ok (.iconst 0, 1) := by decide +kernel
theorem dX12_renumber_1 : decode cX12_renumber 1 = .ok (.istore_n 2, 1) := by decide +kernel
theorem dX12_renumber_129 : decode cX12_renumber 129 = .ok (.iconst 0, 1) := by decide +kernel
theorem dX12_renumber_130 : decode cX12_renumber 130 = .ok (.istore_n 2, 1) := by decide +kernel
theorem dX12_renumber_208 : decode cX12_renumber 208 = .ok (.return_, 1) := by decide +kernel
set_option maxHeartbeats 4000000 in
set_option maxRecDepth 20000 in
theorem c_X12_renumber (d : Nat) {b : Nat} {σ : MS} {r : Int} {F : Int} (hr : 0 ≤ r ∧ r < 6) (hR : RG σ) (hit : ITM σ) (hpar : PAR σ) (hnam : NAM σ) (hnu : NUM σ) (hok : OKS σ F r) (hof : OKF σ r) : Tm (d + 4) m_X12_renumber 0 b σ [(0, .ref b), (1, .int (iI r))] [] (fun ro σ2 => ro = none ∧ (Fr [] [4, 8, 18] [] σ σ2) ∧ (RG σ2) ∧ (OKS σ2 F r) ∧ (OKF σ2 r) ∧ (XO r σ σ2) ∧ (XN r σ σ2) ∧ (DK σ σ2)) := by
  have q1 := hit r (by omega) (by omega)
  refine tm_iconst dX12_renumber_0 ?_
  refine tm_istore_n (L' := [(2, .int (iI 0)), (0, .ref b), (1, .int (iI r))]) dX12_renumber_1 rfl (by decide) rfl ?_
  refine tm_sub [0, 1, 2] rfl (l_ren1 (d) (σ0 := σ) (r := r) (F := F) hr hR hit hpar hnu (fun k8 σ9 F3 R4 f5 f6 f7 => ?_) _ (0) σ Fr.rfl hR (by omega) hok XO.rfl DK.rfl rfl)
  show Tm _ _ 129 b σ9 [(2, .int (iI k8)), (0, .ref b), (1, .int (iI r))] [] _
  have hok1 := f5
  have hxo1 := f6
  have hdk1 := f7
  refine tm_iconst dX12_renumber_129 ?_
  refine tm_istore_n (L' := [(2, .int (iI 0)), (0, .ref b), (1, .int (iI r))]) dX12_renumber_130 rfl (by decide) rfl ?_
  refine tm_sub [0, 1, 2] rfl (l_ren3 (d + 3) (σ0 := σ9) (r := r) hr R4 (hnam.fr (show Fr [] [4, 8] [] σ σ9 from (Fr.rfl.trans (Fr.sub F3 (by decide) (by decide) (by decide)))) (by decide)) (hnu.fr (show Fr [] [4, 8] [] σ σ9 from (Fr.rfl.trans (Fr.sub F3 (by decide) (by decide) (by decide)))) (by decide)) (fun f16 σ17 F12 R13 f14 f15 => ?_) _ (0) σ9 Fr.rfl R4 (by omega) (hof.fr (show Fr [] [4, 8] [] σ σ9 from (Fr.rfl.trans (Fr.sub F3 (by decide) (by decide) (by decide)))) (by decide)) XN.rfl rfl)
  show Tm _ _ 208 b σ17 [(2, .int (iI f16)), (0, .ref b), (1, .int (iI r))] [] _
  exact tm_vret rfl dX12_renumber_208 (⟨rfl, ((Fr.rfl.trans (Fr.sub F3 (by decide) (by decide) (by decide))).trans (Fr.sub F12 (by decide) (by decide) (by decide))), R13, hok1.fr F12 (by decide), f14, hxo1.trans (XO.fr F12 (by decide)), fun z hz => (f15 z hz).trans (by rw [F3.2.1 18 (by decide)]), hdk1.t F12 (by decide)⟩)
