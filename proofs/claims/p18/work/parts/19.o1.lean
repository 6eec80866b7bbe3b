section
set_option maxHeartbeats 1000000 in
set_option maxRecDepth 20000 in
theorem f_isNm2 (d : Nat) {b : Nat} {σ : MS} {r : Int} {g : Int} {f : Int} {post : Option Value → MS → Prop} (hr : 0 ≤ r ∧ r < 6) (hR : RG σ) (hof : OKF σ r) (hnam : NAM σ) (h_g : -2147483648 ≤ g ∧ g ≤ 2147483647) (hf : 0 ≤ f ∧ f < σ.2.1 14 r) (hx_66 : ∀ (n1 : Int) , (∀ j, 0 ≤ j → j < σ.2.1 12 (σ.2.1 15 (12 * r + f)) → ¬ σ.2.1 18 (144 * r + 12 * f + j) = g) → Tm (d + 1) m_X12_isName_ 66 b σ [(4, .int (iI n1)), (3, .int (iI f)), (0, .ref b), (1, .int (iI r)), (2, .int (iI g))] [] post) (hr1 : NMM σ r g → post (some (.int (iI 1))) σ) : ∀ (n : Nat) (n1 : Int) , (0 ≤ n1 ∧ n1 ≤ 12) → (∀ j, 0 ≤ j → j < n1 → ¬ σ.2.1 18 (144 * r + 12 * f + j) = g) → (12 - n1).toNat = n → Tm (d + 1) m_X12_isName_ 15 b σ [(4, .int (iI n1)), (3, .int (iI f)), (0, .ref b), (1, .int (iI r)), (2, .int (iI g))] [] post := by
  intro n
  induction n using Nat.strongRecOn with
  | _ n ih =>
    intro n1 h0 hj hm
    have q1 := hof.1
    have q2 := (hof.2 f (by omega) (by omega)).1
    have q3 := hnam _ q2.1 q2.2
    refine tm_iload dX12_isName__15 0 rfl ?_
    refine tm_aload_n dX12_isName__17 rfl 2 rfl ?_
    refine tm_get (k := 12) (v := .ref (b + 1 + 9)) lay_12 dX12_isName__18 (by decide) fl12_38 rfl ?_
    refine tm_aload_n dX12_isName__21 rfl 2 rfl ?_
    refine tm_get (k := 15) (v := .ref (b + 1 + 12)) lay_12 dX12_isName__22 (by decide) fl12_47 rfl ?_
    refine tm_bipush dX12_isName__25 (by decide) ?_
    refine tm_iload_n dX12_isName__27 rfl 3 rfl ?_
    refine tm_imul dX12_isName__28 ?_
    refine tm_iload_n dX12_isName__29 rfl 1 rfl ?_
    refine tm_iadd dX12_isName__30 ?_
    refine tm_iald (z := (12 * r) + f) (v := σ.2.1 15 ((12 * r) + f)) dX12_isName__31 (show mT[12]? = some (15, 0, 72) from rfl) (by omega) (by omega) (by decide) (rfl) ?_
    have g1 := RG.a hR 15 ((12 * r) + f)
    refine tm_iald (z := σ.2.1 15 ((12 * r) + f)) (v := σ.2.1 12 (σ.2.1 15 ((12 * r) + f))) dX12_isName__32 (show mT[9]? = some (12, 0, 6) from rfl) (by omega) (by omega) (by decide) (rfl) ?_
    have g2 := RG.a hR 12 (σ.2.1 15 ((12 * r) + f))
    refine tm_icmp_ge (tgt := 66) dX12_isName__33 (by decide) ⟨by omega, by omega⟩ ⟨by omega, by omega⟩ (fun h3 => ?_) (fun h3 => ?_)
    · exact tm_sub [0, 1, 2, 3, 4] rfl (hx_66 (n1) (fun j a b => hj j a (by omega)))
    · have q4 := (hof.2 f (by omega) (by omega)).2 n1 (by omega) (by omega)
      refine tm_aload_n dX12_isName__36 rfl 2 rfl ?_
      refine tm_get (k := 18) (v := .ref (b + 1 + 15)) lay_12 dX12_isName__37 (by decide) fl12_56 rfl ?_
      refine tm_sipush dX12_isName__40 (by decide) ?_
      refine tm_iload_n dX12_isName__43 rfl 3 rfl ?_
      refine tm_imul dX12_isName__44 ?_
      refine tm_bipush dX12_isName__45 (by decide) ?_
      refine tm_iload_n dX12_isName__47 rfl 1 rfl ?_
      refine tm_imul dX12_isName__48 ?_
      refine tm_iadd dX12_isName__49 ?_
      refine tm_iload dX12_isName__50 0 rfl ?_
      refine tm_iadd dX12_isName__52 ?_
      refine tm_iald (z := ((144 * r) + (12 * f)) + n1) (v := σ.2.1 18 (((144 * r) + (12 * f)) + n1)) dX12_isName__53 (show mT[15]? = some (18, 0, 864) from rfl) (by omega) (by omega) (by decide) (rfl) ?_
      have g4 := RG.a hR 18 (((144 * r) + (12 * f)) + n1)
      refine tm_iload_n dX12_isName__54 rfl 4 rfl ?_
      refine tm_icmp_ne (tgt := 60) dX12_isName__55 (by decide) ⟨by omega, by omega⟩ ⟨by omega, by omega⟩ (fun h5 => ?_) (fun h5 => ?_)
      · refine tm_iinc (q0 := 0) (L' := [(4, .int (iI (n1 + 1))), (3, .int (iI f)), (0, .ref b), (1, .int (iI r)), (2, .int (iI g))]) dX12_isName__60 rfl (by decide) rfl ?_
        refine tm_goto (tgt := 15) dX12_isName__63 (by decide) ?_
        exact tm_sub [0, 1, 2, 3, 4] rfl (ih _ (by omega) (n1 + 1) (by omega) (fun j a b => by
          by_cases e : j = n1
          · subst e; omega
          · exact hj j a (by omega)) rfl)
      · refine tm_iconst dX12_isName__58 ?_
        exact tm_zret (v := 1) rfl (by decide) dX12_isName__59 (hr1 ⟨f, by omega, by omega, n1, by omega, by omega, by assumption⟩)
set_option maxHeartbeats 1000000 in
set_option maxRecDepth 20000 in
theorem f_isNm1 (d : Nat) {b : Nat} {σ : MS} {r : Int} {g : Int} {post : Option Value → MS → Prop} (hr : 0 ≤ r ∧ r < 6) (hR : RG σ) (hof : OKF σ r) (hnam : NAM σ) (h_g : -2147483648 ≤ g ∧ g ≤ 2147483647) (hx_72 : ∀ (f : Int) , (¬ NMM σ r g) → Tm (d + 1) m_X12_isName_ 72 b σ [(3, .int (iI f)), (0, .ref b), (1, .int (iI r)), (2, .int (iI g))] [] post) (hr1 : NMM σ r g → post (some (.int (iI 1))) σ) : ∀ (n : Nat) (f : Int) , (0 ≤ f ∧ f ≤ σ.2.1 14 r) → (∀ u, 0 ≤ u → u < f → ∀ j, 0 ≤ j → j < σ.2.1 12 (σ.2.1 15 (12 * r + u)) → ¬ σ.2.1 18 (144 * r + 12 * u + j) = g) → (12 - f).toNat = n → Tm (d + 1) m_X12_isName_ 2 b σ [(3, .int (iI f)), (0, .ref b), (1, .int (iI r)), (2, .int (iI g))] [] post := by
  intro n
  induction n using Nat.strongRecOn with
  | _ n ih =>
    intro f h0 hj hm
    have q1 := hof.1
    refine tm_iload_n dX12_isName__2 rfl 0 rfl ?_
    refine tm_aload_n dX12_isName__3 rfl 1 rfl ?_
    refine tm_get (k := 14) (v := .ref (b + 1 + 11)) lay_12 dX12_isName__4 (by decide) fl12_44 rfl ?_
    refine tm_iload_n dX12_isName__7 rfl 2 rfl ?_
    refine tm_iald (z := r) (v := σ.2.1 14 r) dX12_isName__8 (show mT[11]? = some (14, 0, 6) from rfl) (by omega) (by omega) (by decide) (rfl) ?_
    have g1 := RG.a hR 14 (r)
    refine tm_icmp_ge (tgt := 72) dX12_isName__9 (by decide) ⟨by omega, by omega⟩ ⟨by omega, by omega⟩ (fun h2 => ?_) (fun h2 => ?_)
    · exact tm_sub [0, 1, 2, 3] rfl (hx_72 (f) (fun ⟨u, a, b, j, c, e, z⟩ => hj u a (by omega) j c e z))
    · refine tm_iconst dX12_isName__12 ?_
      refine tm_istore (L' := [(4, .int (iI 0)), (3, .int (iI f)), (0, .ref b), (1, .int (iI r)), (2, .int (iI g))]) dX12_isName__13 (by decide) rfl ?_
      refine tm_sub [0, 1, 2, 3, 4] rfl (f_isNm2 (d) (σ := σ) (r := r) (g := g) (f := f) hr hR hof hnam (by omega) (by omega) (fun n17 f6 => ?_) hr1 _ (0) (by omega) (fun j a b => by omega) rfl)
      show Tm _ _ 66 b σ [(4, .int (iI n17)), (3, .int (iI f)), (0, .ref b), (1, .int (iI r)), (2, .int (iI g))] [] _
      refine tm_iinc (q0 := 1) (L' := [(3, .int (iI (f + 1))), (4, .int (iI n17)), (0, .ref b), (1, .int (iI r)), (2, .int (iI g))]) dX12_isName__66 rfl (by decide) rfl ?_
      refine tm_goto (tgt := 2) dX12_isName__69 (by decide) ?_
      exact tm_sub [0, 2, 3, 4] rfl (ih _ (by omega) (f + 1) (by omega) (fun u a b => by
          by_cases e : u = f
          · subst e; exact f6
          · exact hj u a (by omega)) rfl)
set_option maxHeartbeats 1000000 in
set_option maxRecDepth 20000 in
theorem f_X12_isName_ (d : Nat) {b : Nat} {σ : MS} {r : Int} {g : Int} (hr : 0 ≤ r ∧ r < 6) (hR : RG σ) (hof : OKF σ r) (hnam : NAM σ) (h_g : -2147483648 ≤ g ∧ g ≤ 2147483647) : Tm (d + 1) m_X12_isName_ 0 b σ [(0, .ref b), (1, .int (iI r)), (2, .int (iI g))] [] (fun ro σ2 => ∃ v : Int, ro = some (.int (iI v)) ∧ σ = σ2 ∧ ((v = 0 ∨ v = 1)) ∧ ((v = 1 ↔ NMM σ r g))) := by
  refine tm_iconst dX12_isName__0 ?_
  refine tm_istore_n (L' := [(3, .int (iI 0)), (0, .ref b), (1, .int (iI r)), (2, .int (iI g))]) dX12_isName__1 rfl (by decide) rfl ?_
  refine tm_sub [0, 1, 2, 3] rfl (f_isNm1 (d) (σ := σ) (r := r) (g := g) hr hR hof hnam (by omega) (fun f5 f4 => ?_) (fun q => ⟨_, rfl, rfl, Or.inr rfl, fun _ => q, fun _ => rfl⟩) _ (0) (by have := hof.1; omega) (fun u a b => by omega) rfl)
  show Tm _ _ 72 b σ [(3, .int (iI f5)), (0, .ref b), (1, .int (iI r)), (2, .int (iI g))] [] _
  refine tm_iconst dX12_isName__72 ?_
  exact tm_zret (v := 0) rfl (by decide) dX12_isName__73 (⟨_, rfl, rfl, Or.inl rfl, fun q => absurd q (by decide), fun q => absurd q f4⟩)
set_option maxHeartbeats 1000000 in
set_option maxRecDepth 20000 in
theorem f_mayMove (d : Nat) {b : Nat} {σ : MS} {r : Int} {F : Int} {k : Int} {fr : Int} {to : Int} {post : Option Value → MS → Prop} (hr : 0 ≤ r ∧ r < 6) (hR : RG σ) (hit : ITM σ) (hpar : PAR σ) (hok : OKS σ F r) (hof : OKF σ r) (hnam : NAM σ) (hk : 0 ≤ k ∧ k < σ.2.1 9 r) (hft : 0 ≤ fr ∧ fr ≤ 220 ∧ -1 ≤ to ∧ to < 220) (hx_122 : ∀ (i : Int) , (MVG σ r k fr to 4) → Tm (d + 4) m_X12_mayMove 122 b σ [(6, .int (iI i)), (5, .int (iI (220 * r + k))), (0, .ref b), (1, .int (iI r)), (2, .int (iI k)), (3, .int (iI fr)), (4, .int (iI to))] [] post) (hr0 : ¬ MVG σ r k fr to 4 → post (some (.int (iI 0))) σ) : ∀ (n : Nat) (i : Int) , (0 ≤ i ∧ i ≤ 4) → (MVG σ r k fr to i) → (4 - i).toNat = n → Tm (d + 4) m_X12_mayMove 64 b σ [(6, .int (iI i)), (5, .int (iI (220 * r + k))), (0, .ref b), (1, .int (iI r)), (2, .int (iI k)), (3, .int (iI fr)), (4, .int (iI to))] [] post := by
  intro n
  induction n using Nat.strongRecOn with
  | _ n ih =>
    intro i h0 hg hm
    have q1 := hit r (by omega) (by omega)
    refine tm_iload dX12_mayMove_64 0 rfl ?_
    refine tm_aload_n dX12_mayMove_66 rfl 2 rfl ?_
    refine tm_iload dX12_mayMove_67 1 rfl ?_
    refine tm_callV (M := m_X12_mayMove) (pc := 69) (ix := 199) (M' := m_X12_args) (As := [.int (iI (220 * r + k))]) (rest := [.int (iI i)]) dX12_mayMove_69 ok_X12_args im_X12_args se_X12_args ml12_199 np_X12_args rfl rfl (Nat.le_of_ble_eq_true rfl) (Nat.le_of_ble_eq_true rfl) rfl (c_X12_args (d) (σ := σ) (x := 220 * r + k) (by omega) hR (hok.of (by omega) (by omega)) hpar) (fun r1 σ2 hp => ?_)
    obtain ⟨v3, rfl, rfl, f4, f5⟩ := hp
    show Tm _ _ 72 b σ [(6, .int (iI i)), (5, .int (iI (220 * r + k))), (0, .ref b), (1, .int (iI r)), (2, .int (iI k)), (3, .int (iI fr)), (4, .int (iI to))] [.int (iI v3), .int (iI i)] _
    refine tm_icmp_ge (tgt := 122) dX12_mayMove_72 (by decide) ⟨by omega, by omega⟩ ⟨by omega, by omega⟩ (fun h6 => ?_) (fun h6 => ?_)
    · exact tm_sub [0, 1, 2, 3, 4, 5, 6] rfl (hx_122 (i) (hg.up (hok k (by omega) (by omega)) (by omega)))
    · have q2 := hok.arg (k := k) (by omega) (by omega) (i := i) (by omega) (by omega)
      refine tm_aload_n dX12_mayMove_75 rfl 2 rfl ?_
      refine tm_get (k := 7) (v := .ref (b + 1 + 5)) lay_12 dX12_mayMove_76 (by decide) fl12_26 rfl ?_
      refine tm_iconst dX12_mayMove_79 ?_
      refine tm_iload dX12_mayMove_80 1 rfl ?_
      refine tm_imul dX12_mayMove_82 ?_
      refine tm_iload dX12_mayMove_83 0 rfl ?_
      refine tm_iadd dX12_mayMove_85 ?_
      refine tm_iald (z := (4 * (220 * r + k)) + i) (v := σ.2.1 7 ((4 * (220 * r + k)) + i)) dX12_mayMove_86 (show mT[5]? = some (7, 0, 11440) from rfl) (by omega) (by omega) (by decide) (rfl) ?_
      have g7 := RG.a hR 7 ((4 * (220 * r + k)) + i)
      refine tm_iconst dX12_mayMove_87 ?_
      refine tm_icmp_ne (tgt := 116) dX12_mayMove_88 (by decide) ⟨by omega, by omega⟩ ⟨by decide, by decide⟩ (fun h8 => ?_) (fun h8 => ?_)
      · refine tm_iinc (q0 := 0) (L' := [(6, .int (iI (i + 1))), (5, .int (iI (220 * r + k))), (0, .ref b), (1, .int (iI r)), (2, .int (iI k)), (3, .int (iI fr)), (4, .int (iI to))]) dX12_mayMove_116 rfl (by decide) rfl ?_
        refine tm_goto (tgt := 64) dX12_mayMove_119 (by decide) ?_
        exact tm_sub [0, 1, 2, 3, 4, 5, 6] rfl (ih _ (by omega) (i + 1) (by omega) (fun u a b c => by
          by_cases e : u = i
          · subst e; exact absurd c (by omega)
          · exact hg u a (by omega) c) rfl)
      · refine tm_aload_n dX12_mayMove_91 rfl 2 rfl ?_
        refine tm_iload_n dX12_mayMove_92 rfl 3 rfl ?_
        refine tm_iload_n dX12_mayMove_93 rfl 5 rfl ?_
        refine tm_iload dX12_mayMove_94 6 rfl ?_
        refine tm_aload_n dX12_mayMove_96 rfl 2 rfl ?_
        refine tm_get (k := 8) (v := .ref (b + 1 + 6)) lay_12 dX12_mayMove_97 (by decide) fl12_29 rfl ?_
        refine tm_iconst dX12_mayMove_100 ?_
        refine tm_iload dX12_mayMove_101 1 rfl ?_
        refine tm_imul dX12_mayMove_103 ?_
        refine tm_iload dX12_mayMove_104 0 rfl ?_
        refine tm_iadd dX12_mayMove_106 ?_
        refine tm_iald (z := (4 * (220 * r + k)) + i) (v := σ.2.1 8 ((4 * (220 * r + k)) + i)) dX12_mayMove_107 (show mT[6]? = some (8, 0, 11440) from rfl) (by omega) (by omega) (by decide) (rfl) ?_
        have g9 := RG.a hR 8 ((4 * (220 * r + k)) + i)
        refine tm_callV (M := m_X12_mayMove) (pc := 108) (ix := 486) (M' := m_X12_written) (As := [.int (iI r), .int (iI fr), .int (iI to), .int (iI (σ.2.1 8 ((4 * (220 * r + k)) + i)))]) (rest := []) dX12_mayMove_108 ok_X12_written im_X12_written se_X12_written ml12_486 np_X12_written rfl rfl (Nat.le_of_ble_eq_true rfl) (Nat.le_of_ble_eq_true rfl) rfl (f_X12_written (d) (σ := σ) (r := r) (fr := fr) (to := to) (g := σ.2.1 8 ((4 * (220 * r + k)) + i)) (by omega) hR (by omega) (by omega) (by omega)) (fun r10 σ11 hp => ?_)
        obtain ⟨v12, rfl, rfl, f13, f14⟩ := hp
        show Tm _ _ 111 b σ [(6, .int (iI i)), (5, .int (iI (220 * r + k))), (0, .ref b), (1, .int (iI r)), (2, .int (iI k)), (3, .int (iI fr)), (4, .int (iI to))] [.int (iI v12)] _
        refine tm_if_le (tgt := 116) dX12_mayMove_111 (by decide) ⟨by omega, by omega⟩ (fun h15 => ?_) (fun h15 => ?_)
        · refine tm_iinc (q0 := 0) (L' := [(6, .int (iI (i + 1))), (5, .int (iI (220 * r + k))), (0, .ref b), (1, .int (iI r)), (2, .int (iI k)), (3, .int (iI fr)), (4, .int (iI to))]) dX12_mayMove_116 rfl (by decide) rfl ?_
          refine tm_goto (tgt := 64) dX12_mayMove_119 (by decide) ?_
          exact tm_sub [0, 1, 2, 3, 4, 5, 6] rfl (ih _ (by omega) (i + 1) (by omega) (fun u a b c => by
          by_cases e : u = i
          · subst e; exact wr0 f14 (by omega)
          · exact hg u a (by omega) c) rfl)
        · refine tm_iconst dX12_mayMove_114 ?_
          exact tm_zret (v := 0) rfl (by decide) dX12_mayMove_115 (hr0 (fun z => wr0n f14 (by omega) (z i (by omega) (by omega) (by omega))))
set_option maxHeartbeats 1000000 in
set_option maxRecDepth 20000 in
theorem f_X12_mayMove (d : Nat) {b : Nat} {σ : MS} {r : Int} {k : Int} {fr : Int} {to : Int} {F : Int} (hr : 0 ≤ r ∧ r < 6) (hR : RG σ) (hit : ITM σ) (hpar : PAR σ) (hok : OKS σ F r) (hof : OKF σ r) (hnam : NAM σ) (hk : 0 ≤ k ∧ k < σ.2.1 9 r) (hft : 0 ≤ fr ∧ fr ≤ 220 ∧ -1 ≤ to ∧ to < σ.2.1 9 r) : Tm (d + 5) m_X12_mayMove 0 b σ [(0, .ref b), (1, .int (iI r)), (2, .int (iI k)), (3, .int (iI fr)), (4, .int (iI to))] [] (fun ro σ2 => ∃ v : Int, ro = some (.int (iI v)) ∧ σ = σ2 ∧ ((v = 0 ∨ v = 1)) ∧ ((v = 1 → σ.2.1 3 (220 * r + k) ≤ 5)) ∧ ((v = 1 ↔ mvK (NMM σ r) (σ.2.1 9 r) (rV σ r) fr to k))) := by
  have q1 := hit r (by omega) (by omega)
  refine tm_aload_n dX12_mayMove_0 rfl 0 rfl ?_
  refine tm_iload_n dX12_mayMove_1 rfl 1 rfl ?_
  refine tm_iload_n dX12_mayMove_2 rfl 2 rfl ?_
  refine tm_callV (M := m_X12_mayMove) (pc := 3) (ix := 203) (M' := m_X12_at) (As := [.int (iI r), .int (iI k)]) (rest := []) dX12_mayMove_3 ok_X12_at im_X12_at se_X12_at ml12_203 np_X12_at rfl rfl (Nat.le_of_ble_eq_true rfl) (Nat.le_of_ble_eq_true rfl) rfl (c_X12_at (d + 3) (σ := σ) (x := r) (k := k) ) (fun r1 σ2 hp => ?_)
  obtain ⟨v3, rfl, rfl, f4⟩ := hp
  subst f4
  show Tm _ _ 6 b σ [(0, .ref b), (1, .int (iI r)), (2, .int (iI k)), (3, .int (iI fr)), (4, .int (iI to))] [.int (iI (220 * r + k))] _
  refine tm_istore (L' := [(5, .int (iI (220 * r + k))), (0, .ref b), (1, .int (iI r)), (2, .int (iI k)), (3, .int (iI fr)), (4, .int (iI to))]) dX12_mayMove_6 (by decide) rfl ?_
  refine tm_aload_n dX12_mayMove_8 rfl 1 rfl ?_
  refine tm_get (k := 3) (v := .ref (b + 1 + 1)) lay_12 dX12_mayMove_9 (by decide) fl12_13 rfl ?_
  refine tm_iload dX12_mayMove_12 0 rfl ?_
  refine tm_iald (z := 220 * r + k) (v := σ.2.1 3 (220 * r + k)) dX12_mayMove_14 (show mT[1]? = some (3, 0, 2860) from rfl) (by omega) (by omega) (by decide) (rfl) ?_
  have g5 := RG.a hR 3 (220 * r + k)
  refine tm_iconst dX12_mayMove_15 ?_
  refine tm_icmp_gt (tgt := 59) dX12_mayMove_16 (by decide) ⟨by omega, by omega⟩ ⟨by decide, by decide⟩ (fun h6 => ?_) (fun h6 => ?_)
  · refine tm_iconst dX12_mayMove_59 ?_
    exact tm_zret (v := 0) rfl (by decide) dX12_mayMove_60 (⟨_, rfl, rfl, by omega, by omega, fun q => absurd q (by decide), fun q => absurd q (mvK_no (by omega) (by omega) (by omega))⟩)
  · refine tm_aload_n dX12_mayMove_19 rfl 1 rfl ?_
    refine tm_iload_n dX12_mayMove_20 rfl 2 rfl ?_
    refine tm_aload_n dX12_mayMove_21 rfl 1 rfl ?_
    refine tm_get (k := 4) (v := .ref (b + 1 + 2)) lay_12 dX12_mayMove_22 (by decide) fl12_17 rfl ?_
    refine tm_iload dX12_mayMove_25 0 rfl ?_
    refine tm_iald (z := 220 * r + k) (v := σ.2.1 4 (220 * r + k)) dX12_mayMove_27 (show mT[2]? = some (4, 0, 2860) from rfl) (by omega) (by omega) (by decide) (rfl) ?_
    have g7 := RG.a hR 4 (220 * r + k)
    refine tm_callV (M := m_X12_mayMove) (pc := 28) (ix := 484) (M' := m_X12_isName_) (As := [.int (iI r), .int (iI (σ.2.1 4 (220 * r + k)))]) (rest := []) dX12_mayMove_28 ok_X12_isName_ im_X12_isName_ se_X12_isName_ ml12_484 np_X12_isName_ rfl rfl (Nat.le_of_ble_eq_true rfl) (Nat.le_of_ble_eq_true rfl) rfl (f_X12_isName_ (d + 3) (σ := σ) (r := r) (g := σ.2.1 4 (220 * r + k)) (by omega) hR hof hnam (by omega)) (fun r8 σ9 hp => ?_)
    obtain ⟨v10, rfl, rfl, f11, f12⟩ := hp
    show Tm _ _ 31 b σ [(5, .int (iI (220 * r + k))), (0, .ref b), (1, .int (iI r)), (2, .int (iI k)), (3, .int (iI fr)), (4, .int (iI to))] [.int (iI v10)] _
    have hNM := f12
    refine tm_if_ne (tgt := 59) dX12_mayMove_31 (by decide) ⟨by omega, by omega⟩ (fun h13 => ?_) (fun h13 => ?_)
    · refine tm_iconst dX12_mayMove_59 ?_
      exact tm_zret (v := 0) rfl (by decide) dX12_mayMove_60 (⟨_, rfl, rfl, by omega, by omega, fun q => absurd q (by decide), fun q => absurd q (fun z => z.2.1 (by rw [rv_at (by omega) (by omega)]; exact hNM.mp (by omega)))⟩)
    · refine tm_aload_n dX12_mayMove_34 rfl 1 rfl ?_
      refine tm_iload_n dX12_mayMove_35 rfl 2 rfl ?_
      refine tm_iconst dX12_mayMove_36 ?_
      refine tm_aload_n dX12_mayMove_37 rfl 1 rfl ?_
      refine tm_get (k := 9) (v := .ref (b + 1 + 7)) lay_12 dX12_mayMove_38 (by decide) fl12_32 rfl ?_
      refine tm_iload_n dX12_mayMove_41 rfl 2 rfl ?_
      refine tm_iald (z := r) (v := σ.2.1 9 r) dX12_mayMove_42 (show mT[7]? = some (9, 0, 13) from rfl) (by omega) (by omega) (by decide) (rfl) ?_
      have g14 := RG.a hR 9 (r)
      refine tm_iconst dX12_mayMove_43 ?_
      refine tm_isub dX12_mayMove_44 ?_
      refine tm_aload_n dX12_mayMove_45 rfl 1 rfl ?_
      refine tm_get (k := 4) (v := .ref (b + 1 + 2)) lay_12 dX12_mayMove_46 (by decide) fl12_17 rfl ?_
      refine tm_iload dX12_mayMove_49 0 rfl ?_
      refine tm_iald (z := 220 * r + k) (v := σ.2.1 4 (220 * r + k)) dX12_mayMove_51 (show mT[2]? = some (4, 0, 2860) from rfl) (by omega) (by omega) (by decide) (rfl) ?_
      have g15 := RG.a hR 4 (220 * r + k)
      refine tm_callV (M := m_X12_mayMove) (pc := 52) (ix := 486) (M' := m_X12_written) (As := [.int (iI r), .int (iI 0), .int (iI ((σ.2.1 9 r) - 1)), .int (iI (σ.2.1 4 (220 * r + k)))]) (rest := []) dX12_mayMove_52 ok_X12_written im_X12_written se_X12_written ml12_486 np_X12_written rfl rfl (Nat.le_of_ble_eq_true rfl) (Nat.le_of_ble_eq_true rfl) rfl (f_X12_written (d + 1) (σ := σ) (r := r) (fr := 0) (to := (σ.2.1 9 r) - 1) (g := σ.2.1 4 (220 * r + k)) (by omega) hR (by omega) (by omega) (by omega)) (fun r16 σ17 hp => ?_)
      obtain ⟨v18, rfl, rfl, f19, f20⟩ := hp
      show Tm _ _ 55 b σ [(5, .int (iI (220 * r + k))), (0, .ref b), (1, .int (iI r)), (2, .int (iI k)), (3, .int (iI fr)), (4, .int (iI to))] [.int (iI v18)] _
      have hWR := f20
      refine tm_iconst dX12_mayMove_55 ?_
      refine tm_icmp_eq (tgt := 61) dX12_mayMove_56 (by decide) ⟨by omega, by omega⟩ ⟨by decide, by decide⟩ (fun h21 => ?_) (fun h21 => ?_)
      · refine tm_iconst dX12_mayMove_61 ?_
        refine tm_istore (L' := [(6, .int (iI 0)), (5, .int (iI (220 * r + k))), (0, .ref b), (1, .int (iI r)), (2, .int (iI k)), (3, .int (iI fr)), (4, .int (iI to))]) dX12_mayMove_62 (by decide) rfl ?_
        refine tm_sub [0, 1, 2, 3, 4, 5, 6] rfl (f_mayMove (d + 1) (σ := σ) (r := r) (k := k) (fr := fr) (to := to) (F := F) (by omega) hR hit hpar hok hof hnam (by omega) (by omega) (fun i26 f25 => ?_) (fun z => ⟨_, rfl, rfl, by omega, by omega, fun q => absurd q (by decide), fun q => absurd ((mvK_rv (by omega) (by omega) (by omega) (by omega) (by omega) hWR).mp q).2.2 z⟩) _ (0) (by omega) (fun u a b => by omega) rfl)
        show Tm _ _ 122 b σ [(6, .int (iI i26)), (5, .int (iI (220 * r + k))), (0, .ref b), (1, .int (iI r)), (2, .int (iI k)), (3, .int (iI fr)), (4, .int (iI to))] [] _
        refine tm_iconst dX12_mayMove_122 ?_
        exact tm_zret (v := 1) rfl (by decide) dX12_mayMove_123 (⟨_, rfl, rfl, by omega, by omega, fun _ => (mvK_rv (by omega) (by omega) (by omega) (by omega) (by omega) hWR).mpr ⟨fun q => absurd (hNM.mpr q) (by omega), by omega, f25⟩, fun _ => rfl⟩)
      · refine tm_iconst dX12_mayMove_59 ?_
        exact tm_zret (v := 0) rfl (by decide) dX12_mayMove_60 (⟨_, rfl, rfl, by omega, by omega, fun q => absurd q (by decide), fun q => absurd q (fun z => absurd ((mvK_rv (by omega) (by omega) (by omega) (by omega) (by omega) hWR).mp z).2.1 (by omega))⟩)
end
section
set_option maxHeartbeats 1000000 in
set_option maxRecDepth 20000 in
theorem f_mv3 (d : Nat) {b : Nat} {σ0 : MS} {r : Int} {F : Int} {q : Int} {p0 : Int} {H : Int → Prop} {N : Int} {V0 : Int → It} {w0 : Int} {post : Option Value → MS → Prop} (hr : 0 ≤ r ∧ r < 6) (hR0 : RG σ0) (hit : ITM σ0) (hpar : PAR σ0) (hnam : NAM σ0) (hof : OKF σ0 r) (hq : q < σ0.2.1 9 r) (hH : H = NMM σ0 r) (hN : N = σ0.2.1 9 r) (hx_220 : ∀ (w : Int) (p : Int) (k : Int) (σ : MS) , (Fr [] [3, 4, 5, 6, 7, 8] [] σ0 σ) → (RG σ) → (OKS σ F r) → (CODE σ r) → (LEX σ r) → (LBM σ r) → (XR r σ0 σ) → (∃ t : Nat, ∃ p', MVT H N q t V0 p0 (rV σ r) p' ∧ mvN H N (rV σ r) p' q ∧ w = w0 + t) → Tm (d + 6) m_X12_moveAll 220 b σ [(3, .int (iI p0)), (2, .int (iI w)), (0, .ref b), (1, .int (iI r))] [] post) : ∀ (n : Nat) (w : Int) (p : Int) (k : Int) (σ : MS) , (Fr [] [3, 4, 5, 6, 7, 8] [] σ0 σ) → (RG σ) → (0 ≤ p ∧ p ≤ k ∧ k ≤ q + 1 ∧ p ≤ q) → (σ.2.1 3 (220 * r + p) = 13) → (OKS σ F r) → (CODE σ r) → (LEX σ r) → (LBM σ r) → (XR r σ0 σ) → (∃ t : Nat, MVT H N q t V0 p0 (rV σ r) p ∧ w = w0 + t ∧ p = p0 + t) → (∀ i, p ≤ i → i < k → ¬ mvK H N (rV σ r) p q i) → ((220 - p) * 221 + (221 - k)).toNat = n → Tm (d + 6) m_X12_moveAll 108 b σ [(6, .int (iI k)), (5, .int (iI q)), (4, .int (iI p)), (3, .int (iI p0)), (2, .int (iI w)), (0, .ref b), (1, .int (iI r))] [] post := by
  intro n
  induction n using Nat.strongRecOn with
  | _ n ih =>
    intro w p k σ hF hR h0 h13 hok hcd hlex hlm hxr hmt hmn hm
    have hit1 := hit.fr hF (by decide)
    have hpar1 := hpar.fr hF (by decide)
    have hnam1 := hnam.fr hF (by decide)
    have hof1 := hof.fr hF (by decide)
    have q1 := hit r (by omega) (by omega)
    have q9 : σ.2.1 9 r = σ0.2.1 9 r := by rw [hF.2.1 9 (by decide)]
    have hH1 : H = NMM σ r := hH.trans (NMM.fr hF (by decide)).symm
    have hN1 : N = σ.2.1 9 r := by omega
    refine tm_iload dX12_moveAll_108 0 rfl ?_
    refine tm_iload dX12_moveAll_110 1 rfl ?_
    refine tm_icmp_gt (tgt := 220) dX12_moveAll_112 (by decide) ⟨by omega, by omega⟩ ⟨by omega, by omega⟩ (fun h1 => ?_) (fun h1 => ?_)
    · exact tm_sub [3, 4, 5, 6] rfl (hx_220 (w) (0) (0) σ (Fr.rfl.trans (Fr.sub hF (by decide) (by decide) (by decide))) hR hok hcd hlex hlm hxr (by obtain ⟨t, e1, e2, e3⟩ := hmt; exact ⟨t, p, e1, fun i a b => by first | exact hmn i a (by omega) | (rw [show i = p by omega]; exact mvK_no (by omega) (by omega) (by omega)), e2⟩))
    · refine tm_iload dX12_moveAll_115 1 rfl ?_
      refine tm_iload dX12_moveAll_117 2 rfl ?_
      refine tm_icmp_le (tgt := 220) dX12_moveAll_119 (by decide) ⟨by omega, by omega⟩ ⟨by omega, by omega⟩ (fun h2 => ?_) (fun h2 => ?_)
      · exact tm_sub [3, 4, 5, 6] rfl (hx_220 (w) (0) (0) σ (Fr.rfl.trans (Fr.sub hF (by decide) (by decide) (by decide))) hR hok hcd hlex hlm hxr (by obtain ⟨t, e1, e2, e3⟩ := hmt; exact ⟨t, p, e1, fun i a b => by first | exact hmn i a (by omega) | (rw [show i = p by omega]; exact mvK_no (by omega) (by omega) (by omega)), e2⟩))
      · refine tm_aload_n dX12_moveAll_122 rfl 5 rfl ?_
        refine tm_iload_n dX12_moveAll_123 rfl 6 rfl ?_
        refine tm_iload dX12_moveAll_124 0 rfl ?_
        refine tm_iload dX12_moveAll_126 2 rfl ?_
        refine tm_iload dX12_moveAll_128 1 rfl ?_
        refine tm_callV (M := m_X12_moveAll) (pc := 130) (ix := 490) (M' := m_X12_mayMove) (As := [.int (iI r), .int (iI k), .int (iI p), .int (iI q)]) (rest := []) dX12_moveAll_130 ok_X12_mayMove im_X12_mayMove se_X12_mayMove ml12_490 np_X12_mayMove rfl rfl (Nat.le_of_ble_eq_true rfl) (Nat.le_of_ble_eq_true rfl) rfl (f_X12_mayMove (d) (σ := σ) (r := r) (k := k) (fr := p) (to := q) (F := F) (by omega) hR hit1 hpar1 hok hof1 hnam1 (by omega) (by omega)) (fun r3 σ4 hp => ?_)
        obtain ⟨v5, rfl, rfl, f6, f7, f8⟩ := hp
        show Tm _ _ 133 b σ [(6, .int (iI k)), (5, .int (iI q)), (4, .int (iI p)), (3, .int (iI p0)), (2, .int (iI w)), (0, .ref b), (1, .int (iI r))] [.int (iI v5)] _
        have hMK := f8
        rw [← hH1, ← hN1] at hMK
        refine tm_if_ne (tgt := 142) dX12_moveAll_133 (by decide) ⟨by omega, by omega⟩ (fun h10 => ?_) (fun h10 => ?_)
        · have hmk := hMK.mp (by omega)
          have hv5 := f7 (by omega)
          have hk5 : σ.2.1 3 (220 * r + k) ≤ 5 := hv5
          have hpk : p ≠ k := fun e => by subst e; omega
          refine tm_aload_n dX12_moveAll_142 rfl 5 rfl ?_
          refine tm_aload_n dX12_moveAll_143 rfl 5 rfl ?_
          refine tm_iload_n dX12_moveAll_144 rfl 6 rfl ?_
          refine tm_iload dX12_moveAll_145 0 rfl ?_
          refine tm_callV (M := m_X12_moveAll) (pc := 147) (ix := 203) (M' := m_X12_at) (As := [.int (iI r), .int (iI k)]) (rest := [.ref b]) dX12_moveAll_147 ok_X12_at im_X12_at se_X12_at ml12_203 np_X12_at rfl rfl (Nat.le_of_ble_eq_true rfl) (Nat.le_of_ble_eq_true rfl) rfl (c_X12_at (d + 4) (σ := σ) (x := r) (k := k) ) (fun r11 σ12 hp => ?_)
          obtain ⟨v13, rfl, rfl, f14⟩ := hp
          subst f14
          show Tm _ _ 150 b σ [(6, .int (iI k)), (5, .int (iI q)), (4, .int (iI p)), (3, .int (iI p0)), (2, .int (iI w)), (0, .ref b), (1, .int (iI r))] [.int (iI (220 * r + k)), .ref b] _
          refine tm_sipush dX12_moveAll_150 (by decide) ?_
          refine tm_callV (M := m_X12_moveAll) (pc := 153) (ix := 394) (M' := m_X12_copyItem) (As := [.int (iI (220 * r + k)), .int (iI 2640)]) (rest := []) dX12_moveAll_153 ok_X12_copyItem im_X12_copyItem se_X12_copyItem ml12_394 np_X12_copyItem rfl rfl (Nat.le_of_ble_eq_true rfl) (Nat.le_of_ble_eq_true rfl) rfl (c_X12_copyItem (d + 4) (σ := σ) (f := 220 * r + k) (t := 2640) (by omega) (by omega)) (fun r15 σ16 hp => ?_)
          obtain ⟨rfl, f18⟩ := hp
          subst f18
          show Tm _ _ 156 b (fCopy (220 * r + k) (2640) σ) [(6, .int (iI k)), (5, .int (iI q)), (4, .int (iI p)), (3, .int (iI p0)), (2, .int (iI w)), (0, .ref b), (1, .int (iI r))] [] _
          refine tm_iload dX12_moveAll_156 0 rfl ?_
          refine tm_istore (L' := [(7, .int (iI k)), (6, .int (iI k)), (5, .int (iI q)), (4, .int (iI p)), (3, .int (iI p0)), (2, .int (iI w)), (0, .ref b), (1, .int (iI r))]) dX12_moveAll_158 (by decide) rfl ?_
          refine tm_sub [0, 1, 2, 3, 4, 5, 6, 7] rfl (l_mv4 (d + 4) (σ0 := (fCopy (220 * r + k) (2640) σ)) (r := r) (w := w) (p0 := p0) (p := p) (q := q) (k := k) hr (by omega) (fun i24 σ25 F21 R22 f23 => ?_) _ (k) (fCopy (220 * r + k) (2640) σ) Fr.rfl (hR.copy) (by omega) SHF.start rfl)
          show Tm _ _ 193 b σ25 [(7, .int (iI i24)), (6, .int (iI k)), (5, .int (iI q)), (4, .int (iI p)), (3, .int (iI p0)), (2, .int (iI w)), (0, .ref b), (1, .int (iI r))] [] _
          have hfin := SHF.fin (F := F) (p := p) f23 hr (by omega) h13 hk5 hok hcd hlex hlm (fCopy_fr.trans F21)
          have hli := mv_li (p := p) hr (by omega) f23 (by rw [F21.2.1 9 (by decide)]; rfl)
          refine tm_aload_n dX12_moveAll_193 rfl 6 rfl ?_
          refine tm_sipush dX12_moveAll_194 (by decide) ?_
          refine tm_aload_n dX12_moveAll_197 rfl 6 rfl ?_
          refine tm_iload_n dX12_moveAll_198 rfl 7 rfl ?_
          refine tm_iload dX12_moveAll_199 3 rfl ?_
          refine tm_callV (M := m_X12_moveAll) (pc := 201) (ix := 203) (M' := m_X12_at) (As := [.int (iI r), .int (iI p)]) (rest := [.int (iI 2640), .ref b]) dX12_moveAll_201 ok_X12_at im_X12_at se_X12_at ml12_203 np_X12_at rfl rfl (Nat.le_of_ble_eq_true rfl) (Nat.le_of_ble_eq_true rfl) rfl (c_X12_at (d + 4) (σ := σ25) (x := r) (k := p) ) (fun r26 σ27 hp => ?_)
          obtain ⟨v28, rfl, rfl, f29⟩ := hp
          subst f29
          show Tm _ _ 204 b σ25 [(7, .int (iI i24)), (6, .int (iI k)), (5, .int (iI q)), (4, .int (iI p)), (3, .int (iI p0)), (2, .int (iI w)), (0, .ref b), (1, .int (iI r))] [.int (iI (220 * r + p)), .int (iI 2640), .ref b] _
          refine tm_callV (M := m_X12_moveAll) (pc := 204) (ix := 394) (M' := m_X12_copyItem) (As := [.int (iI 2640), .int (iI (220 * r + p))]) (rest := []) dX12_moveAll_204 ok_X12_copyItem im_X12_copyItem se_X12_copyItem ml12_394 np_X12_copyItem rfl rfl (Nat.le_of_ble_eq_true rfl) (Nat.le_of_ble_eq_true rfl) rfl (c_X12_copyItem (d + 4) (σ := σ25) (f := 2640) (t := 220 * r + p) (by omega) (by omega)) (fun r30 σ31 hp => ?_)
          obtain ⟨rfl, f33⟩ := hp
          subst f33
          show Tm _ _ 207 b (fCopy (2640) (220 * r + p) σ25) [(7, .int (iI i24)), (6, .int (iI k)), (5, .int (iI q)), (4, .int (iI p)), (3, .int (iI p0)), (2, .int (iI w)), (0, .ref b), (1, .int (iI r))] [] _
          refine tm_iinc (q0 := 5) (L' := [(2, .int (iI (w + 1))), (7, .int (iI i24)), (6, .int (iI k)), (5, .int (iI q)), (4, .int (iI p)), (3, .int (iI p0)), (0, .ref b), (1, .int (iI r))]) dX12_moveAll_207 rfl (by decide) rfl ?_
          refine tm_iinc (q0 := 4) (L' := [(4, .int (iI (p + 1))), (2, .int (iI (w + 1))), (7, .int (iI i24)), (6, .int (iI k)), (5, .int (iI q)), (3, .int (iI p0)), (0, .ref b), (1, .int (iI r))]) dX12_moveAll_210 rfl (by decide) rfl ?_
          refine tm_iload dX12_moveAll_213 0 rfl ?_
          refine tm_istore (L' := [(6, .int (iI (p + 1))), (4, .int (iI (p + 1))), (2, .int (iI (w + 1))), (7, .int (iI i24)), (5, .int (iI q)), (3, .int (iI p0)), (0, .ref b), (1, .int (iI r))]) dX12_moveAll_215 (by decide) rfl ?_
          refine tm_goto (tgt := 108) dX12_moveAll_217 (by decide) ?_
          exact tm_sub [0, 4, 1, 5, 2, 6, 7] rfl (ih _ (by omega) (w + 1) (p + 1) (p + 1) (fCopy (2640) (220 * r + p) σ25) ((((Fr.rfl.trans (Fr.sub hF (by decide) (by decide) (by decide))).trans (Fr.sub fCopy_fr (by decide) (by decide) (by decide))).trans (Fr.sub F21 (by decide) (by decide) (by decide))).trans (Fr.sub fCopy_fr (by decide) (by decide) (by decide))) (R22.copy) (by omega) hfin.2.2.2.2.2 hfin.2.2.2.1 hfin.1 hfin.2.1 hfin.2.2.1 (hxr.trans hfin.2.2.2.2.1) (by obtain ⟨t, e1, e2, e3⟩ := hmt; exact ⟨t + 1, ⟨rV σ r, p, k, e1, ⟨by omega, by omega, hmk, hmn⟩, hli, rfl⟩, by omega, by omega⟩) (fun i a b => by omega) rfl)
        · have hmk : ¬ mvK H N (rV σ r) p q k := fun z => absurd (hMK.mpr z) (by omega)
          refine tm_iinc (q0 := 0) (L' := [(6, .int (iI (k + 1))), (5, .int (iI q)), (4, .int (iI p)), (3, .int (iI p0)), (2, .int (iI w)), (0, .ref b), (1, .int (iI r))]) dX12_moveAll_136 rfl (by decide) rfl ?_
          refine tm_goto (tgt := 108) dX12_moveAll_139 (by decide) ?_
          exact tm_sub [0, 1, 2, 3, 4, 5, 6] rfl (ih _ (by omega) (w) (p) (k + 1) σ (Fr.rfl.trans (Fr.sub hF (by decide) (by decide) (by decide))) hR (by omega) h13 hok hcd hlex hlm hxr hmt (fun i a b => by
          by_cases e : i = k
          · subst e; exact hmk
          · exact hmn i a (by omega)) rfl)
set_option maxHeartbeats 1000000 in
set_option maxRecDepth 20000 in
theorem f_mv2 (d : Nat) {b : Nat} {σ : MS} {r : Int} {w : Int} {p0 : Int} {p : Int} {post : Option Value → MS → Prop} (hr : 0 ≤ r ∧ r < 6) (hR : RG σ) (hp : 0 ≤ p ∧ p < 220) (hx_104 : ∀ (q : Int) , (p ≤ q ∧ q < σ.2.1 9 r) → (LJ (rV σ r) (σ.2.1 9 r) p q) → Tm (d + 2) m_X12_moveAll 104 b σ [(5, .int (iI q)), (4, .int (iI p)), (3, .int (iI p0)), (2, .int (iI w)), (0, .ref b), (1, .int (iI r))] [] post) : ∀ (n : Nat) (q : Int) , (p ≤ q ∧ q < σ.2.1 9 r ∧ σ.2.1 9 r ≤ 220) → (∀ i, q < i → i < σ.2.1 9 r → ¬ (σ.2.1 3 (220 * r + i) = 8 ∧ σ.2.1 4 (220 * r + i) = σ.2.1 4 (220 * r + p))) → (q - p).toNat = n → Tm (d + 2) m_X12_moveAll 47 b σ [(5, .int (iI q)), (4, .int (iI p)), (3, .int (iI p0)), (2, .int (iI w)), (0, .ref b), (1, .int (iI r))] [] post := by
  intro n
  induction n using Nat.strongRecOn with
  | _ n ih =>
    intro q h0 hj hm
    refine tm_iload dX12_moveAll_47 0 rfl ?_
    refine tm_iload dX12_moveAll_49 1 rfl ?_
    refine tm_icmp_le (tgt := 104) dX12_moveAll_51 (by decide) ⟨by omega, by omega⟩ ⟨by omega, by omega⟩ (fun h1 => ?_) (fun h1 => ?_)
    · exact tm_sub [0, 1, 2, 3, 4, 5] rfl (hx_104 (q) (by omega) ⟨by omega, by omega, fun z => by rw [rv_at (k := q) (by omega) (by omega), rv_at (k := q) (by omega) (by omega), rv_at (k := p) (by omega) (by omega)]; show σ.2.1 3 (220 * r + q) = 8 ∧ σ.2.1 4 (220 * r + q) = σ.2.1 4 (220 * r + p); omega, fun i a b => by rw [rv_at (k := i) (by omega) (by omega), rv_at (k := i) (by omega) (by omega), rv_at (k := p) (by omega) (by omega)]; exact hj i a b⟩)
    · refine tm_aload_n dX12_moveAll_54 rfl 4 rfl ?_
      refine tm_get (k := 3) (v := .ref (b + 1 + 1)) lay_12 dX12_moveAll_55 (by decide) fl12_13 rfl ?_
      refine tm_aload_n dX12_moveAll_58 rfl 4 rfl ?_
      refine tm_iload_n dX12_moveAll_59 rfl 5 rfl ?_
      refine tm_iload dX12_moveAll_60 0 rfl ?_
      refine tm_callV (M := m_X12_moveAll) (pc := 62) (ix := 203) (M' := m_X12_at) (As := [.int (iI r), .int (iI q)]) (rest := [.ref (b + 1 + 1)]) dX12_moveAll_62 ok_X12_at im_X12_at se_X12_at ml12_203 np_X12_at rfl rfl (Nat.le_of_ble_eq_true rfl) (Nat.le_of_ble_eq_true rfl) rfl (c_X12_at (d) (σ := σ) (x := r) (k := q) ) (fun r2 σ3 hp => ?_)
      obtain ⟨v4, rfl, rfl, f5⟩ := hp
      subst f5
      show Tm _ _ 65 b σ [(5, .int (iI q)), (4, .int (iI p)), (3, .int (iI p0)), (2, .int (iI w)), (0, .ref b), (1, .int (iI r))] [.int (iI (220 * r + q)), .ref (b + 1 + 1)] _
      refine tm_iald (z := 220 * r + q) (v := σ.2.1 3 (220 * r + q)) dX12_moveAll_65 (show mT[1]? = some (3, 0, 2860) from rfl) (by omega) (by omega) (by decide) (rfl) ?_
      have g6 := RG.a hR 3 (220 * r + q)
      refine tm_bipush dX12_moveAll_66 (by decide) ?_
      refine tm_icmp_ne (tgt := 98) dX12_moveAll_68 (by decide) ⟨by omega, by omega⟩ ⟨by decide, by decide⟩ (fun h7 => ?_) (fun h7 => ?_)
      · refine tm_iinc (q0 := 0) (L' := [(5, .int (iI (q + (-1)))), (4, .int (iI p)), (3, .int (iI p0)), (2, .int (iI w)), (0, .ref b), (1, .int (iI r))]) dX12_moveAll_98 rfl (by decide) rfl ?_
        refine tm_goto (tgt := 47) dX12_moveAll_101 (by decide) ?_
        exact tm_sub [0, 1, 2, 3, 4, 5] rfl (ih _ (by omega) (q + (-1)) (by omega) (fun i a b => by
          by_cases e : i = q
          · subst e; omega
          · exact hj i (by omega) b) rfl)
      · refine tm_aload_n dX12_moveAll_71 rfl 4 rfl ?_
        refine tm_get (k := 4) (v := .ref (b + 1 + 2)) lay_12 dX12_moveAll_72 (by decide) fl12_17 rfl ?_
        refine tm_aload_n dX12_moveAll_75 rfl 4 rfl ?_
        refine tm_iload_n dX12_moveAll_76 rfl 5 rfl ?_
        refine tm_iload dX12_moveAll_77 0 rfl ?_
        refine tm_callV (M := m_X12_moveAll) (pc := 79) (ix := 203) (M' := m_X12_at) (As := [.int (iI r), .int (iI q)]) (rest := [.ref (b + 1 + 2)]) dX12_moveAll_79 ok_X12_at im_X12_at se_X12_at ml12_203 np_X12_at rfl rfl (Nat.le_of_ble_eq_true rfl) (Nat.le_of_ble_eq_true rfl) rfl (c_X12_at (d) (σ := σ) (x := r) (k := q) ) (fun r8 σ9 hp => ?_)
        obtain ⟨v10, rfl, rfl, f11⟩ := hp
        subst f11
        show Tm _ _ 82 b σ [(5, .int (iI q)), (4, .int (iI p)), (3, .int (iI p0)), (2, .int (iI w)), (0, .ref b), (1, .int (iI r))] [.int (iI (220 * r + q)), .ref (b + 1 + 2)] _
        refine tm_iald (z := 220 * r + q) (v := σ.2.1 4 (220 * r + q)) dX12_moveAll_82 (show mT[2]? = some (4, 0, 2860) from rfl) (by omega) (by omega) (by decide) (rfl) ?_
        have g12 := RG.a hR 4 (220 * r + q)
        refine tm_aload_n dX12_moveAll_83 rfl 4 rfl ?_
        refine tm_get (k := 4) (v := .ref (b + 1 + 2)) lay_12 dX12_moveAll_84 (by decide) fl12_17 rfl ?_
        refine tm_aload_n dX12_moveAll_87 rfl 4 rfl ?_
        refine tm_iload_n dX12_moveAll_88 rfl 5 rfl ?_
        refine tm_iload dX12_moveAll_89 1 rfl ?_
        refine tm_callV (M := m_X12_moveAll) (pc := 91) (ix := 203) (M' := m_X12_at) (As := [.int (iI r), .int (iI p)]) (rest := [.ref (b + 1 + 2), .int (iI (σ.2.1 4 (220 * r + q)))]) dX12_moveAll_91 ok_X12_at im_X12_at se_X12_at ml12_203 np_X12_at rfl rfl (Nat.le_of_ble_eq_true rfl) (Nat.le_of_ble_eq_true rfl) rfl (c_X12_at (d) (σ := σ) (x := r) (k := p) ) (fun r13 σ14 hp => ?_)
        obtain ⟨v15, rfl, rfl, f16⟩ := hp
        subst f16
        show Tm _ _ 94 b σ [(5, .int (iI q)), (4, .int (iI p)), (3, .int (iI p0)), (2, .int (iI w)), (0, .ref b), (1, .int (iI r))] [.int (iI (220 * r + p)), .ref (b + 1 + 2), .int (iI (σ.2.1 4 (220 * r + q)))] _
        refine tm_iald (z := 220 * r + p) (v := σ.2.1 4 (220 * r + p)) dX12_moveAll_94 (show mT[2]? = some (4, 0, 2860) from rfl) (by omega) (by omega) (by decide) (rfl) ?_
        have g17 := RG.a hR 4 (220 * r + p)
        refine tm_icmp_eq (tgt := 104) dX12_moveAll_95 (by decide) ⟨by omega, by omega⟩ ⟨by omega, by omega⟩ (fun h18 => ?_) (fun h18 => ?_)
        · exact tm_sub [0, 1, 2, 3, 4, 5] rfl (hx_104 (q) (by omega) ⟨by omega, by omega, fun z => by rw [rv_at (k := q) (by omega) (by omega), rv_at (k := q) (by omega) (by omega), rv_at (k := p) (by omega) (by omega)]; show σ.2.1 3 (220 * r + q) = 8 ∧ σ.2.1 4 (220 * r + q) = σ.2.1 4 (220 * r + p); omega, fun i a b => by rw [rv_at (k := i) (by omega) (by omega), rv_at (k := i) (by omega) (by omega), rv_at (k := p) (by omega) (by omega)]; exact hj i a b⟩)
        · refine tm_iinc (q0 := 0) (L' := [(5, .int (iI (q + (-1)))), (4, .int (iI p)), (3, .int (iI p0)), (2, .int (iI w)), (0, .ref b), (1, .int (iI r))]) dX12_moveAll_98 rfl (by decide) rfl ?_
          refine tm_goto (tgt := 47) dX12_moveAll_101 (by decide) ?_
          exact tm_sub [0, 1, 2, 3, 4, 5] rfl (ih _ (by omega) (q + (-1)) (by omega) (fun i a b => by
          by_cases e : i = q
          · subst e; omega
          · exact hj i (by omega) b) rfl)
set_option maxHeartbeats 1000000 in
set_option maxRecDepth 20000 in
theorem f_mv1 (d : Nat) {b : Nat} {σ0 : MS} {r : Int} {F : Int} {H : Int → Prop} {N : Int} {post : Option Value → MS → Prop} (hr : 0 ≤ r ∧ r < 6) (hR0 : RG σ0) (hit : ITM σ0) (hpar : PAR σ0) (hnam : NAM σ0) (hof : OKF σ0 r) (hH : H = NMM σ0 r) (hN : N = σ0.2.1 9 r) (hx_226 : ∀ (w : Int) (p0 : Int) (σ : MS) , (Fr [] [3, 4, 5, 6, 7, 8] [] σ0 σ) → (RG σ) → (OKS σ F r) → (CODE σ r) → (LEX σ r) → (LBM σ r) → (XR r σ0 σ) → (MVA H N N.toNat (rV σ0 r) (rV σ r) w) → Tm (d + 6) m_X12_moveAll 226 b σ [(3, .int (iI p0)), (2, .int (iI w)), (0, .ref b), (1, .int (iI r))] [] post) : ∀ (n : Nat) (w : Int) (p0 : Int) (σ : MS) , (Fr [] [3, 4, 5, 6, 7, 8] [] σ0 σ) → (RG σ) → (-1 ≤ p0 ∧ p0 < σ0.2.1 9 r) → (OKS σ F r) → (CODE σ r) → (LEX σ r) → (LBM σ r) → (XR r σ0 σ) → (MVA H N (N - 1 - p0).toNat (rV σ0 r) (rV σ r) w) → (p0 + 1).toNat = n → Tm (d + 6) m_X12_moveAll 11 b σ [(3, .int (iI p0)), (2, .int (iI w)), (0, .ref b), (1, .int (iI r))] [] post := by
  intro n
  induction n using Nat.strongRecOn with
  | _ n ih =>
    intro w p0 σ hF hR h0 hok hcd hlex hlm hxr hma hm
    have hit1 := hit.fr hF (by decide)
    have hpar1 := hpar.fr hF (by decide)
    have hnam1 := hnam.fr hF (by decide)
    have hof1 := hof.fr hF (by decide)
    have q1 := hit r (by omega) (by omega)
    have q9 : σ.2.1 9 r = σ0.2.1 9 r := by rw [hF.2.1 9 (by decide)]
    have hH1 : H = NMM σ r := hH.trans (NMM.fr hF (by decide)).symm
    have hN1 : N = σ.2.1 9 r := by omega
    refine tm_iload_n dX12_moveAll_11 rfl 0 rfl ?_
    refine tm_if_lt (tgt := 226) dX12_moveAll_12 (by decide) ⟨by omega, by omega⟩ (fun h1 => ?_) (fun h1 => ?_)
    · exact tm_sub [0, 1, 2, 3] rfl (hx_226 (w) (p0) σ (Fr.rfl.trans (Fr.sub hF (by decide) (by decide) (by decide))) hR hok hcd hlex hlm hxr (by have e9 := hma; rw [show (N - 1 - p0).toNat = N.toNat by omega] at e9; exact e9))
    · refine tm_aload_n dX12_moveAll_15 rfl 2 rfl ?_
      refine tm_get (k := 3) (v := .ref (b + 1 + 1)) lay_12 dX12_moveAll_16 (by decide) fl12_13 rfl ?_
      refine tm_aload_n dX12_moveAll_19 rfl 2 rfl ?_
      refine tm_iload_n dX12_moveAll_20 rfl 3 rfl ?_
      refine tm_iload_n dX12_moveAll_21 rfl 0 rfl ?_
      refine tm_callV (M := m_X12_moveAll) (pc := 22) (ix := 203) (M' := m_X12_at) (As := [.int (iI r), .int (iI p0)]) (rest := [.ref (b + 1 + 1)]) dX12_moveAll_22 ok_X12_at im_X12_at se_X12_at ml12_203 np_X12_at rfl rfl (Nat.le_of_ble_eq_true rfl) (Nat.le_of_ble_eq_true rfl) rfl (c_X12_at (d + 4) (σ := σ) (x := r) (k := p0) ) (fun r2 σ3 hp => ?_)
      obtain ⟨v4, rfl, rfl, f5⟩ := hp
      subst f5
      show Tm _ _ 25 b σ [(3, .int (iI p0)), (2, .int (iI w)), (0, .ref b), (1, .int (iI r))] [.int (iI (220 * r + p0)), .ref (b + 1 + 1)] _
      refine tm_iald (z := 220 * r + p0) (v := σ.2.1 3 (220 * r + p0)) dX12_moveAll_25 (show mT[1]? = some (3, 0, 2860) from rfl) (by omega) (by omega) (by decide) (rfl) ?_
      have g6 := RG.a hR 3 (220 * r + p0)
      refine tm_bipush dX12_moveAll_26 (by decide) ?_
      refine tm_icmp_eq (tgt := 34) dX12_moveAll_28 (by decide) ⟨by omega, by omega⟩ ⟨by decide, by decide⟩ (fun h7 => ?_) (fun h7 => ?_)
      · refine tm_iload_n dX12_moveAll_34 rfl 0 rfl ?_
        refine tm_istore (L' := [(4, .int (iI p0)), (3, .int (iI p0)), (2, .int (iI w)), (0, .ref b), (1, .int (iI r))]) dX12_moveAll_35 (by decide) rfl ?_
        refine tm_aload_n dX12_moveAll_37 rfl 3 rfl ?_
        refine tm_get (k := 9) (v := .ref (b + 1 + 7)) lay_12 dX12_moveAll_38 (by decide) fl12_32 rfl ?_
        refine tm_iload_n dX12_moveAll_41 rfl 4 rfl ?_
        refine tm_iald (z := r) (v := σ0.2.1 9 r) dX12_moveAll_42 (show mT[7]? = some (9, 0, 13) from rfl) (by omega) (by omega) (by decide) (ra_F hF (by decide) (rfl)) ?_
        have g8 := RG.a hR0 9 (r)
        refine tm_iconst dX12_moveAll_43 ?_
        refine tm_isub dX12_moveAll_44 ?_
        refine tm_istore (L' := [(5, .int (iI ((σ0.2.1 9 r) - 1))), (4, .int (iI p0)), (3, .int (iI p0)), (2, .int (iI w)), (0, .ref b), (1, .int (iI r))]) dX12_moveAll_45 (by decide) rfl ?_
        refine tm_sub [0, 1, 2, 3, 4, 5] rfl (f_mv2 (d + 4) (σ := σ) (r := r) (w := w) (p0 := p0) (p := p0) hr hR (by omega) (fun q14 f12 f13 => ?_) _ ((σ0.2.1 9 r) - 1) (by omega) (fun i a b => by omega) rfl)
        show Tm _ _ 104 b σ [(5, .int (iI q14)), (4, .int (iI p0)), (3, .int (iI p0)), (2, .int (iI w)), (0, .ref b), (1, .int (iI r))] [] _
        have hLJ := f13
        rw [← hN1] at hLJ
        refine tm_iload dX12_moveAll_104 1 rfl ?_
        refine tm_istore (L' := [(6, .int (iI p0)), (5, .int (iI q14)), (4, .int (iI p0)), (3, .int (iI p0)), (2, .int (iI w)), (0, .ref b), (1, .int (iI r))]) dX12_moveAll_106 (by decide) rfl ?_
        refine tm_sub [0, 1, 2, 3, 4, 5, 6] rfl (f_mv3 (d) (σ0 := σ) (r := r) (q := q14) (p0 := p0) (F := F) (H := H) (N := N) (V0 := (rV σ r)) (w0 := w) hr hR hit1 hpar1 hnam1 hof1 (by omega) hH1 hN1 (fun w27 p28 k29 σ30 F19 R20 f21 f22 f23 f24 f25 f26 => ?_) _ (w) (p0) (p0) σ Fr.rfl hR (by omega) (by omega) hok hcd hlex hlm XR.rfl ⟨0, ⟨rfl, rfl⟩, by omega, by omega⟩ (fun i a b => by omega) rfl)
        show Tm _ _ 220 b σ30 [(3, .int (iI p0)), (2, .int (iI w27)), (0, .ref b), (1, .int (iI r))] [] _
        refine tm_iinc (q0 := 0) (L' := [(3, .int (iI (p0 + (-1)))), (2, .int (iI w27)), (0, .ref b), (1, .int (iI r))]) dX12_moveAll_220 rfl (by decide) rfl ?_
        refine tm_goto (tgt := 11) dX12_moveAll_223 (by decide) ?_
        exact tm_sub [0, 1, 2, 3] rfl (ih _ (by omega) (w27) (p0 + (-1)) σ30 ((Fr.rfl.trans (Fr.sub hF (by decide) (by decide) (by decide))).trans (Fr.sub F19 (by decide) (by decide) (by decide))) R20 (by omega) f21 f22 f23 f24 (hxr.trans f25) (by rw [show p0 + (-1) = p0 - 1 by omega]; obtain ⟨t, p1, e1, e2, e3⟩ := f26; rw [e3]; refine hma.s (by omega) (Or.inr ⟨by rw [rv_at (by omega) (by omega)]; show σ.2.1 3 (220 * r + p0) = 13; omega, _, hLJ, ?_⟩); rcases Int.lt_or_le p0 q14 with z | z; exact Or.inr ⟨z, t, p1, e1, e2, rfl⟩; exact mv_q0 z hLJ.1 e1 (by rw [rv_at (by omega) (by omega)]; show σ.2.1 3 (220 * r + p0) = 13; omega)) rfl)
      · refine tm_goto (tgt := 220) dX12_moveAll_31 (by decide) ?_
        refine tm_iinc (q0 := 0) (L' := [(3, .int (iI (p0 + (-1)))), (2, .int (iI w)), (0, .ref b), (1, .int (iI r))]) dX12_moveAll_220 rfl (by decide) rfl ?_
        refine tm_goto (tgt := 11) dX12_moveAll_223 (by decide) ?_
        exact tm_sub [0, 1, 2, 3] rfl (ih _ (by omega) (w) (p0 + (-1)) σ (Fr.rfl.trans (Fr.sub hF (by decide) (by decide) (by decide))) hR (by omega) hok hcd hlex hlm hxr (by rw [show p0 + (-1) = p0 - 1 by omega]; have e9 := hma.s (by omega) (Or.inl ⟨by rw [rv_at (by omega) (by omega)]; show ¬ σ.2.1 3 (220 * r + p0) = 13; omega, rfl, rfl⟩); rwa [Int.add_zero] at e9) rfl)
end
section
set_option maxHeartbeats 1000000 in
set_option maxRecDepth 20000 in
theorem f_X12_moveAll (d : Nat) {b : Nat} {σ : MS} {r : Int} {F : Int} (hr : 0 ≤ r ∧ r < 6) (hR : RG σ) (hit : ITM σ) (hpar : PAR σ) (hnam : NAM σ) (hok : OKS σ F r) (hof : OKF σ r) (hn : 1 ≤ σ.2.1 9 r) (hcd : CODE σ r) (hlex : LEX σ r) (hlm : LBM σ r) : Tm (d + 6) m_X12_moveAll 0 b σ [(0, .ref b), (1, .int (iI r))] [] (fun ro σ2 => ∃ v : Int, ro = some (.int (iI v)) ∧ (Fr [] [3, 4, 5, 6, 7, 8] [] σ σ2) ∧ (RG σ2) ∧ (XR r σ σ2) ∧ (OKS σ2 F r) ∧ (CODE σ2 r) ∧ (LEX σ2 r) ∧ (LBM σ2 r) ∧ (MVA (NMM σ r) (σ.2.1 9 r) (σ.2.1 9 r).toNat (rV σ r) (rV σ2 r) v)) := by
  have q1 := hit r (by omega) (by omega)
  refine tm_iconst dX12_moveAll_0 ?_
  refine tm_istore_n (L' := [(2, .int (iI 0)), (0, .ref b), (1, .int (iI r))]) dX12_moveAll_1 rfl (by decide) rfl ?_
  refine tm_aload_n dX12_moveAll_2 rfl 1 rfl ?_
  refine tm_get (k := 9) (v := .ref (b + 1 + 7)) lay_12 dX12_moveAll_3 (by decide) fl12_32 rfl ?_
  refine tm_iload_n dX12_moveAll_6 rfl 2 rfl ?_
  refine tm_iald (z := r) (v := σ.2.1 9 r) dX12_moveAll_7 (show mT[7]? = some (9, 0, 13) from rfl) (by omega) (by omega) (by decide) (rfl) ?_
  have g1 := RG.a hR 9 (r)
  refine tm_iconst dX12_moveAll_8 ?_
  refine tm_isub dX12_moveAll_9 ?_
  refine tm_istore_n (L' := [(3, .int (iI ((σ.2.1 9 r) - 1))), (2, .int (iI 0)), (0, .ref b), (1, .int (iI r))]) dX12_moveAll_10 rfl (by decide) rfl ?_
  refine tm_sub [0, 1, 2, 3] rfl (f_mv1 (d) (σ0 := σ) (r := r) (F := F) (H := (NMM σ r)) (N := (σ.2.1 9 r)) hr hR hit hpar hnam hof rfl rfl (fun w13 p014 σ15 F5 R6 f7 f8 f9 f10 f11 f12 => ?_) _ (0) ((σ.2.1 9 r) - 1) σ Fr.rfl hR (by omega) hok hcd hlex hlm XR.rfl (by rw [show (σ.2.1 9 r - 1 - (σ.2.1 9 r - 1)).toNat = 0 by omega]; exact ⟨rfl, rfl⟩) rfl)
  show Tm _ _ 226 b σ15 [(3, .int (iI p014)), (2, .int (iI w13)), (0, .ref b), (1, .int (iI r))] [] _
  refine tm_iload_n dX12_moveAll_226 rfl 1 rfl ?_
  exact tm_iret rfl dX12_moveAll_227 (⟨_, rfl, (Fr.rfl.trans (Fr.sub F5 (by decide) (by decide) (by decide))), R6, f11, f7, f8, f9, f10, f12⟩)
end
section
def Wz (w : Int) (P : Prop) : Prop := w = 0 → P
def TGv (V : Int → It) (n k t : Int) : Prop := 0 ≤ t ∧ t < n ∧ V t 0 = 13 ∧ V t 1 = V k 1
def EDv (V : Int → It) (n k t : Int) : Prop := (¬ (V k 0 = 8 ∨ V k 0 = 7) ∧ t = k + 1) ∨ ((V k 0 = 8 ∨ V k 0 = 9) ∧ TGv V n k t)
def UNQ (V : Int → It) (n : Int) : Prop := ∀ i j, 0 ≤ i → i < n → 0 ≤ j → j < n → V i 0 = 13 → V j 0 = 13 → V i 1 = V j 1 → i = j
def RCG (V : Int → It) (n s : Int) (B : Int → Prop) (k : Int) : Prop := ∀ S : Int → Prop, S s → (∀ i t, 0 ≤ i → i < n → S i → ¬ B i → EDv V n i t → S t) → S k
theorem RCG.s {V : Int → It} {n s k t : Int} {B : Int → Prop} (h : RCG V n s B k) (h0 : 0 ≤ k) (h1 : k < n) (hb : ¬ B k) (e : EDv V n k t) : RCG V n s B t := fun S a b => b k t h0 h1 (h S a b) hb e
theorem RCG.z {V : Int → It} {n s : Int} {B : Int → Prop} : RCG V n s B s := fun _ a _ => a
def LVV (V : Int → It) (n k g : Int) : Prop := ∀ S : Int → Int → Prop, (∀ i g, 0 ≤ i → i < n → ((V i 0 ≠ 12 ∧ rdI (V i) g) ∨ (¬ wrT (V i) g ∧ ∃ t, EDv V n i t ∧ S t g)) → S i g) → S k g
theorem LVV.rd {V : Int → It} {n k g : Int} (h0 : 0 ≤ k) (h1 : k < n) (h : V k 0 ≠ 12) (hr : rdI (V k) g) : LVV V n k g := fun _ b => b k g h0 h1 (Or.inl ⟨h, hr⟩)
theorem LVV.on {V : Int → It} {n k g t : Int} (h0 : 0 ≤ k) (h1 : k < n) (hw : ¬ wrT (V k) g) (e : EDv V n k t) (h : LVV V n t g) : LVV V n k g := fun S b => b k g h0 h1 (Or.inr ⟨hw, t, e, h S b⟩)
section FLW
variable {σ τ : MS} {r k t n g : Int}
theorem ed_rv (hd : TGD σ r) (hu : UNQ (rV σ r) (σ.2.1 9 r)) (h0 : 0 ≤ k) (h1 : k < σ.2.1 9 r) : EDv (rV σ r) (σ.2.1 9 r) k t ↔ (¬ (σ.2.1 3 (220 * r + k) = 8 ∨ σ.2.1 3 (220 * r + k) = 7) ∧ t = k + 1) ∨ ((σ.2.1 3 (220 * r + k) = 8 ∨ σ.2.1 3 (220 * r + k) = 9) ∧ t = σ.2.1 46 (σ.2.1 4 (220 * r + k))) := by
  unfold EDv TGv
  rw [rv_in h0 h1, ri0, ri1]
  constructor
  · rintro (h | ⟨c, a, b, e, f⟩)
    · exact Or.inl h
    · refine Or.inr ⟨c, ?_⟩
      have q := hd k h0 h1 c
      refine hu _ _ a b q.1.1 q.1.2 e ?_ ?_
      · rw [rv_in q.1.1 q.1.2]; exact q.2.1
      · rw [f, rv_in q.1.1 q.1.2]; exact q.2.2.symm
  · rintro (h | ⟨c, e⟩)
    · exact Or.inl h
    · have q := hd k h0 h1 c
      rw [e]
      exact Or.inr ⟨c, q.1.1, q.1.2, by rw [rv_in q.1.1 q.1.2]; exact q.2.1, by rw [rv_in q.1.1 q.1.2]; exact q.2.2⟩
def RDV (σ : MS) (V : Int → It) (n s : Int) (B : Int → Prop) : Prop := ∀ j, 0 ≤ j → j ≤ n → (σ.2.1 47 j = 1 ↔ RCG V n s B j)
def RSD (σ : MS) (V : Int → It) (n s : Int) (B : Int → Prop) : Prop := ∀ j, 0 ≤ j → j ≤ n → σ.2.1 47 j = 1 → RCG V n s B j
theorem RSD.put {V : Int → It} {s v : Int} {B : Int → Prop} (h : RSD σ V n s B) (hv : RCG V n s B v) : RSD (sA 47 v 1 σ) V n s B := fun j a b e => by
  by_cases z : j = v
  · subst z; exact hv
  · exact h j a b ((ra_ne z rfl).symm.trans e)
def CLG (σ : MS) (r k : Int) (B : Int → Prop) : Prop := ∀ j, 0 ≤ j → j < k → σ.2.1 47 j = 1 → ¬ B j → (¬ (σ.2.1 3 (220 * r + j) = 8 ∨ σ.2.1 3 (220 * r + j) = 7) → σ.2.1 47 (j + 1) = 1) ∧ ((σ.2.1 3 (220 * r + j) = 8 ∨ σ.2.1 3 (220 * r + j) = 9) → σ.2.1 47 (σ.2.1 46 (σ.2.1 4 (220 * r + j))) = 1)
theorem RSD.full {V : Int → It} {s : Int} {B : Int → Prop} (h : RSD σ V n s B) (hV : V = rV σ r) (hn : n = σ.2.1 9 r) (hc : CLG σ r n B) (hs : σ.2.1 47 s = 1) (hd : TGD σ r) (hu : UNQ V n) : RDV σ V n s B := by
  subst hV hn
  exact fun j a b => ⟨h j a b, fun q => q (fun i => σ.2.1 47 i = 1) hs (fun i t x y z w e => by
    rcases (ed_rv hd hu x y).mp e with ⟨e1, e2⟩ | ⟨e1, e2⟩
    · rw [e2]; exact (hc i x y z w).1 e1
    · rw [e2]; exact (hc i x y z w).2 e1)⟩
theorem RSD.go {V : Int → It} {s v : Int} {B : Int → Prop} (h : RSD σ V n s B) (hV : V = rV σ r) (hn : n = σ.2.1 9 r) (hd : TGD σ r) (hu : UNQ V n) (hk : 0 ≤ k ∧ k < n) (h1 : σ.2.1 47 k = 1) (hb : ¬ B k) (hv : (¬ (σ.2.1 3 (220 * r + k) = 8 ∨ σ.2.1 3 (220 * r + k) = 7) ∧ v = k + 1) ∨ ((σ.2.1 3 (220 * r + k) = 8 ∨ σ.2.1 3 (220 * r + k) = 9) ∧ v = σ.2.1 46 (σ.2.1 4 (220 * r + k)))) : RSD (sA 47 v 1 σ) V n s B := by
  subst hV hn
  exact h.put ((h k hk.1 (by omega) h1).s hk.1 hk.2 hb ((ed_rv hd hu hk.1 hk.2).mpr hv))
theorem CLG.of (h : CLO σ r k) : CLG σ r k (fun _ => False) := fun j a b c _ => h j a b c
def LSD (σ : MS) (V : Int → It) (n : Int) : Prop := ∀ k g, 0 ≤ k → k ≤ n → 0 ≤ g → g < 192 → σ.2.1 59 (192 * k + g) = 1 → LVV V n k g
theorem LSD.put {V : Int → It} (h : LSD σ V n) (hk : 0 ≤ k ∧ 0 ≤ g ∧ g < 192) (hv : LVV V n k g) : LSD (sA 59 (192 * k + g) 1 σ) V n := fun j u a b c e q => by
  by_cases z : 192 * j + u = 192 * k + g
  · have e1 : u = g := by omega
    have e2 : j = k := by omega
    rw [e1, e2]; exact hv
  · exact h j u a b c e ((ra_ne z rfl).symm.trans q)
def LDV (σ : MS) (V : Int → It) (n : Int) : Prop := ∀ k g, 0 ≤ k → k ≤ n → 0 ≤ g → g < 192 → (σ.2.1 59 (192 * k + g) = 1 ↔ LVV V n k g)
def LB2 (σ : MS) (r k g : Int) : Prop := (¬ (σ.2.1 3 (220 * r + k) = 8 ∨ σ.2.1 3 (220 * r + k) = 7) ∧ σ.2.1 59 (192 * (k + 1) + g) = 1) ∨ ((σ.2.1 3 (220 * r + k) = 8 ∨ σ.2.1 3 (220 * r + k) = 9) ∧ σ.2.1 59 (192 * σ.2.1 46 (σ.2.1 4 (220 * r + k)) + g) = 1)
def LCN (σ : MS) (r k g : Int) : Prop := (LB2 σ r k g ∧ ¬ wrA σ r g k) ∨ (σ.2.1 3 (220 * r + k) ≠ 12 ∧ LEAN σ (220 * r + k) g)
theorem LSD.lb (h : LSD σ (rV σ r) (σ.2.1 9 r)) (hd : TGD σ r) (hu : UNQ (rV σ r) (σ.2.1 9 r)) (h0 : 0 ≤ k) (h1 : k < σ.2.1 9 r) (hg : 0 ≤ g ∧ g < 192) (q : LB2 σ r k g) (hw : ¬ wrA σ r g k) : LVV (rV σ r) (σ.2.1 9 r) k g := by
  have w : ¬ wrT (rV σ r k) g := by rw [rv_in h0 h1]; exact hw
  rcases q with ⟨q1, q2⟩ | ⟨q1, q2⟩
  · exact LVV.on h0 h1 w ((ed_rv hd hu h0 h1).mpr (Or.inl ⟨q1, rfl⟩)) (h (k + 1) g (by omega) (by omega) hg.1 hg.2 q2)
  · have b := (hd k h0 h1 q1).1
    exact LVV.on h0 h1 w ((ed_rv hd hu h0 h1).mpr (Or.inr ⟨q1, rfl⟩)) (h _ g b.1 (by omega) hg.1 hg.2 q2)
def LCL (σ : MS) (r k n : Int) : Prop := ∀ j, k ≤ j → j < n → ∀ g, 0 ≤ g → g < 192 → LCN σ r j g → σ.2.1 59 (192 * j + g) = 1
theorem LSD.full {F : Int} (h : LSD σ (rV σ r) (σ.2.1 9 r)) (hc : LCL σ r 0 (σ.2.1 9 r)) (hd : TGD σ r) (hu : UNQ (rV σ r) (σ.2.1 9 r)) (ho : OKS σ F r) (hp : PAR σ) : LDV σ (rV σ r) (σ.2.1 9 r) := fun k g a b c e => ⟨h k g a b c e, fun q => by
  have z := q (fun i u => (0 ≤ i ∧ i ≤ σ.2.1 9 r) → 0 ≤ u ∧ u < 192 → σ.2.1 59 (192 * i + u) = 1) (fun i u x y w v v2 => by
    refine hc i x y u v2.1 v2.2 ?_
    rw [rv_in x y] at w
    rcases w with ⟨w1, w2⟩ | ⟨w1, t, w2, w3⟩
    · exact Or.inr ⟨w1, ((ho i x y).lean (nArgs_4 (ho i x y) hp).2).mpr w2⟩
    · refine Or.inl ⟨?_, w1⟩
      rcases (ed_rv hd hu x y).mp w2 with ⟨e1, e2⟩ | ⟨e1, e2⟩
      · exact Or.inl ⟨e1, by rw [← e2]; exact w3 (by omega) v2⟩
      · have b := (hd i x y e1).1
        exact Or.inr ⟨e1, by rw [← e2]; exact w3 (by omega) v2⟩)
  exact z ⟨a, b⟩ ⟨c, e⟩⟩
theorem LSD.go {V : Int → It} {F : Int} (h : LSD σ V n) (hV : V = rV σ r) (hn : n = σ.2.1 9 r) (hd : TGD σ r) (hu : UNQ V n) (hk : 0 ≤ k ∧ k < n) (hg : 0 ≤ g ∧ g < 192) (ho : OKI σ F (220 * r + k)) (hp : PAR σ) (q : LCN σ r k g) : LSD (sA 59 (192 * k + g) 1 σ) V n := by
  subst hV hn
  refine h.put ⟨hk.1, hg⟩ ?_
  rcases q with ⟨q1, q2⟩ | ⟨q1, q2⟩
  · exact h.lb hd hu hk.1 hk.2 hg q1 q2
  · exact LVV.rd hk.1 hk.2 (by rw [rv_in hk.1 hk.2]; exact q1) (by rw [rv_in hk.1 hk.2]; exact (ho.lean (nArgs_4 ho hp).2).mp q2)
theorem LSD.fin {V : Int → It} {F : Int} (h : LSD σ V n) (hV : V = rV σ r) (hn : n = σ.2.1 9 r) (hc : LCL σ r 0 n) (hd : TGD σ r) (hu : UNQ V n) (ho : OKS σ F r) (hp : PAR σ) : LDV σ V n := by
  subst hV hn
  exact LSD.full h hc hd hu ho hp
end FLW
def nrV (V : Int → It) (n k i : Int) : Prop := k < i ∧ i < n ∧ ∀ j, k < j → j ≤ i → V j 0 = 11 ∨ V j 0 = 12
def tkI (x y : It) : It := if x 0 = 0 then uZ (uZ (uZ y 11 (x 3)) 3 (x 3)) 4 (x 4) else uZ (uZ (uZ (uZ (uZ y 11 (x 0 + 2)) 3 (x 3)) 4 (x 4)) 5 (x 5)) 6 (x 6)
def goI (y : It) (w : Int) : It := uZ (uZ (uZ (uZ (uZ y 11 w) 3 0) 4 0) 5 0) 6 0
noncomputable def rbV (V : Int → It) (n k : Int) : Int → It := fun i =>
  dI (nrV V n k i ∧ V i 0 = 12 ∧ V i 11 = 2 ∧ V i 4 = V k 1) (tkI (V k) (V i))
    (dI ((0 ≤ i ∧ i < n) ∧ RCG V n (k + 1) (fun j => wrT (V j) (V k 1)) i ∧ V i 0 = 12 ∧ rdI (V i) (V k 1)) (goI (V i) 12) (V i))
def toV (V : Int → It) (k : Int) : Int → It := fun i => if i < k then V i else V (i + 1)
def dead (V : Int → It) (n k : Int) : Prop := V k 0 ≤ 5 ∧ ¬ LVV V n (k + 1) (V k 1)
def lastD (V : Int → It) (n k : Int) : Prop := 0 ≤ k ∧ k < n ∧ dead V n k ∧ ∀ i, k < i → i < n → ¬ dead V n i
theorem lastD.det {V : Int → It} {n i j : Int} (h : lastD V n i) (g : lastD V n j) : i = j := by
  by_cases a : i < j
  · exact absurd g.2.2.1 (h.2.2.2 j a g.2.1)
  · by_cases b : j < i
    · exact absurd h.2.2.1 (g.2.2.2 i b h.2.1)
    · omega
def DRT : Nat → (Int → It) → Int → (Int → It) → Int → Prop
  | 0, V, n, V', n' => V' = V ∧ n' = n
  | t + 1, V, n, V', n' => ∃ V1 n1 k, DRT t V n V1 n1 ∧ lastD V1 n1 k ∧ V' = toV (rbV V1 n1 k) k ∧ n' = n1 - 1
section DR
variable {V A B : Int → It} {n a b : Int}
theorem DRT.det {t : Nat} (h : DRT t V n A a) (g : DRT t V n B b) : A = B ∧ a = b := by
  induction t generalizing A B a b with
  | zero => exact ⟨h.1.trans g.1.symm, h.2.trans g.2.symm⟩
  | succ t ih =>
    obtain ⟨C, c, k, h1, h2, h3, h4⟩ := h
    obtain ⟨D, d, l, g1, g2, g3, g4⟩ := g
    obtain ⟨e1, e2⟩ := ih h1 g1
    subst e1 e2
    have e3 := h2.det g2
    subst e3
    exact ⟨h3.trans g3.symm, h4.trans g4.symm⟩
theorem DRT.cut {s t : Nat} (h : DRT s V n A a) (g : t < s) : ∃ C c k, DRT t V n C c ∧ lastD C c k := by
  induction s generalizing A a with
  | zero => omega
  | succ s ih =>
    obtain ⟨C, c, k, h1, h2, h3, h4⟩ := h
    by_cases e : t = s
    · subst e; exact ⟨C, c, k, h1, h2⟩
    · exact ih h1 (by omega)
theorem DRT.end {s t : Nat} (h : DRT s V n A a) (hn : ∀ k, ¬ lastD A a k) (g : DRT t V n B b) (gn : ∀ k, ¬ lastD B b k) : s = t ∧ A = B ∧ a = b := by
  have e : s = t := by
    by_cases x : s < t
    · obtain ⟨C, c, k, h1, h2⟩ := g.cut x
      obtain ⟨e1, e2⟩ := h.det h1
      subst e1 e2
      exact absurd h2 (hn k)
    · by_cases y : t < s
      · obtain ⟨C, c, k, h1, h2⟩ := h.cut y
        obtain ⟨e1, e2⟩ := g.det h1
        subst e1 e2
        exact absurd h2 (gn k)
      · omega
  subst e
  exact ⟨rfl, h.det g⟩
end DR
noncomputable def dr1 (V : Int → It) (n : Int) : Nat → Int × Int × (Int → It)
  | 0 => (0, 0, fun _ => zI)
  | k + 1 => dI (RCG V n 0 (fun _ => False) k) ((dr1 V n k).1 + 1, (dr1 V n k).2.1, uZ (dr1 V n k).2.2 (dr1 V n k).1 (V k)) ((dr1 V n k).1, (dr1 V n k).2.1 + (if V k 0 ≤ 10 then 1 else 0), (dr1 V n k).2.2)
def DRX (V : Int → It) (n : Int) (V' : Int → It) (n' w : Int) : Prop := ∃ t : Nat, DRT t (dr1 V n n.toNat).2.2 (dr1 V n n.toNat).1 V' n' ∧ (∀ k, ¬ lastD V' n' k) ∧ w = (dr1 V n n.toNat).2.1 + t
theorem DRX.det {V A B : Int → It} {n a b u v : Int} (h : DRX V n A a u) (g : DRX V n B b v) : A = B ∧ a = b ∧ u = v := by
  obtain ⟨s, h1, h2, h3⟩ := h
  obtain ⟨t, g1, g2, g3⟩ := g
  obtain ⟨e1, e2, e3⟩ := h1.end h2 g1 g2
  subst e1
  exact ⟨e2, e3, h3.trans g3.symm⟩
end
section
set_option maxHeartbeats 1000000 in
set_option maxRecDepth 20000 in
theorem f_rch4 (d : Nat) {b : Nat} {σ0 : MS} {r : Int} {m : Int} {k : Int} {C0 : Int} {V : Int → It} {post : Option Value → MS → Prop} (hr : 0 ≤ r ∧ r < 6) (hR0 : RG σ0) (hit : ITM σ0) (hjm : JMP σ0 r) (htg : TGT σ0 r) (hm : m = σ0.2.1 9 r) (htd : TGD σ0 r) (hV : V = rV σ0 r) (hu : UNQ V m) (hk : 0 ≤ k ∧ k < m) (hx_112 : ∀ (w : Int) (i : Int) (σ : MS) , (Fr [] [47] [] σ0 σ) → (RG σ) → (w = 0 ∨ w = 1) → (BO 47 σ) → (σ.2.1 47 0 = 1) → (MNR σ r m) → ((cz (σ.2.1 47) 221 : Int) + w ≤ C0) → (w = 0 → CLO σ r (k + 1)) → (RSD σ V m 0 (fun _ => False)) → Tm (d + 3) m_X12_findReached 112 b σ [(4, .int (iI i)), (3, .int (iI k)), (2, .int (iI w)), (0, .ref b), (1, .int (iI r))] [] post) : ∀ (n : Nat) (w : Int) (i : Int) (σ : MS) , (Fr [] [47] [] σ0 σ) → (RG σ) → ((w = 0 ∨ w = 1) ∧ 0 ≤ i ∧ i ≤ 2) → (BO 47 σ) → (σ.2.1 47 0 = 1) → (MNR σ r m) → ((cz (σ.2.1 47) 221 : Int) + w ≤ C0) → (w = 0 → CLO σ r k) → (w = 0 → 1 ≤ i → σ.2.1 47 k = 1 → ¬ (σ.2.1 3 (220 * r + k) = 8 ∨ σ.2.1 3 (220 * r + k) = 7) → σ.2.1 47 (k + 1) = 1) → (w = 0 → 2 ≤ i → σ.2.1 47 k = 1 → (σ.2.1 3 (220 * r + k) = 8 ∨ σ.2.1 3 (220 * r + k) = 9) → σ.2.1 47 (σ.2.1 46 (σ.2.1 4 (220 * r + k))) = 1) → (RSD σ V m 0 (fun _ => False)) → (2 - i).toNat = n → Tm (d + 3) m_X12_findReached 55 b σ [(4, .int (iI i)), (3, .int (iI k)), (2, .int (iI w)), (0, .ref b), (1, .int (iI r))] [] post := by
  intro n
  induction n using Nat.strongRecOn with
  | _ n ih =>
    intro w i σ hF hR h0 hbo hz hmn hcn hcl hp0 hp1 hsd hm
    have hit1 := hit.fr hF (by decide)
    have hjm1 := hjm.fr hF (by decide)
    have htg1 := htg.fr hF (by decide)
    have q1 := hit r (by omega) (by omega)
    have q9 : σ.2.1 9 r = σ0.2.1 9 r := by rw [hF.2.1 9 (by decide)]
    have e3 : σ.2.1 3 = σ0.2.1 3 := hF.2.1 3 (by decide)
    have e4 : σ.2.1 4 = σ0.2.1 4 := hF.2.1 4 (by decide)
    have e46 : σ.2.1 46 = σ0.2.1 46 := hF.2.1 46 (by decide)
    have hV1 : V = rV σ r := hV.trans (rv_fr hF (by decide)).symm
    have htd1 := htd.fr hF (by decide)
    have q5 := htg1 k (by omega) (by omega)
    have q3 := congrFun e3 (220 * r + k)
    refine tm_iload dX12_findReached_55 0 rfl ?_
    refine tm_iconst dX12_findReached_57 ?_
    refine tm_icmp_ge (tgt := 112) dX12_findReached_58 (by decide) ⟨by omega, by omega⟩ ⟨by decide, by decide⟩ (fun h1 => ?_) (fun h1 => ?_)
    · exact tm_sub [0, 1, 2, 3, 4] rfl (hx_112 (w) (i) σ (Fr.rfl.trans (Fr.sub hF (by decide) (by decide) (by decide))) hR (by omega) hbo hz hmn hcn (fun e j a c g => by
          by_cases z : j = k
          · subst z; exact ⟨fun q => hp0 e (by omega) g q, fun q => hp1 e (by omega) g q⟩
          · exact hcl e j a (by omega) g) hsd)
    · refine tm_aload_n dX12_findReached_61 rfl 3 rfl ?_
      refine tm_get (k := 47) (v := .ref (b + 1 + 25)) lay_12 dX12_findReached_62 (by decide) fl12_91 rfl ?_
      refine tm_iload_n dX12_findReached_65 rfl 1 rfl ?_
      refine tm_zald (z := k) (v := σ.2.1 47 k) dX12_findReached_66 (show mT[25]? = some (47, 2, 221) from rfl) (by omega) (by omega) (by decide) (rfl) ?_
      have g2 := RG.a hR 47 (k)
      have := hbo (k)
      refine tm_if_eq (tgt := 112) dX12_findReached_67 (by decide) ⟨by omega, by omega⟩ (fun h3 => ?_) (fun h3 => ?_)
      · exact tm_sub [0, 1, 2, 3, 4] rfl (hx_112 (w) (i) σ (Fr.rfl.trans (Fr.sub hF (by decide) (by decide) (by decide))) hR (by omega) hbo hz hmn hcn (fun e j a c g => by
          by_cases z : j = k
          · subst z; exact ⟨fun q => hp0 e (by omega) g q, fun q => hp1 e (by omega) g q⟩
          · exact hcl e j a (by omega) g) hsd)
      · refine tm_aload_n dX12_findReached_70 rfl 3 rfl ?_
        refine tm_iload_n dX12_findReached_71 rfl 4 rfl ?_
        refine tm_iload_n dX12_findReached_72 rfl 1 rfl ?_
        refine tm_iload dX12_findReached_73 0 rfl ?_
        refine tm_callV (M := m_X12_findReached) (pc := 75) (ix := 413) (M' := m_X12_goesOn) (As := [.int (iI r), .int (iI k), .int (iI i)]) (rest := []) dX12_findReached_75 ok_X12_goesOn im_X12_goesOn se_X12_goesOn ml12_413 np_X12_goesOn rfl rfl (Nat.le_of_ble_eq_true rfl) (Nat.le_of_ble_eq_true rfl) rfl (c_X12_goesOn (d) (σ := σ) (r := r) (k := k) (how := i) (by omega) hR (by omega) (fun q => hjm1 _ (by omega) (by omega) (by omega)) (by omega)) (fun r4 σ5 hp => ?_)
        obtain ⟨v6, rfl, rfl, f7, f8, f9, f10⟩ := hp
        show Tm _ _ 78 b σ [(4, .int (iI i)), (3, .int (iI k)), (2, .int (iI w)), (0, .ref b), (1, .int (iI r))] [.int (iI v6)] _
        refine tm_istore (L' := [(5, .int (iI v6)), (4, .int (iI i)), (3, .int (iI k)), (2, .int (iI w)), (0, .ref b), (1, .int (iI r))]) dX12_findReached_78 (by decide) rfl ?_
        refine tm_iload dX12_findReached_80 0 rfl ?_
        refine tm_iconst dX12_findReached_82 ?_
        refine tm_icmp_eq (tgt := 106) dX12_findReached_83 (by decide) ⟨by omega, by omega⟩ ⟨by decide, by decide⟩ (fun h11 => ?_) (fun h11 => ?_)
        · refine tm_iinc (q0 := 1) (L' := [(4, .int (iI (i + 1))), (5, .int (iI v6)), (3, .int (iI k)), (2, .int (iI w)), (0, .ref b), (1, .int (iI r))]) dX12_findReached_106 rfl (by decide) rfl ?_
          refine tm_goto (tgt := 55) dX12_findReached_109 (by decide) ?_
          exact tm_sub [0, 2, 3, 4, 5] rfl (ih _ (by omega) (w) (i + 1) σ (Fr.rfl.trans (Fr.sub hF (by decide) (by decide) (by decide))) hR (by omega) hbo hz hmn (by omega) hcl (fun e a g q => by
            by_cases z : i = 0
            · have hv : v6 = k + 1 := by omega
              rw [← hv]; omega
            · exact hp0 e (by omega) g q) (fun e a g q => by
            have hv : v6 = σ.2.1 46 (σ.2.1 4 (220 * r + k)) := by omega
            have := q5 q
            rw [← hv]; omega) hsd rfl)
        · refine tm_aload_n dX12_findReached_86 rfl 4 rfl ?_
          refine tm_get (k := 47) (v := .ref (b + 1 + 25)) lay_12 dX12_findReached_87 (by decide) fl12_91 rfl ?_
          refine tm_iload dX12_findReached_90 0 rfl ?_
          refine tm_zald (z := v6) (v := σ.2.1 47 v6) dX12_findReached_92 (show mT[25]? = some (47, 2, 221) from rfl) (by omega) (by omega) (by decide) (rfl) ?_
          have g12 := RG.a hR 47 (v6)
          have := hbo (v6)
          refine tm_if_ne (tgt := 106) dX12_findReached_93 (by decide) ⟨by omega, by omega⟩ (fun h13 => ?_) (fun h13 => ?_)
          · refine tm_iinc (q0 := 1) (L' := [(4, .int (iI (i + 1))), (5, .int (iI v6)), (3, .int (iI k)), (2, .int (iI w)), (0, .ref b), (1, .int (iI r))]) dX12_findReached_106 rfl (by decide) rfl ?_
            refine tm_goto (tgt := 55) dX12_findReached_109 (by decide) ?_
            exact tm_sub [0, 2, 3, 4, 5] rfl (ih _ (by omega) (w) (i + 1) σ (Fr.rfl.trans (Fr.sub hF (by decide) (by decide) (by decide))) hR (by omega) hbo hz hmn (by omega) hcl (fun e a g q => by
            by_cases z : i = 0
            · have hv : v6 = k + 1 := by omega
              rw [← hv]; omega
            · exact hp0 e (by omega) g q) (fun e a g q => by
            have hv : v6 = σ.2.1 46 (σ.2.1 4 (220 * r + k)) := by omega
            have := q5 q
            rw [← hv]; omega) hsd rfl)
          · refine tm_aload_n dX12_findReached_96 rfl 4 rfl ?_
            refine tm_get (k := 47) (v := .ref (b + 1 + 25)) lay_12 dX12_findReached_97 (by decide) fl12_91 rfl ?_
            refine tm_iload dX12_findReached_100 0 rfl ?_
            refine tm_iconst dX12_findReached_102 ?_
            refine tm_zast (z := v6) (v := 1) dX12_findReached_103 (show mT[25]? = some (47, 2, 221) from rfl) (by omega) (by omega) (by decide) (by omega) ?_
            refine tm_iconst dX12_findReached_104 ?_
            refine tm_istore_n (L' := [(2, .int (iI 1)), (5, .int (iI v6)), (4, .int (iI i)), (3, .int (iI k)), (0, .ref b), (1, .int (iI r))]) dX12_findReached_105 rfl (by decide) rfl ?_
            refine tm_iinc (q0 := 2) (L' := [(4, .int (iI (i + 1))), (2, .int (iI 1)), (5, .int (iI v6)), (3, .int (iI k)), (0, .ref b), (1, .int (iI r))]) dX12_findReached_106 rfl (by decide) rfl ?_
            refine tm_goto (tgt := 55) dX12_findReached_109 (by decide) ?_
            exact tm_sub [0, 3, 1, 4, 5] rfl (ih _ (by omega) (1) (i + 1) (sA 47 (v6) (1) σ) ((Fr.rfl.trans (Fr.sub hF (by decide) (by decide) (by decide))).A (by decide)) (hR.A (by omega)) (by omega) (hbo.A (by omega)) (by
            by_cases z : (0 : Int) = v6
            · rw [z]; exact ra_eq
            · exact ra_ne z hz) (hmn.put (by
            by_cases z : i = 1
            · left; have hv : v6 = σ.2.1 46 (σ.2.1 4 (220 * r + k)) := by omega
              rw [hv]; have := q5 (by omega); exact ⟨by omega, this.2.2⟩
            · right; have hv : v6 = k + 1 := by omega
              rw [hv, show k + 1 - 1 = k by omega]; exact ⟨by omega, by omega⟩)) (by have hcz := cz_sA (σ := σ) (k := 47) (n := 221) (z := v6) (v := 1) (by omega) (by omega) (by omega) (by decide); omega) (fun e => absurd e (by decide)) (fun e => absurd e (by decide)) (fun e => absurd e (by decide)) (hsd.go hV1 (by omega) htd1 hu (by omega) (by omega) (fun z => z) (by omega)) rfl)
set_option maxHeartbeats 1000000 in
set_option maxRecDepth 20000 in
theorem f_rch3 (d : Nat) {b : Nat} {σ0 : MS} {r : Int} {m : Int} {C0 : Int} {V : Int → It} {post : Option Value → MS → Prop} (hr : 0 ≤ r ∧ r < 6) (hR0 : RG σ0) (hit : ITM σ0) (hjm : JMP σ0 r) (htg : TGT σ0 r) (hm : m = σ0.2.1 9 r) (htd : TGD σ0 r) (hV : V = rV σ0 r) (hu : UNQ V m) (hx_118 : ∀ (w : Int) (k : Int) (σ : MS) , (Fr [] [47] [] σ0 σ) → (RG σ) → (w = 0 ∨ w = 1) → (BO 47 σ) → (σ.2.1 47 0 = 1) → (MNR σ r m) → ((cz (σ.2.1 47) 221 : Int) + w ≤ C0) → (w = 0 → CLO σ r m) → (RSD σ V m 0 (fun _ => False)) → Tm (d + 3) m_X12_findReached 118 b σ [(3, .int (iI k)), (2, .int (iI w)), (0, .ref b), (1, .int (iI r))] [] post) : ∀ (n : Nat) (w : Int) (k : Int) (σ : MS) , (Fr [] [47] [] σ0 σ) → (RG σ) → ((w = 0 ∨ w = 1) ∧ 0 ≤ k ∧ k ≤ m) → (BO 47 σ) → (σ.2.1 47 0 = 1) → (MNR σ r m) → ((cz (σ.2.1 47) 221 : Int) + w ≤ C0) → (w = 0 → CLO σ r k) → (RSD σ V m 0 (fun _ => False)) → (m - k).toNat = n → Tm (d + 3) m_X12_findReached 42 b σ [(3, .int (iI k)), (2, .int (iI w)), (0, .ref b), (1, .int (iI r))] [] post := by
  intro n
  induction n using Nat.strongRecOn with
  | _ n ih =>
    intro w k σ hF hR h0 hbo hz hmn hcn hcl hsd hm
    have hit1 := hit.fr hF (by decide)
    have hjm1 := hjm.fr hF (by decide)
    have htg1 := htg.fr hF (by decide)
    have q1 := hit r (by omega) (by omega)
    have q9 : σ.2.1 9 r = σ0.2.1 9 r := by rw [hF.2.1 9 (by decide)]
    have e3 : σ.2.1 3 = σ0.2.1 3 := hF.2.1 3 (by decide)
    have e4 : σ.2.1 4 = σ0.2.1 4 := hF.2.1 4 (by decide)
    have e46 : σ.2.1 46 = σ0.2.1 46 := hF.2.1 46 (by decide)
    have hV1 : V = rV σ r := hV.trans (rv_fr hF (by decide)).symm
    have htd1 := htd.fr hF (by decide)
    refine tm_iload_n dX12_findReached_42 rfl 0 rfl ?_
    refine tm_aload_n dX12_findReached_43 rfl 2 rfl ?_
    refine tm_get (k := 9) (v := .ref (b + 1 + 7)) lay_12 dX12_findReached_44 (by decide) fl12_32 rfl ?_
    refine tm_iload_n dX12_findReached_47 rfl 3 rfl ?_
    refine tm_iald (z := r) (v := σ0.2.1 9 r) dX12_findReached_48 (show mT[7]? = some (9, 0, 13) from rfl) (by omega) (by omega) (by decide) (ra_F hF (by decide) (rfl)) ?_
    have g1 := RG.a hR0 9 (r)
    refine tm_icmp_ge (tgt := 118) dX12_findReached_49 (by decide) ⟨by omega, by omega⟩ ⟨by omega, by omega⟩ (fun h2 => ?_) (fun h2 => ?_)
    · exact tm_sub [0, 1, 2, 3] rfl (hx_118 (w) (k) σ (Fr.rfl.trans (Fr.sub hF (by decide) (by decide) (by decide))) hR (by omega) hbo hz hmn hcn (fun e j a c => hcl e j a (by omega)) hsd)
    · refine tm_iconst dX12_findReached_52 ?_
      refine tm_istore (L' := [(4, .int (iI 0)), (3, .int (iI k)), (2, .int (iI w)), (0, .ref b), (1, .int (iI r))]) dX12_findReached_53 (by decide) rfl ?_
      refine tm_sub [0, 1, 2, 3, 4] rfl (f_rch4 (d) (σ0 := σ) (r := r) (k := k) (m := m) (C0 := C0) (V := V) hr hR hit1 hjm1 htg1 (by omega) htd1 hV1 hu (by omega) (fun w15 i16 σ17 F6 R7 f8 f9 f10 f11 f12 f13 f14 => ?_) _ (w) (0) σ Fr.rfl hR (by omega) hbo hz hmn (by omega) hcl (fun e a => by omega) (fun e a => by omega) hsd rfl)
      show Tm _ _ 112 b σ17 [(4, .int (iI i16)), (3, .int (iI k)), (2, .int (iI w15)), (0, .ref b), (1, .int (iI r))] [] _
      refine tm_iinc (q0 := 1) (L' := [(3, .int (iI (k + 1))), (4, .int (iI i16)), (2, .int (iI w15)), (0, .ref b), (1, .int (iI r))]) dX12_findReached_112 rfl (by decide) rfl ?_
      refine tm_goto (tgt := 42) dX12_findReached_115 (by decide) ?_
      exact tm_sub [0, 2, 3, 4] rfl (ih _ (by omega) (w15) (k + 1) σ17 ((Fr.rfl.trans (Fr.sub hF (by decide) (by decide) (by decide))).trans (Fr.sub F6 (by decide) (by decide) (by decide))) R7 (by omega) (by assumption) (by assumption) (by assumption) (by omega) (by assumption) (by assumption) rfl)
set_option maxHeartbeats 1000000 in
set_option maxRecDepth 20000 in
theorem f_rch2 (d : Nat) {b : Nat} {σ0 : MS} {r : Int} {m : Int} {V : Int → It} {post : Option Value → MS → Prop} (hr : 0 ≤ r ∧ r < 6) (hR0 : RG σ0) (hit : ITM σ0) (hjm : JMP σ0 r) (htg : TGT σ0 r) (hm : m = σ0.2.1 9 r) (htd : TGD σ0 r) (hV : V = rV σ0 r) (hu : UNQ V m) (hx_121 : ∀ (w : Int) (σ : MS) , (Fr [] [47] [] σ0 σ) → (RG σ) → (BO 47 σ) → (σ.2.1 47 0 = 1) → (MNR σ r m) → (CLO σ r m) → (RSD σ V m 0 (fun _ => False)) → Tm (d + 3) m_X12_findReached 121 b σ [(2, .int (iI w)), (0, .ref b), (1, .int (iI r))] [] post) : ∀ (n : Nat) (w : Int) (σ : MS) , (Fr [] [47] [] σ0 σ) → (RG σ) → (w = 0 ∨ w = 1) → (BO 47 σ) → (σ.2.1 47 0 = 1) → (MNR σ r m) → (w = 0 → CLO σ r m) → (RSD σ V m 0 (fun _ => False)) → ((cz (σ.2.1 47) 221 : Int) + w).toNat = n → Tm (d + 3) m_X12_findReached 34 b σ [(2, .int (iI w)), (0, .ref b), (1, .int (iI r))] [] post := by
  intro n
  induction n using Nat.strongRecOn with
  | _ n ih =>
    intro w σ hF hR h0 hbo hz hmn hcl hsd hm
    have hit1 := hit.fr hF (by decide)
    have hjm1 := hjm.fr hF (by decide)
    have htg1 := htg.fr hF (by decide)
    have q1 := hit r (by omega) (by omega)
    have q9 : σ.2.1 9 r = σ0.2.1 9 r := by rw [hF.2.1 9 (by decide)]
    have e3 : σ.2.1 3 = σ0.2.1 3 := hF.2.1 3 (by decide)
    have e4 : σ.2.1 4 = σ0.2.1 4 := hF.2.1 4 (by decide)
    have e46 : σ.2.1 46 = σ0.2.1 46 := hF.2.1 46 (by decide)
    have hV1 : V = rV σ r := hV.trans (rv_fr hF (by decide)).symm
    have htd1 := htd.fr hF (by decide)
    refine tm_iload_n dX12_findReached_34 rfl 0 rfl ?_
    refine tm_if_eq (tgt := 121) dX12_findReached_35 (by decide) ⟨by omega, by omega⟩ (fun h1 => ?_) (fun h1 => ?_)
    · exact tm_sub [0, 1, 2] rfl (hx_121 (w) σ (Fr.rfl.trans (Fr.sub hF (by decide) (by decide) (by decide))) hR hbo hz hmn (hcl (by omega)) hsd)
    · refine tm_iconst dX12_findReached_38 ?_
      refine tm_istore_n (L' := [(2, .int (iI 0)), (0, .ref b), (1, .int (iI r))]) dX12_findReached_39 rfl (by decide) rfl ?_
      refine tm_iconst dX12_findReached_40 ?_
      refine tm_istore_n (L' := [(3, .int (iI 0)), (2, .int (iI 0)), (0, .ref b), (1, .int (iI r))]) dX12_findReached_41 rfl (by decide) rfl ?_
      refine tm_sub [0, 1, 2, 3] rfl (f_rch3 (d) (σ0 := σ) (r := r) (m := m) (C0 := (cz (σ.2.1 47) 221 : Int)) (V := V) hr hR hit1 hjm1 htg1 (by omega) htd1 hV1 hu (fun w14 k15 σ16 F5 R6 f7 f8 f9 f10 f11 f12 f13 => ?_) _ (0) (0) σ Fr.rfl hR (by omega) hbo hz hmn (by omega) (fun e j a c => by omega) hsd rfl)
      show Tm _ _ 118 b σ16 [(3, .int (iI k15)), (2, .int (iI w14)), (0, .ref b), (1, .int (iI r))] [] _
      refine tm_goto (tgt := 34) dX12_findReached_118 (by decide) ?_
      exact tm_sub [1, 2, 3] rfl (ih _ (by omega) (w14) σ16 ((Fr.rfl.trans (Fr.sub hF (by decide) (by decide) (by decide))).trans (Fr.sub F5 (by decide) (by decide) (by decide))) R6 (by omega) (by assumption) (by assumption) (by assumption) (by assumption) (by assumption) rfl)
set_option maxHeartbeats 1000000 in
set_option maxRecDepth 20000 in
theorem f_X12_findReached (d : Nat) {b : Nat} {σ : MS} {r : Int} (hr : 0 ≤ r ∧ r < 6) (hR : RG σ) (hit : ITM σ) (hjm : JMP σ r) (htd : TGD σ r) (hbo : BO 47 σ) (hu : UNQ (rV σ r) (σ.2.1 9 r)) : Tm (d + 3) m_X12_findReached 0 b σ [(0, .ref b), (1, .int (iI r))] [] (fun ro σ2 => ro = none ∧ (Fr [] [47] [] σ σ2) ∧ (RG σ2) ∧ (BO 47 σ2) ∧ (σ2.2.1 47 0 = 1) ∧ (MNR σ2 r (σ.2.1 9 r)) ∧ (CLO σ2 r (σ.2.1 9 r)) ∧ (RDV σ2 (rV σ r) (σ.2.1 9 r) 0 (fun _ => False))) := by
  have q1 := hit r (by omega) (by omega)
  refine tm_iconst dX12_findReached_0 ?_
  refine tm_istore_n (L' := [(2, .int (iI 0)), (0, .ref b), (1, .int (iI r))]) dX12_findReached_1 rfl (by decide) rfl ?_
  refine tm_sub [0, 1, 2] rfl (l_rch1 (d + 2) (σ0 := σ) (r := r) (by omega) hR q1 (fun k7 σ8 F3 R4 f5 f6 => ?_) _ (0) σ Fr.rfl hR (by omega) hbo (fun j a c => by omega) rfl)
  show Tm _ _ 25 b σ8 [(2, .int (iI k7)), (0, .ref b), (1, .int (iI r))] [] _
  have hb1 := f5
  have hj1 := f6
  refine tm_aload_n dX12_findReached_25 rfl 1 rfl ?_
  refine tm_get (k := 47) (v := .ref (b + 1 + 25)) lay_12 dX12_findReached_26 (by decide) fl12_91 rfl ?_
  refine tm_iconst dX12_findReached_29 ?_
  refine tm_iconst dX12_findReached_30 ?_
  refine tm_zast (z := 0) (v := 1) dX12_findReached_31 (show mT[25]? = some (47, 2, 221) from rfl) (by omega) (by omega) (by decide) (by omega) ?_
  refine tm_iconst dX12_findReached_32 ?_
  refine tm_istore_n (L' := [(2, .int (iI 1)), (0, .ref b), (1, .int (iI r))]) dX12_findReached_33 rfl (by decide) rfl ?_
  refine tm_sub [0, 1, 2] rfl (f_rch2 (d) (σ0 := (sA 47 (0) (1) σ8)) (r := r) (m := σ.2.1 9 r) (V := (rV σ r)) hr (R4.A (by omega)) (hit.fr (show Fr [] [47] [] σ (sA 47 (0) (1) σ8) from ((Fr.rfl.trans (Fr.sub F3 (by decide) (by decide) (by decide))).A (by decide))) (by decide)) (hjm.fr (show Fr [] [47] [] σ (sA 47 (0) (1) σ8) from ((Fr.rfl.trans (Fr.sub F3 (by decide) (by decide) (by decide))).A (by decide))) (by decide)) (htd.tgt.fr (show Fr [] [47] [] σ (sA 47 (0) (1) σ8) from ((Fr.rfl.trans (Fr.sub F3 (by decide) (by decide) (by decide))).A (by decide))) (by decide)) (by rw [((show Fr [] [47] [] σ (sA 47 (0) (1) σ8) from ((Fr.rfl.trans (Fr.sub F3 (by decide) (by decide) (by decide))).A (by decide)))).2.1 9 (by decide)]) (htd.fr (show Fr [] [47] [] σ (sA 47 (0) (1) σ8) from ((Fr.rfl.trans (Fr.sub F3 (by decide) (by decide) (by decide))).A (by decide))) (by decide)) (rv_fr (show Fr [] [47] [] σ (sA 47 (0) (1) σ8) from ((Fr.rfl.trans (Fr.sub F3 (by decide) (by decide) (by decide))).A (by decide))) (by decide)).symm hu (fun w18 σ19 F11 R12 f13 f14 f15 f16 f17 => ?_) _ (1) (sA 47 (0) (1) σ8) Fr.rfl (R4.A (by omega)) (by omega) (hb1.A (by omega)) ra_eq (fun k a c e => by rw [show _ = (0 : Int) from (ra_ne (by omega) (hj1 k (by omega) c))] at e; omega) (fun e => absurd e (by decide)) (fun k a c e => by
    by_cases z : k = 0
    · rw [z]; exact RCG.z
    · rw [show _ = (0 : Int) from (ra_ne z (hj1 k (by omega) c))] at e; omega) rfl)
  show Tm _ _ 121 b σ19 [(2, .int (iI w18)), (0, .ref b), (1, .int (iI r))] [] _
  exact tm_vret rfl dX12_findReached_121 (⟨rfl, (((Fr.rfl.trans (Fr.sub F3 (by decide) (by decide) (by decide))).A (by decide)).trans (Fr.sub F11 (by decide) (by decide) (by decide))), R12, f13, f14, f15, f16, RSD.full f17 (rv_fr (show Fr [] [47] [] σ σ19 from (((Fr.rfl.trans (Fr.sub F3 (by decide) (by decide) (by decide))).A (by decide)).trans (Fr.sub F11 (by decide) (by decide) (by decide)))) (by decide)).symm (by rw [((show Fr [] [47] [] σ σ19 from (((Fr.rfl.trans (Fr.sub F3 (by decide) (by decide) (by decide))).A (by decide)).trans (Fr.sub F11 (by decide) (by decide) (by decide))))).2.1 9 (by decide)]) (CLG.of f16) f14 (htd.fr (show Fr [] [47] [] σ σ19 from (((Fr.rfl.trans (Fr.sub F3 (by decide) (by decide) (by decide))).A (by decide)).trans (Fr.sub F11 (by decide) (by decide) (by decide)))) (by decide)) hu⟩)
end
section
set_option maxHeartbeats 1000000 in
set_option maxRecDepth 20000 in
theorem f_X12_livesBehind (d : Nat) {b : Nat} {σ : MS} {r : Int} {k : Int} {g : Int} (hr : 0 ≤ r ∧ r < 12) (hR : RG σ) (hit : ITM σ) (hjm : JMP σ r) (hbl : BO 59 σ) (hl : LAB σ) (hg : 0 ≤ g ∧ g < 192) (hk : 0 ≤ k ∧ k < σ.2.1 9 r) : Tm (d + 3) m_X12_livesBehind 0 b σ [(0, .ref b), (1, .int (iI r)), (2, .int (iI k)), (3, .int (iI g))] [] (fun ro σ2 => ∃ v : Int, ro = some (.int (iI v)) ∧ σ = σ2 ∧ ((v = 0 ∨ v = 1)) ∧ ((v = 1 ↔ LB2 σ r k g))) := by
  have q1 := hit r (by omega) (by omega)
  have q2 := hl (σ.2.1 4 (220 * r + k))
  refine tm_aload_n dX12_livesBehind_0 rfl 0 rfl ?_
  refine tm_iload_n dX12_livesBehind_1 rfl 1 rfl ?_
  refine tm_iload_n dX12_livesBehind_2 rfl 2 rfl ?_
  refine tm_iconst dX12_livesBehind_3 ?_
  refine tm_callV (M := m_X12_livesBehind) (pc := 4) (ix := 413) (M' := m_X12_goesOn) (As := [.int (iI r), .int (iI k), .int (iI 0)]) (rest := []) dX12_livesBehind_4 ok_X12_goesOn im_X12_goesOn se_X12_goesOn ml12_413 np_X12_goesOn rfl rfl (Nat.le_of_ble_eq_true rfl) (Nat.le_of_ble_eq_true rfl) rfl (c_X12_goesOn (d) (σ := σ) (r := r) (k := k) (how := 0) (by omega) hR (by omega) (fun q => hjm _ (by omega) (by omega) (by omega)) (by omega)) (fun r1 σ2 hp => ?_)
  obtain ⟨v3, rfl, rfl, f4, f5, f6, f7⟩ := hp
  show Tm _ _ 7 b σ [(0, .ref b), (1, .int (iI r)), (2, .int (iI k)), (3, .int (iI g))] [.int (iI v3)] _
  refine tm_istore (L' := [(4, .int (iI v3)), (0, .ref b), (1, .int (iI r)), (2, .int (iI k)), (3, .int (iI g))]) dX12_livesBehind_7 (by decide) rfl ?_
  refine tm_aload_n dX12_livesBehind_9 rfl 1 rfl ?_
  refine tm_iload_n dX12_livesBehind_10 rfl 2 rfl ?_
  refine tm_iload_n dX12_livesBehind_11 rfl 3 rfl ?_
  refine tm_iconst dX12_livesBehind_12 ?_
  refine tm_callV (M := m_X12_livesBehind) (pc := 13) (ix := 413) (M' := m_X12_goesOn) (As := [.int (iI r), .int (iI k), .int (iI 1)]) (rest := []) dX12_livesBehind_13 ok_X12_goesOn im_X12_goesOn se_X12_goesOn ml12_413 np_X12_goesOn rfl rfl (Nat.le_of_ble_eq_true rfl) (Nat.le_of_ble_eq_true rfl) rfl (c_X12_goesOn (d) (σ := σ) (r := r) (k := k) (how := 1) (by omega) hR (by omega) (fun q => hjm _ (by omega) (by omega) (by omega)) (by omega)) (fun r8 σ9 hp => ?_)
  obtain ⟨v10, rfl, rfl, f11, f12, f13, f14⟩ := hp
  show Tm _ _ 16 b σ [(4, .int (iI v3)), (0, .ref b), (1, .int (iI r)), (2, .int (iI k)), (3, .int (iI g))] [.int (iI v10)] _
  refine tm_istore (L' := [(5, .int (iI v10)), (4, .int (iI v3)), (0, .ref b), (1, .int (iI r)), (2, .int (iI k)), (3, .int (iI g))]) dX12_livesBehind_16 (by decide) rfl ?_
  refine tm_iload dX12_livesBehind_18 1 rfl ?_
  refine tm_iconst dX12_livesBehind_20 ?_
  refine tm_icmp_eq (tgt := 40) dX12_livesBehind_21 (by decide) ⟨by omega, by omega⟩ ⟨by decide, by decide⟩ (fun h15 => ?_) (fun h15 => ?_)
  · refine tm_iload dX12_livesBehind_40 0 rfl ?_
    refine tm_iconst dX12_livesBehind_42 ?_
    refine tm_icmp_eq (tgt := 66) dX12_livesBehind_43 (by decide) ⟨by omega, by omega⟩ ⟨by decide, by decide⟩ (fun h16 => ?_) (fun h16 => ?_)
    · refine tm_iconst dX12_livesBehind_66 ?_
      exact tm_zret (v := 0) rfl (by decide) dX12_livesBehind_67 (⟨_, rfl, rfl, by omega, fun q => absurd q (by decide), fun q => by
      rcases q with ⟨q1, q2⟩ | ⟨q1, q2⟩
      · have e1 : v3 = k + 1 := by omega
        rw [← e1] at q2
        omega
      · have e2 : v10 = σ.2.1 46 (σ.2.1 4 (220 * r + k)) := by omega
        rw [← e2] at q2
        omega⟩)
    · refine tm_aload_n dX12_livesBehind_46 rfl 2 rfl ?_
      refine tm_get (k := 59) (v := .ref (b + 1 + 37)) lay_12 dX12_livesBehind_47 (by decide) fl12_130 rfl ?_
      refine tm_sipush dX12_livesBehind_50 (by decide) ?_
      refine tm_iload dX12_livesBehind_53 0 rfl ?_
      refine tm_imul dX12_livesBehind_55 ?_
      refine tm_iload_n dX12_livesBehind_56 rfl 5 rfl ?_
      refine tm_iadd dX12_livesBehind_57 ?_
      refine tm_zald (z := (192 * v10) + g) (v := σ.2.1 59 ((192 * v10) + g)) dX12_livesBehind_58 (show mT[37]? = some (59, 2, 42432) from rfl) (by omega) (by omega) (by decide) (rfl) ?_
      have g17 := RG.a hR 59 ((192 * v10) + g)
      have := hbl ((192 * v10) + g)
      refine tm_if_eq (tgt := 66) dX12_livesBehind_59 (by decide) ⟨by omega, by omega⟩ (fun h18 => ?_) (fun h18 => ?_)
      · refine tm_iconst dX12_livesBehind_66 ?_
        exact tm_zret (v := 0) rfl (by decide) dX12_livesBehind_67 (⟨_, rfl, rfl, by omega, fun q => absurd q (by decide), fun q => by
      rcases q with ⟨q1, q2⟩ | ⟨q1, q2⟩
      · have e1 : v3 = k + 1 := by omega
        rw [← e1] at q2
        omega
      · have e2 : v10 = σ.2.1 46 (σ.2.1 4 (220 * r + k)) := by omega
        rw [← e2] at q2
        omega⟩)
      · refine tm_iconst dX12_livesBehind_62 ?_
        refine tm_goto (tgt := 67) dX12_livesBehind_63 (by decide) ?_
        exact tm_zret (v := 1) rfl (by decide) dX12_livesBehind_67 (⟨_, rfl, rfl, by omega, fun _ => by
      first
      | (have e1 : v3 = k + 1 := by omega
         subst e1
         exact Or.inl ⟨by omega, by omega⟩)
      | (have e2 : v10 = σ.2.1 46 (σ.2.1 4 (220 * r + k)) := by omega
         subst e2
         exact Or.inr ⟨by omega, by omega⟩), fun _ => rfl⟩)
  · refine tm_aload_n dX12_livesBehind_24 rfl 2 rfl ?_
    refine tm_get (k := 59) (v := .ref (b + 1 + 37)) lay_12 dX12_livesBehind_25 (by decide) fl12_130 rfl ?_
    refine tm_sipush dX12_livesBehind_28 (by decide) ?_
    refine tm_iload dX12_livesBehind_31 1 rfl ?_
    refine tm_imul dX12_livesBehind_33 ?_
    refine tm_iload_n dX12_livesBehind_34 rfl 5 rfl ?_
    refine tm_iadd dX12_livesBehind_35 ?_
    refine tm_zald (z := (192 * v3) + g) (v := σ.2.1 59 ((192 * v3) + g)) dX12_livesBehind_36 (show mT[37]? = some (59, 2, 42432) from rfl) (by omega) (by omega) (by decide) (rfl) ?_
    have g19 := RG.a hR 59 ((192 * v3) + g)
    have := hbl ((192 * v3) + g)
    refine tm_if_ne (tgt := 62) dX12_livesBehind_37 (by decide) ⟨by omega, by omega⟩ (fun h20 => ?_) (fun h20 => ?_)
    · refine tm_iconst dX12_livesBehind_62 ?_
      refine tm_goto (tgt := 67) dX12_livesBehind_63 (by decide) ?_
      exact tm_zret (v := 1) rfl (by decide) dX12_livesBehind_67 (⟨_, rfl, rfl, by omega, fun _ => by
      first
      | (have e1 : v3 = k + 1 := by omega
         subst e1
         exact Or.inl ⟨by omega, by omega⟩)
      | (have e2 : v10 = σ.2.1 46 (σ.2.1 4 (220 * r + k)) := by omega
         subst e2
         exact Or.inr ⟨by omega, by omega⟩), fun _ => rfl⟩)
    · refine tm_iload dX12_livesBehind_40 0 rfl ?_
      refine tm_iconst dX12_livesBehind_42 ?_
      refine tm_icmp_eq (tgt := 66) dX12_livesBehind_43 (by decide) ⟨by omega, by omega⟩ ⟨by decide, by decide⟩ (fun h21 => ?_) (fun h21 => ?_)
      · refine tm_iconst dX12_livesBehind_66 ?_
        exact tm_zret (v := 0) rfl (by decide) dX12_livesBehind_67 (⟨_, rfl, rfl, by omega, fun q => absurd q (by decide), fun q => by
      rcases q with ⟨q1, q2⟩ | ⟨q1, q2⟩
      · have e1 : v3 = k + 1 := by omega
        rw [← e1] at q2
        omega
      · have e2 : v10 = σ.2.1 46 (σ.2.1 4 (220 * r + k)) := by omega
        rw [← e2] at q2
        omega⟩)
      · refine tm_aload_n dX12_livesBehind_46 rfl 2 rfl ?_
        refine tm_get (k := 59) (v := .ref (b + 1 + 37)) lay_12 dX12_livesBehind_47 (by decide) fl12_130 rfl ?_
        refine tm_sipush dX12_livesBehind_50 (by decide) ?_
        refine tm_iload dX12_livesBehind_53 0 rfl ?_
        refine tm_imul dX12_livesBehind_55 ?_
        refine tm_iload_n dX12_livesBehind_56 rfl 5 rfl ?_
        refine tm_iadd dX12_livesBehind_57 ?_
        refine tm_zald (z := (192 * v10) + g) (v := σ.2.1 59 ((192 * v10) + g)) dX12_livesBehind_58 (show mT[37]? = some (59, 2, 42432) from rfl) (by omega) (by omega) (by decide) (rfl) ?_
        have g22 := RG.a hR 59 ((192 * v10) + g)
        have := hbl ((192 * v10) + g)
        refine tm_if_eq (tgt := 66) dX12_livesBehind_59 (by decide) ⟨by omega, by omega⟩ (fun h23 => ?_) (fun h23 => ?_)
        · refine tm_iconst dX12_livesBehind_66 ?_
          exact tm_zret (v := 0) rfl (by decide) dX12_livesBehind_67 (⟨_, rfl, rfl, by omega, fun q => absurd q (by decide), fun q => by
      rcases q with ⟨q1, q2⟩ | ⟨q1, q2⟩
      · have e1 : v3 = k + 1 := by omega
        rw [← e1] at q2
        omega
      · have e2 : v10 = σ.2.1 46 (σ.2.1 4 (220 * r + k)) := by omega
        rw [← e2] at q2
        omega⟩)
        · refine tm_iconst dX12_livesBehind_62 ?_
          refine tm_goto (tgt := 67) dX12_livesBehind_63 (by decide) ?_
          exact tm_zret (v := 1) rfl (by decide) dX12_livesBehind_67 (⟨_, rfl, rfl, by omega, fun _ => by
      first
      | (have e1 : v3 = k + 1 := by omega
         subst e1
         exact Or.inl ⟨by omega, by omega⟩)
      | (have e2 : v10 = σ.2.1 46 (σ.2.1 4 (220 * r + k)) := by omega
         subst e2
         exact Or.inr ⟨by omega, by omega⟩), fun _ => rfl⟩)
set_option maxHeartbeats 1000000 in
set_option maxRecDepth 20000 in
theorem f_lives4 (d : Nat) {b : Nat} {σ0 : MS} {r : Int} {F : Int} {k : Int} {n1 : Int} {C0 : Int} {ρ : MS} {V : Int → It} {post : Option Value → MS → Prop} (hr : 0 ≤ r ∧ r < 6) (hR0 : RG σ0) (hit : ITM σ0) (hpar : PAR σ0) (hok : OKS σ0 F r) (hl : LAB σ0) (htg : TGT σ0 r) (hρ : Fr [] [46, 59] [] ρ σ0) (htd : TGD σ0 r) (hV : V = rV σ0 r) (hu : UNQ V n1) (hk : 0 ≤ k ∧ k < n1 ∧ n1 = σ0.2.1 9 r) (hx_174 : ∀ (w : Int) (g : Int) (σ : MS) , (Fr [] [59] [] σ0 σ) → (RG σ) → (w = 0 ∨ w = 1) → (BO 59 σ) → ((cz (σ.2.1 59) 42432 : Int) + w ≤ C0) → (LVR ρ σ r) → (LSD σ V n1) → (w = 0 → LCL σ r k n1) → Tm (d + 5) m_X12_findLives 174 b σ [(6, .int (iI g)), (5, .int (iI (220 * r + k))), (4, .int (iI k)), (3, .int (iI w)), (2, .int (iI n1)), (0, .ref b), (1, .int (iI r))] [] post) : ∀ (n : Nat) (w : Int) (g : Int) (σ : MS) , (Fr [] [59] [] σ0 σ) → (RG σ) → ((w = 0 ∨ w = 1) ∧ 0 ≤ g ∧ g ≤ 192) → (BO 59 σ) → ((cz (σ.2.1 59) 42432 : Int) + w ≤ C0) → (LVR ρ σ r) → (LSD σ V n1) → (w = 0 → LCL σ r (k + 1) n1 ∧ ∀ u, 0 ≤ u → u < g → LCN σ r k u → σ.2.1 59 (192 * k + u) = 1) → (192 - g).toNat = n → Tm (d + 5) m_X12_findLives 68 b σ [(6, .int (iI g)), (5, .int (iI (220 * r + k))), (4, .int (iI k)), (3, .int (iI w)), (2, .int (iI n1)), (0, .ref b), (1, .int (iI r))] [] post := by
  intro n
  induction n using Nat.strongRecOn with
  | _ n ih =>
    intro w g σ hF hR h0 hbl hcn hlv hsl hci hm
    have hit1 := hit.fr hF (by decide)
    have hpar1 := hpar.fr hF (by decide)
    have hok1 := hok.fr hF (by decide)
    have hl1 := hl.fr hF (by decide)
    have q1 := hit r (by omega) (by omega)
    have q9 : σ.2.1 9 r = σ0.2.1 9 r := by rw [hF.2.1 9 (by decide)]
    have htg1 := htg.fr hF (by decide)
    have hρ1 : Fr [] [46, 59] [] ρ σ := hρ.trans (hF.sub (by decide) (by decide) (by decide))
    have qρ : ρ.2.1 9 r = σ0.2.1 9 r := by rw [hρ.2.1 9 (by decide)]
    have hV1 : V = rV σ r := hV.trans (rv_fr hF (by decide)).symm
    have htd1 := htd.fr hF (by decide)
    have e3 : σ.2.1 3 (220 * r + k) = σ0.2.1 3 (220 * r + k) := by rw [hF.2.1 3 (by decide)]
    refine tm_iload dX12_findLives_68 0 rfl ?_
    refine tm_sipush dX12_findLives_70 (by decide) ?_
    refine tm_icmp_ge (tgt := 174) dX12_findLives_73 (by decide) ⟨by omega, by omega⟩ ⟨by decide, by decide⟩ (fun h1 => ?_) (fun h1 => ?_)
    · exact tm_sub [0, 1, 2, 3, 4, 5, 6] rfl (hx_174 (w) (g) σ (Fr.rfl.trans (Fr.sub hF (by decide) (by decide) (by decide))) hR (by omega) hbl hcn hlv hsl (fun e j a b u c d q => by
          by_cases z : j = k
          · subst z; exact (hci e).2 u c (by omega) q
          · exact (hci e).1 j (by omega) b u c d q))
    · refine tm_aload_n dX12_findLives_76 rfl 5 rfl ?_
      refine tm_iload_n dX12_findLives_77 rfl 6 rfl ?_
      refine tm_iload dX12_findLives_78 2 rfl ?_
      refine tm_iload dX12_findLives_80 0 rfl ?_
      refine tm_callV (M := m_X12_findLives) (pc := 82) (ix := 433) (M' := m_X12_livesBehind) (As := [.int (iI r), .int (iI k), .int (iI g)]) (rest := []) dX12_findLives_82 ok_X12_livesBehind im_X12_livesBehind se_X12_livesBehind ml12_433 np_X12_livesBehind rfl rfl (Nat.le_of_ble_eq_true rfl) (Nat.le_of_ble_eq_true rfl) rfl (f_X12_livesBehind (d + 1) (σ := σ) (r := r) (k := k) (g := g) (by omega) hR hit1 hok1.jmp hbl hl1 (by omega) (by omega)) (fun r2 σ3 hp => ?_)
      obtain ⟨v4, rfl, rfl, f5, f6⟩ := hp
      show Tm _ _ 85 b σ [(6, .int (iI g)), (5, .int (iI (220 * r + k))), (4, .int (iI k)), (3, .int (iI w)), (2, .int (iI n1)), (0, .ref b), (1, .int (iI r))] [.int (iI v4)] _
      have hLB := f6
      have hA : v4 = 1 → LVW ρ r g := fun q => hlv.by htg1 hρ1 (by omega) (by omega) (hLB.mp q)
      refine tm_if_eq (tgt := 99) dX12_findLives_85 (by decide) ⟨by omega, by omega⟩ (fun h7 => ?_) (fun h7 => ?_)
      · refine tm_aload_n dX12_findLives_99 rfl 5 rfl ?_
        refine tm_get (k := 3) (v := .ref (b + 1 + 1)) lay_12 dX12_findLives_100 (by decide) fl12_13 rfl ?_
        refine tm_iload dX12_findLives_103 1 rfl ?_
        refine tm_iald (z := 220 * r + k) (v := σ0.2.1 3 (220 * r + k)) dX12_findLives_105 (show mT[1]? = some (3, 0, 2860) from rfl) (by omega) (by omega) (by decide) (ra_F hF (by decide) (rfl)) ?_
        have g8 := RG.a hR0 3 (220 * r + k)
        refine tm_bipush dX12_findLives_106 (by decide) ?_
        refine tm_icmp_eq (tgt := 126) dX12_findLives_108 (by decide) ⟨by omega, by omega⟩ ⟨by decide, by decide⟩ (fun h10 => ?_) (fun h10 => ?_)
        · refine tm_iconst dX12_findLives_126 ?_
          refine tm_istore (L' := [(7, .int (iI 0)), (6, .int (iI g)), (5, .int (iI (220 * r + k))), (4, .int (iI k)), (3, .int (iI w)), (2, .int (iI n1)), (0, .ref b), (1, .int (iI r))]) dX12_findLives_127 (by decide) rfl ?_
          refine tm_iload dX12_findLives_129 0 rfl ?_
          refine tm_if_eq (tgt := 168) dX12_findLives_131 (by decide) ⟨by decide, by decide⟩ (fun _ => ?_) (fun h => absurd h (by decide))
          refine tm_iinc (q0 := 1) (L' := [(6, .int (iI (g + 1))), (7, .int (iI 0)), (5, .int (iI (220 * r + k))), (4, .int (iI k)), (3, .int (iI w)), (2, .int (iI n1)), (0, .ref b), (1, .int (iI r))]) dX12_findLives_168 rfl (by decide) rfl ?_
          refine tm_goto (tgt := 68) dX12_findLives_171 (by decide) ?_
          exact tm_sub [0, 2, 3, 4, 5, 6, 7] rfl (ih _ (by omega) (w) (g + 1) σ (Fr.rfl.trans (Fr.sub hF (by decide) (by decide) (by decide))) hR (by omega) (by first | exact hbl | exact hbl.A (by omega)) (by first | omega | (have hcz := cz_sA (σ := σ) (k := 59) (n := 42432) (z := 192 * k + g) (v := 1) (by omega) (by omega) (by omega) (by decide); omega)) hlv hsl (fun e => ⟨(hci e).1, fun u a b => by
            by_cases z : u = g
            · rw [z]
              intro q
              first
              | omega
              | (rcases q with ⟨q1, q2⟩ | ⟨q1, q2⟩
                 · have e8 := hLB.mpr q1
                   omega
                 · omega)
            · exact (hci e).2 u a (by omega)⟩) rfl)
        · refine tm_aload_n dX12_findLives_111 rfl 5 rfl ?_
          refine tm_iload dX12_findLives_112 1 rfl ?_
          refine tm_iload dX12_findLives_114 0 rfl ?_
          refine tm_callV (M := m_X12_findLives) (pc := 116) (ix := 439) (M' := m_X12_leansOn) (As := [.int (iI (220 * r + k)), .int (iI g)]) (rest := []) dX12_findLives_116 ok_X12_leansOn im_X12_leansOn se_X12_leansOn ml12_439 np_X12_leansOn rfl rfl (Nat.le_of_ble_eq_true rfl) (Nat.le_of_ble_eq_true rfl) rfl (c_X12_leansOn (d) (σ := σ) (x := 220 * r + k) (g := g) (by omega) hR (hok1.of (by omega) (by omega)) hpar1 (by omega)) (fun r12 σ13 hp => ?_)
          obtain ⟨v14, rfl, rfl, f15, f16⟩ := hp
          show Tm _ _ 119 b σ [(6, .int (iI g)), (5, .int (iI (220 * r + k))), (4, .int (iI k)), (3, .int (iI w)), (2, .int (iI n1)), (0, .ref b), (1, .int (iI r))] [.int (iI v14)] _
          have hLN := f16
          have hB : v14 = 1 → LVW ρ r g := fun q => LVW.of hρ1 (by omega) (hLN.mp q)
          refine tm_if_eq (tgt := 126) dX12_findLives_119 (by decide) ⟨by omega, by omega⟩ (fun h17 => ?_) (fun h17 => ?_)
          · refine tm_iconst dX12_findLives_126 ?_
            refine tm_istore (L' := [(7, .int (iI 0)), (6, .int (iI g)), (5, .int (iI (220 * r + k))), (4, .int (iI k)), (3, .int (iI w)), (2, .int (iI n1)), (0, .ref b), (1, .int (iI r))]) dX12_findLives_127 (by decide) rfl ?_
            refine tm_iload dX12_findLives_129 0 rfl ?_
            refine tm_if_eq (tgt := 168) dX12_findLives_131 (by decide) ⟨by decide, by decide⟩ (fun _ => ?_) (fun h => absurd h (by decide))
            refine tm_iinc (q0 := 1) (L' := [(6, .int (iI (g + 1))), (7, .int (iI 0)), (5, .int (iI (220 * r + k))), (4, .int (iI k)), (3, .int (iI w)), (2, .int (iI n1)), (0, .ref b), (1, .int (iI r))]) dX12_findLives_168 rfl (by decide) rfl ?_
            refine tm_goto (tgt := 68) dX12_findLives_171 (by decide) ?_
            exact tm_sub [0, 2, 3, 4, 5, 6, 7] rfl (ih _ (by omega) (w) (g + 1) σ (Fr.rfl.trans (Fr.sub hF (by decide) (by decide) (by decide))) hR (by omega) (by first | exact hbl | exact hbl.A (by omega)) (by first | omega | (have hcz := cz_sA (σ := σ) (k := 59) (n := 42432) (z := 192 * k + g) (v := 1) (by omega) (by omega) (by omega) (by decide); omega)) hlv hsl (fun e => ⟨(hci e).1, fun u a b => by
            by_cases z : u = g
            · rw [z]
              intro q
              first
              | omega
              | (rcases q with ⟨q1, q2⟩ | ⟨q1, q2⟩
                 · have e8 := hLB.mpr q1
                   omega
                 · (have e9 := hLN.mpr q2; omega))
            · exact (hci e).2 u a (by omega)⟩) rfl)
          · refine tm_iconst dX12_findLives_122 ?_
            refine tm_goto (tgt := 127) dX12_findLives_123 (by decide) ?_
            refine tm_istore (L' := [(7, .int (iI 1)), (6, .int (iI g)), (5, .int (iI (220 * r + k))), (4, .int (iI k)), (3, .int (iI w)), (2, .int (iI n1)), (0, .ref b), (1, .int (iI r))]) dX12_findLives_127 (by decide) rfl ?_
            refine tm_iload dX12_findLives_129 0 rfl ?_
            refine tm_if_eq (tgt := 168) dX12_findLives_131 (by decide) ⟨by decide, by decide⟩ (fun h => absurd h (by decide)) (fun _ => ?_)
            refine tm_aload_n dX12_findLives_134 rfl 6 rfl ?_
            refine tm_get (k := 59) (v := .ref (b + 1 + 37)) lay_12 dX12_findLives_135 (by decide) fl12_130 rfl ?_
            refine tm_sipush dX12_findLives_138 (by decide) ?_
            refine tm_iload dX12_findLives_141 3 rfl ?_
            refine tm_imul dX12_findLives_143 ?_
            refine tm_iload dX12_findLives_144 1 rfl ?_
            refine tm_iadd dX12_findLives_146 ?_
            refine tm_zald (z := (192 * k) + g) (v := σ.2.1 59 ((192 * k) + g)) dX12_findLives_147 (show mT[37]? = some (59, 2, 42432) from rfl) (by omega) (by omega) (by decide) (rfl) ?_
            have g20 := RG.a hR 59 ((192 * k) + g)
            have := hbl ((192 * k) + g)
            refine tm_if_ne (tgt := 168) dX12_findLives_148 (by decide) ⟨by omega, by omega⟩ (fun h21 => ?_) (fun h21 => ?_)
            · refine tm_iinc (q0 := 1) (L' := [(6, .int (iI (g + 1))), (7, .int (iI 1)), (5, .int (iI (220 * r + k))), (4, .int (iI k)), (3, .int (iI w)), (2, .int (iI n1)), (0, .ref b), (1, .int (iI r))]) dX12_findLives_168 rfl (by decide) rfl ?_
              refine tm_goto (tgt := 68) dX12_findLives_171 (by decide) ?_
              exact tm_sub [0, 2, 3, 4, 5, 6, 7] rfl (ih _ (by omega) (w) (g + 1) σ (Fr.rfl.trans (Fr.sub hF (by decide) (by decide) (by decide))) hR (by omega) (by first | exact hbl | exact hbl.A (by omega)) (by first | omega | (have hcz := cz_sA (σ := σ) (k := 59) (n := 42432) (z := 192 * k + g) (v := 1) (by omega) (by omega) (by omega) (by decide); omega)) hlv hsl (fun e => ⟨(hci e).1, fun u a b => by
            by_cases z : u = g
            · rw [z]
              intro q
              first
              | omega
              | (rcases q with ⟨q1, q2⟩ | ⟨q1, q2⟩
                 · have e8 := hLB.mpr q1
                   omega
                 · (have e9 := hLN.mpr q2; omega))
            · exact (hci e).2 u a (by omega)⟩) rfl)
            · refine tm_aload_n dX12_findLives_151 rfl 6 rfl ?_
              refine tm_get (k := 59) (v := .ref (b + 1 + 37)) lay_12 dX12_findLives_152 (by decide) fl12_130 rfl ?_
              refine tm_sipush dX12_findLives_155 (by decide) ?_
              refine tm_iload dX12_findLives_158 3 rfl ?_
              refine tm_imul dX12_findLives_160 ?_
              refine tm_iload dX12_findLives_161 1 rfl ?_
              refine tm_iadd dX12_findLives_163 ?_
              refine tm_iconst dX12_findLives_164 ?_
              refine tm_zast (z := (192 * k) + g) (v := 1) dX12_findLives_165 (show mT[37]? = some (59, 2, 42432) from rfl) (by omega) (by omega) (by decide) (by omega) ?_
              refine tm_iconst dX12_findLives_166 ?_
              refine tm_istore_n (L' := [(3, .int (iI 1)), (7, .int (iI 1)), (6, .int (iI g)), (5, .int (iI (220 * r + k))), (4, .int (iI k)), (2, .int (iI n1)), (0, .ref b), (1, .int (iI r))]) dX12_findLives_167 rfl (by decide) rfl ?_
              refine tm_iinc (q0 := 2) (L' := [(6, .int (iI (g + 1))), (3, .int (iI 1)), (7, .int (iI 1)), (5, .int (iI (220 * r + k))), (4, .int (iI k)), (2, .int (iI n1)), (0, .ref b), (1, .int (iI r))]) dX12_findLives_168 rfl (by decide) rfl ?_
              refine tm_goto (tgt := 68) dX12_findLives_171 (by decide) ?_
              exact tm_sub [0, 3, 4, 1, 5, 6, 7] rfl (ih _ (by omega) (1) (g + 1) (sA 59 ((192 * k) + g) (1) σ) ((Fr.rfl.trans (Fr.sub hF (by decide) (by decide) (by decide))).A (by decide)) (hR.A (by omega)) (by omega) (by first | exact hbl | exact hbl.A (by omega)) (by first | omega | (have hcz := cz_sA (σ := σ) (k := 59) (n := 42432) (z := 192 * k + g) (v := 1) (by omega) (by omega) (by omega) (by decide); omega)) (hlv.put (by omega) (hB (by omega))) (hsl.go (F := F) hV1 (by omega) htd1 hu (by omega) (by omega) (hok1 k (by omega) (by omega)) hpar1 (Or.inr ⟨by omega, hLN.mp (by omega)⟩)) (fun e => absurd e (by decide)) rfl)
      · refine tm_aload_n dX12_findLives_88 rfl 5 rfl ?_
        refine tm_iload dX12_findLives_89 1 rfl ?_
        refine tm_iload dX12_findLives_91 0 rfl ?_
        refine tm_callV (M := m_X12_findLives) (pc := 93) (ix := 436) (M' := m_X12_writesTo) (As := [.int (iI (220 * r + k)), .int (iI g)]) (rest := []) dX12_findLives_93 ok_X12_writesTo im_X12_writesTo se_X12_writesTo ml12_436 np_X12_writesTo rfl rfl (Nat.le_of_ble_eq_true rfl) (Nat.le_of_ble_eq_true rfl) rfl (c_X12_writesTo (d + 2) (σ := σ) (x := 220 * r + k) (g := g) (by omega) hR (by omega)) (fun r22 σ23 hp => ?_)
        obtain ⟨v24, rfl, rfl, f25, f26⟩ := hp
        show Tm _ _ 96 b σ [(6, .int (iI g)), (5, .int (iI (220 * r + k))), (4, .int (iI k)), (3, .int (iI w)), (2, .int (iI n1)), (0, .ref b), (1, .int (iI r))] [.int (iI v24)] _
        have hWT := f26
        refine tm_if_eq (tgt := 122) dX12_findLives_96 (by decide) ⟨by omega, by omega⟩ (fun h32 => ?_) (fun h32 => ?_)
        · refine tm_iconst dX12_findLives_122 ?_
          refine tm_goto (tgt := 127) dX12_findLives_123 (by decide) ?_
          refine tm_istore (L' := [(7, .int (iI 1)), (6, .int (iI g)), (5, .int (iI (220 * r + k))), (4, .int (iI k)), (3, .int (iI w)), (2, .int (iI n1)), (0, .ref b), (1, .int (iI r))]) dX12_findLives_127 (by decide) rfl ?_
          refine tm_iload dX12_findLives_129 0 rfl ?_
          refine tm_if_eq (tgt := 168) dX12_findLives_131 (by decide) ⟨by decide, by decide⟩ (fun h => absurd h (by decide)) (fun _ => ?_)
          refine tm_aload_n dX12_findLives_134 rfl 6 rfl ?_
          refine tm_get (k := 59) (v := .ref (b + 1 + 37)) lay_12 dX12_findLives_135 (by decide) fl12_130 rfl ?_
          refine tm_sipush dX12_findLives_138 (by decide) ?_
          refine tm_iload dX12_findLives_141 3 rfl ?_
          refine tm_imul dX12_findLives_143 ?_
          refine tm_iload dX12_findLives_144 1 rfl ?_
          refine tm_iadd dX12_findLives_146 ?_
          refine tm_zald (z := (192 * k) + g) (v := σ.2.1 59 ((192 * k) + g)) dX12_findLives_147 (show mT[37]? = some (59, 2, 42432) from rfl) (by omega) (by omega) (by decide) (rfl) ?_
          have g34 := RG.a hR 59 ((192 * k) + g)
          have := hbl ((192 * k) + g)
          refine tm_if_ne (tgt := 168) dX12_findLives_148 (by decide) ⟨by omega, by omega⟩ (fun h35 => ?_) (fun h35 => ?_)
          · refine tm_iinc (q0 := 1) (L' := [(6, .int (iI (g + 1))), (7, .int (iI 1)), (5, .int (iI (220 * r + k))), (4, .int (iI k)), (3, .int (iI w)), (2, .int (iI n1)), (0, .ref b), (1, .int (iI r))]) dX12_findLives_168 rfl (by decide) rfl ?_
            refine tm_goto (tgt := 68) dX12_findLives_171 (by decide) ?_
            exact tm_sub [0, 2, 3, 4, 5, 6, 7] rfl (ih _ (by omega) (w) (g + 1) σ (Fr.rfl.trans (Fr.sub hF (by decide) (by decide) (by decide))) hR (by omega) (by first | exact hbl | exact hbl.A (by omega)) (by first | omega | (have hcz := cz_sA (σ := σ) (k := 59) (n := 42432) (z := 192 * k + g) (v := 1) (by omega) (by omega) (by omega) (by decide); omega)) hlv hsl (fun e => ⟨(hci e).1, fun u a b => by
            by_cases z : u = g
            · rw [z]
              intro q
              first
              | omega
              | (rcases q with ⟨q1, q2⟩ | ⟨q1, q2⟩
                 · have e8 := hLB.mpr q1
                   (first | omega | exact absurd (show wrA σ r g k from hWT.mp (by omega)) q2)
                 · omega)
            · exact (hci e).2 u a (by omega)⟩) rfl)
          · refine tm_aload_n dX12_findLives_151 rfl 6 rfl ?_
            refine tm_get (k := 59) (v := .ref (b + 1 + 37)) lay_12 dX12_findLives_152 (by decide) fl12_130 rfl ?_
            refine tm_sipush dX12_findLives_155 (by decide) ?_
            refine tm_iload dX12_findLives_158 3 rfl ?_
            refine tm_imul dX12_findLives_160 ?_
            refine tm_iload dX12_findLives_161 1 rfl ?_
            refine tm_iadd dX12_findLives_163 ?_
            refine tm_iconst dX12_findLives_164 ?_
            refine tm_zast (z := (192 * k) + g) (v := 1) dX12_findLives_165 (show mT[37]? = some (59, 2, 42432) from rfl) (by omega) (by omega) (by decide) (by omega) ?_
            refine tm_iconst dX12_findLives_166 ?_
            refine tm_istore_n (L' := [(3, .int (iI 1)), (7, .int (iI 1)), (6, .int (iI g)), (5, .int (iI (220 * r + k))), (4, .int (iI k)), (2, .int (iI n1)), (0, .ref b), (1, .int (iI r))]) dX12_findLives_167 rfl (by decide) rfl ?_
            refine tm_iinc (q0 := 2) (L' := [(6, .int (iI (g + 1))), (3, .int (iI 1)), (7, .int (iI 1)), (5, .int (iI (220 * r + k))), (4, .int (iI k)), (2, .int (iI n1)), (0, .ref b), (1, .int (iI r))]) dX12_findLives_168 rfl (by decide) rfl ?_
            refine tm_goto (tgt := 68) dX12_findLives_171 (by decide) ?_
            exact tm_sub [0, 3, 4, 1, 5, 6, 7] rfl (ih _ (by omega) (1) (g + 1) (sA 59 ((192 * k) + g) (1) σ) ((Fr.rfl.trans (Fr.sub hF (by decide) (by decide) (by decide))).A (by decide)) (hR.A (by omega)) (by omega) (by first | exact hbl | exact hbl.A (by omega)) (by first | omega | (have hcz := cz_sA (σ := σ) (k := 59) (n := 42432) (z := 192 * k + g) (v := 1) (by omega) (by omega) (by omega) (by decide); omega)) (hlv.put (by omega) (hA (by omega))) (hsl.go (F := F) hV1 (by omega) htd1 hu (by omega) (by omega) (hok1 k (by omega) (by omega)) hpar1 (Or.inl ⟨hLB.mp (by omega), fun z => absurd (hWT.mpr z) (by omega)⟩)) (fun e => absurd e (by decide)) rfl)
        · refine tm_aload_n dX12_findLives_99 rfl 5 rfl ?_
          refine tm_get (k := 3) (v := .ref (b + 1 + 1)) lay_12 dX12_findLives_100 (by decide) fl12_13 rfl ?_
          refine tm_iload dX12_findLives_103 1 rfl ?_
          refine tm_iald (z := 220 * r + k) (v := σ0.2.1 3 (220 * r + k)) dX12_findLives_105 (show mT[1]? = some (3, 0, 2860) from rfl) (by omega) (by omega) (by decide) (ra_F hF (by decide) (rfl)) ?_
          have g36 := RG.a hR0 3 (220 * r + k)
          refine tm_bipush dX12_findLives_106 (by decide) ?_
          refine tm_icmp_eq (tgt := 126) dX12_findLives_108 (by decide) ⟨by omega, by omega⟩ ⟨by decide, by decide⟩ (fun h37 => ?_) (fun h37 => ?_)
          · refine tm_iconst dX12_findLives_126 ?_
            refine tm_istore (L' := [(7, .int (iI 0)), (6, .int (iI g)), (5, .int (iI (220 * r + k))), (4, .int (iI k)), (3, .int (iI w)), (2, .int (iI n1)), (0, .ref b), (1, .int (iI r))]) dX12_findLives_127 (by decide) rfl ?_
            refine tm_iload dX12_findLives_129 0 rfl ?_
            refine tm_if_eq (tgt := 168) dX12_findLives_131 (by decide) ⟨by decide, by decide⟩ (fun _ => ?_) (fun h => absurd h (by decide))
            refine tm_iinc (q0 := 1) (L' := [(6, .int (iI (g + 1))), (7, .int (iI 0)), (5, .int (iI (220 * r + k))), (4, .int (iI k)), (3, .int (iI w)), (2, .int (iI n1)), (0, .ref b), (1, .int (iI r))]) dX12_findLives_168 rfl (by decide) rfl ?_
            refine tm_goto (tgt := 68) dX12_findLives_171 (by decide) ?_
            exact tm_sub [0, 2, 3, 4, 5, 6, 7] rfl (ih _ (by omega) (w) (g + 1) σ (Fr.rfl.trans (Fr.sub hF (by decide) (by decide) (by decide))) hR (by omega) (by first | exact hbl | exact hbl.A (by omega)) (by first | omega | (have hcz := cz_sA (σ := σ) (k := 59) (n := 42432) (z := 192 * k + g) (v := 1) (by omega) (by omega) (by omega) (by decide); omega)) hlv hsl (fun e => ⟨(hci e).1, fun u a b => by
            by_cases z : u = g
            · rw [z]
              intro q
              first
              | omega
              | (rcases q with ⟨q1, q2⟩ | ⟨q1, q2⟩
                 · have e8 := hLB.mpr q1
                   (first | omega | exact absurd (show wrA σ r g k from hWT.mp (by omega)) q2)
                 · omega)
            · exact (hci e).2 u a (by omega)⟩) rfl)
          · refine tm_aload_n dX12_findLives_111 rfl 5 rfl ?_
            refine tm_iload dX12_findLives_112 1 rfl ?_
            refine tm_iload dX12_findLives_114 0 rfl ?_
            refine tm_callV (M := m_X12_findLives) (pc := 116) (ix := 439) (M' := m_X12_leansOn) (As := [.int (iI (220 * r + k)), .int (iI g)]) (rest := []) dX12_findLives_116 ok_X12_leansOn im_X12_leansOn se_X12_leansOn ml12_439 np_X12_leansOn rfl rfl (Nat.le_of_ble_eq_true rfl) (Nat.le_of_ble_eq_true rfl) rfl (c_X12_leansOn (d) (σ := σ) (x := 220 * r + k) (g := g) (by omega) hR (hok1.of (by omega) (by omega)) hpar1 (by omega)) (fun r39 σ40 hp => ?_)
            obtain ⟨v41, rfl, rfl, f42, f43⟩ := hp
            show Tm _ _ 119 b σ [(6, .int (iI g)), (5, .int (iI (220 * r + k))), (4, .int (iI k)), (3, .int (iI w)), (2, .int (iI n1)), (0, .ref b), (1, .int (iI r))] [.int (iI v41)] _
            have hLN := f43
            have hB : v41 = 1 → LVW ρ r g := fun q => LVW.of hρ1 (by omega) (hLN.mp q)
            refine tm_if_eq (tgt := 126) dX12_findLives_119 (by decide) ⟨by omega, by omega⟩ (fun h44 => ?_) (fun h44 => ?_)
            · refine tm_iconst dX12_findLives_126 ?_
              refine tm_istore (L' := [(7, .int (iI 0)), (6, .int (iI g)), (5, .int (iI (220 * r + k))), (4, .int (iI k)), (3, .int (iI w)), (2, .int (iI n1)), (0, .ref b), (1, .int (iI r))]) dX12_findLives_127 (by decide) rfl ?_
              refine tm_iload dX12_findLives_129 0 rfl ?_
              refine tm_if_eq (tgt := 168) dX12_findLives_131 (by decide) ⟨by decide, by decide⟩ (fun _ => ?_) (fun h => absurd h (by decide))
              refine tm_iinc (q0 := 1) (L' := [(6, .int (iI (g + 1))), (7, .int (iI 0)), (5, .int (iI (220 * r + k))), (4, .int (iI k)), (3, .int (iI w)), (2, .int (iI n1)), (0, .ref b), (1, .int (iI r))]) dX12_findLives_168 rfl (by decide) rfl ?_
              refine tm_goto (tgt := 68) dX12_findLives_171 (by decide) ?_
              exact tm_sub [0, 2, 3, 4, 5, 6, 7] rfl (ih _ (by omega) (w) (g + 1) σ (Fr.rfl.trans (Fr.sub hF (by decide) (by decide) (by decide))) hR (by omega) (by first | exact hbl | exact hbl.A (by omega)) (by first | omega | (have hcz := cz_sA (σ := σ) (k := 59) (n := 42432) (z := 192 * k + g) (v := 1) (by omega) (by omega) (by omega) (by decide); omega)) hlv hsl (fun e => ⟨(hci e).1, fun u a b => by
            by_cases z : u = g
            · rw [z]
              intro q
              first
              | omega
              | (rcases q with ⟨q1, q2⟩ | ⟨q1, q2⟩
                 · have e8 := hLB.mpr q1
                   (first | omega | exact absurd (show wrA σ r g k from hWT.mp (by omega)) q2)
                 · (have e9 := hLN.mpr q2; omega))
            · exact (hci e).2 u a (by omega)⟩) rfl)
            · refine tm_iconst dX12_findLives_122 ?_
              refine tm_goto (tgt := 127) dX12_findLives_123 (by decide) ?_
              refine tm_istore (L' := [(7, .int (iI 1)), (6, .int (iI g)), (5, .int (iI (220 * r + k))), (4, .int (iI k)), (3, .int (iI w)), (2, .int (iI n1)), (0, .ref b), (1, .int (iI r))]) dX12_findLives_127 (by decide) rfl ?_
              refine tm_iload dX12_findLives_129 0 rfl ?_
              refine tm_if_eq (tgt := 168) dX12_findLives_131 (by decide) ⟨by decide, by decide⟩ (fun h => absurd h (by decide)) (fun _ => ?_)
              refine tm_aload_n dX12_findLives_134 rfl 6 rfl ?_
              refine tm_get (k := 59) (v := .ref (b + 1 + 37)) lay_12 dX12_findLives_135 (by decide) fl12_130 rfl ?_
              refine tm_sipush dX12_findLives_138 (by decide) ?_
              refine tm_iload dX12_findLives_141 3 rfl ?_
              refine tm_imul dX12_findLives_143 ?_
              refine tm_iload dX12_findLives_144 1 rfl ?_
              refine tm_iadd dX12_findLives_146 ?_
              refine tm_zald (z := (192 * k) + g) (v := σ.2.1 59 ((192 * k) + g)) dX12_findLives_147 (show mT[37]? = some (59, 2, 42432) from rfl) (by omega) (by omega) (by decide) (rfl) ?_
              have g47 := RG.a hR 59 ((192 * k) + g)
              have := hbl ((192 * k) + g)
              refine tm_if_ne (tgt := 168) dX12_findLives_148 (by decide) ⟨by omega, by omega⟩ (fun h48 => ?_) (fun h48 => ?_)
              · refine tm_iinc (q0 := 1) (L' := [(6, .int (iI (g + 1))), (7, .int (iI 1)), (5, .int (iI (220 * r + k))), (4, .int (iI k)), (3, .int (iI w)), (2, .int (iI n1)), (0, .ref b), (1, .int (iI r))]) dX12_findLives_168 rfl (by decide) rfl ?_
                refine tm_goto (tgt := 68) dX12_findLives_171 (by decide) ?_
                exact tm_sub [0, 2, 3, 4, 5, 6, 7] rfl (ih _ (by omega) (w) (g + 1) σ (Fr.rfl.trans (Fr.sub hF (by decide) (by decide) (by decide))) hR (by omega) (by first | exact hbl | exact hbl.A (by omega)) (by first | omega | (have hcz := cz_sA (σ := σ) (k := 59) (n := 42432) (z := 192 * k + g) (v := 1) (by omega) (by omega) (by omega) (by decide); omega)) hlv hsl (fun e => ⟨(hci e).1, fun u a b => by
            by_cases z : u = g
            · rw [z]
              intro q
              first
              | omega
              | (rcases q with ⟨q1, q2⟩ | ⟨q1, q2⟩
                 · have e8 := hLB.mpr q1
                   (first | omega | exact absurd (show wrA σ r g k from hWT.mp (by omega)) q2)
                 · (have e9 := hLN.mpr q2; omega))
            · exact (hci e).2 u a (by omega)⟩) rfl)
              · refine tm_aload_n dX12_findLives_151 rfl 6 rfl ?_
                refine tm_get (k := 59) (v := .ref (b + 1 + 37)) lay_12 dX12_findLives_152 (by decide) fl12_130 rfl ?_
                refine tm_sipush dX12_findLives_155 (by decide) ?_
                refine tm_iload dX12_findLives_158 3 rfl ?_
                refine tm_imul dX12_findLives_160 ?_
                refine tm_iload dX12_findLives_161 1 rfl ?_
                refine tm_iadd dX12_findLives_163 ?_
                refine tm_iconst dX12_findLives_164 ?_
                refine tm_zast (z := (192 * k) + g) (v := 1) dX12_findLives_165 (show mT[37]? = some (59, 2, 42432) from rfl) (by omega) (by omega) (by decide) (by omega) ?_
                refine tm_iconst dX12_findLives_166 ?_
                refine tm_istore_n (L' := [(3, .int (iI 1)), (7, .int (iI 1)), (6, .int (iI g)), (5, .int (iI (220 * r + k))), (4, .int (iI k)), (2, .int (iI n1)), (0, .ref b), (1, .int (iI r))]) dX12_findLives_167 rfl (by decide) rfl ?_
                refine tm_iinc (q0 := 2) (L' := [(6, .int (iI (g + 1))), (3, .int (iI 1)), (7, .int (iI 1)), (5, .int (iI (220 * r + k))), (4, .int (iI k)), (2, .int (iI n1)), (0, .ref b), (1, .int (iI r))]) dX12_findLives_168 rfl (by decide) rfl ?_
                refine tm_goto (tgt := 68) dX12_findLives_171 (by decide) ?_
                exact tm_sub [0, 3, 4, 1, 5, 6, 7] rfl (ih _ (by omega) (1) (g + 1) (sA 59 ((192 * k) + g) (1) σ) ((Fr.rfl.trans (Fr.sub hF (by decide) (by decide) (by decide))).A (by decide)) (hR.A (by omega)) (by omega) (by first | exact hbl | exact hbl.A (by omega)) (by first | omega | (have hcz := cz_sA (σ := σ) (k := 59) (n := 42432) (z := 192 * k + g) (v := 1) (by omega) (by omega) (by omega) (by decide); omega)) (hlv.put (by omega) (hB (by omega))) (hsl.go (F := F) hV1 (by omega) htd1 hu (by omega) (by omega) (hok1 k (by omega) (by omega)) hpar1 (Or.inr ⟨by omega, hLN.mp (by omega)⟩)) (fun e => absurd e (by decide)) rfl)
set_option maxHeartbeats 1000000 in
set_option maxRecDepth 20000 in
theorem f_lives3 (d : Nat) {b : Nat} {σ0 : MS} {r : Int} {F : Int} {n1 : Int} {C0 : Int} {ρ : MS} {V : Int → It} {post : Option Value → MS → Prop} (hr : 0 ≤ r ∧ r < 6) (hR0 : RG σ0) (hit : ITM σ0) (hpar : PAR σ0) (hok : OKS σ0 F r) (hl : LAB σ0) (htg : TGT σ0 r) (hρ : Fr [] [46, 59] [] ρ σ0) (htd : TGD σ0 r) (hV : V = rV σ0 r) (hu : UNQ V n1) (hk : n1 = σ0.2.1 9 r) (hx_180 : ∀ (w : Int) (k : Int) (σ : MS) , (Fr [] [59] [] σ0 σ) → (RG σ) → (w = 0 ∨ w = 1) → (BO 59 σ) → ((cz (σ.2.1 59) 42432 : Int) + w ≤ C0) → (LVR ρ σ r) → (LSD σ V n1) → (w = 0 → LCL σ r 0 n1) → Tm (d + 5) m_X12_findLives 180 b σ [(4, .int (iI k)), (3, .int (iI w)), (2, .int (iI n1)), (0, .ref b), (1, .int (iI r))] [] post) : ∀ (n : Nat) (w : Int) (k : Int) (σ : MS) , (Fr [] [59] [] σ0 σ) → (RG σ) → ((w = 0 ∨ w = 1) ∧ -1 ≤ k ∧ k < n1) → (BO 59 σ) → ((cz (σ.2.1 59) 42432 : Int) + w ≤ C0) → (LVR ρ σ r) → (LSD σ V n1) → (w = 0 → LCL σ r (k + 1) n1) → (k + 1).toNat = n → Tm (d + 5) m_X12_findLives 51 b σ [(4, .int (iI k)), (3, .int (iI w)), (2, .int (iI n1)), (0, .ref b), (1, .int (iI r))] [] post := by
  intro n
  induction n using Nat.strongRecOn with
  | _ n ih =>
    intro w k σ hF hR h0 hbl hcn hlv hsl hck hm
    have hit1 := hit.fr hF (by decide)
    have hpar1 := hpar.fr hF (by decide)
    have hok1 := hok.fr hF (by decide)
    have hl1 := hl.fr hF (by decide)
    have q1 := hit r (by omega) (by omega)
    have q9 : σ.2.1 9 r = σ0.2.1 9 r := by rw [hF.2.1 9 (by decide)]
    have htg1 := htg.fr hF (by decide)
    have hρ1 : Fr [] [46, 59] [] ρ σ := hρ.trans (hF.sub (by decide) (by decide) (by decide))
    have qρ : ρ.2.1 9 r = σ0.2.1 9 r := by rw [hρ.2.1 9 (by decide)]
    have hV1 : V = rV σ r := hV.trans (rv_fr hF (by decide)).symm
    have htd1 := htd.fr hF (by decide)
    refine tm_iload dX12_findLives_51 0 rfl ?_
    refine tm_if_lt (tgt := 180) dX12_findLives_53 (by decide) ⟨by omega, by omega⟩ (fun h1 => ?_) (fun h1 => ?_)
    · exact tm_sub [0, 1, 2, 3, 4] rfl (hx_180 (w) (k) σ (Fr.rfl.trans (Fr.sub hF (by decide) (by decide) (by decide))) hR (by omega) hbl hcn hlv hsl (fun e => by have e9 := hck e; rw [show k + 1 = 0 by omega] at e9; exact e9))
    · refine tm_aload_n dX12_findLives_56 rfl 3 rfl ?_
      refine tm_iload_n dX12_findLives_57 rfl 4 rfl ?_
      refine tm_iload dX12_findLives_58 0 rfl ?_
      refine tm_callV (M := m_X12_findLives) (pc := 60) (ix := 203) (M' := m_X12_at) (As := [.int (iI r), .int (iI k)]) (rest := []) dX12_findLives_60 ok_X12_at im_X12_at se_X12_at ml12_203 np_X12_at rfl rfl (Nat.le_of_ble_eq_true rfl) (Nat.le_of_ble_eq_true rfl) rfl (c_X12_at (d + 3) (σ := σ) (x := r) (k := k) ) (fun r2 σ3 hp => ?_)
      obtain ⟨v4, rfl, rfl, f5⟩ := hp
      subst f5
      show Tm _ _ 63 b σ [(4, .int (iI k)), (3, .int (iI w)), (2, .int (iI n1)), (0, .ref b), (1, .int (iI r))] [.int (iI (220 * r + k))] _
      refine tm_istore (L' := [(5, .int (iI (220 * r + k))), (4, .int (iI k)), (3, .int (iI w)), (2, .int (iI n1)), (0, .ref b), (1, .int (iI r))]) dX12_findLives_63 (by decide) rfl ?_
      refine tm_iconst dX12_findLives_65 ?_
      refine tm_istore (L' := [(6, .int (iI 0)), (5, .int (iI (220 * r + k))), (4, .int (iI k)), (3, .int (iI w)), (2, .int (iI n1)), (0, .ref b), (1, .int (iI r))]) dX12_findLives_66 (by decide) rfl ?_
      refine tm_sub [0, 1, 2, 3, 4, 5, 6] rfl (f_lives4 (d) (σ0 := σ) (r := r) (k := k) (n1 := n1) (F := F) (C0 := C0) (ρ := ρ) (V := V) hr hR hit1 hpar1 hok1 hl1 htg1 hρ1 htd1 hV1 hu (by omega) (fun w17 g18 σ19 F9 R10 f11 f12 f13 f14 f15 f16 => ?_) _ (w) (0) σ Fr.rfl hR (by omega) hbl (by omega) hlv hsl (fun e => ⟨hck e, fun u a b => by omega⟩) rfl)
      show Tm _ _ 174 b σ19 [(6, .int (iI g18)), (5, .int (iI (220 * r + k))), (4, .int (iI k)), (3, .int (iI w17)), (2, .int (iI n1)), (0, .ref b), (1, .int (iI r))] [] _
      refine tm_iinc (q0 := 2) (L' := [(4, .int (iI (k + (-1)))), (6, .int (iI g18)), (5, .int (iI (220 * r + k))), (3, .int (iI w17)), (2, .int (iI n1)), (0, .ref b), (1, .int (iI r))]) dX12_findLives_174 rfl (by decide) rfl ?_
      refine tm_goto (tgt := 51) dX12_findLives_177 (by decide) ?_
      exact tm_sub [0, 3, 4, 5, 6] rfl (ih _ (by omega) (w17) (k + (-1)) σ19 ((Fr.rfl.trans (Fr.sub hF (by decide) (by decide) (by decide))).trans (Fr.sub F9 (by decide) (by decide) (by decide))) R10 (by omega) f12 (by omega) f14 f15 (fun e => by rw [show k + (-1) + 1 = k by omega]; exact f16 e) rfl)
set_option maxHeartbeats 1000000 in
set_option maxRecDepth 20000 in
theorem f_lives2 (d : Nat) {b : Nat} {σ0 : MS} {r : Int} {F : Int} {n1 : Int} {ρ : MS} {V : Int → It} {post : Option Value → MS → Prop} (hr : 0 ≤ r ∧ r < 6) (hR0 : RG σ0) (hit : ITM σ0) (hpar : PAR σ0) (hok : OKS σ0 F r) (hl : LAB σ0) (htg : TGT σ0 r) (hρ : Fr [] [46, 59] [] ρ σ0) (htd : TGD σ0 r) (hV : V = rV σ0 r) (hu : UNQ V n1) (hk : n1 = σ0.2.1 9 r) (hx_183 : ∀ (w : Int) (σ : MS) , (Fr [] [59] [] σ0 σ) → (RG σ) → (BO 59 σ) → (LVR ρ σ r) → (LSD σ V n1) → (LCL σ r 0 n1) → Tm (d + 5) m_X12_findLives 183 b σ [(3, .int (iI w)), (2, .int (iI n1)), (0, .ref b), (1, .int (iI r))] [] post) : ∀ (n : Nat) (w : Int) (σ : MS) , (Fr [] [59] [] σ0 σ) → (RG σ) → (w = 0 ∨ w = 1) → (BO 59 σ) → (LVR ρ σ r) → (LSD σ V n1) → (w = 0 → LCL σ r 0 n1) → ((cz (σ.2.1 59) 42432 : Int) + w).toNat = n → Tm (d + 5) m_X12_findLives 40 b σ [(3, .int (iI w)), (2, .int (iI n1)), (0, .ref b), (1, .int (iI r))] [] post := by
  intro n
  induction n using Nat.strongRecOn with
  | _ n ih =>
    intro w σ hF hR h0 hbl hlv hsl hck hm
    have hit1 := hit.fr hF (by decide)
    have hpar1 := hpar.fr hF (by decide)
    have hok1 := hok.fr hF (by decide)
    have hl1 := hl.fr hF (by decide)
    have q1 := hit r (by omega) (by omega)
    have q9 : σ.2.1 9 r = σ0.2.1 9 r := by rw [hF.2.1 9 (by decide)]
    have htg1 := htg.fr hF (by decide)
    have hρ1 : Fr [] [46, 59] [] ρ σ := hρ.trans (hF.sub (by decide) (by decide) (by decide))
    have qρ : ρ.2.1 9 r = σ0.2.1 9 r := by rw [hρ.2.1 9 (by decide)]
    have hV1 : V = rV σ r := hV.trans (rv_fr hF (by decide)).symm
    have htd1 := htd.fr hF (by decide)
    refine tm_iload_n dX12_findLives_40 rfl 0 rfl ?_
    refine tm_if_eq (tgt := 183) dX12_findLives_41 (by decide) ⟨by omega, by omega⟩ (fun h1 => ?_) (fun h1 => ?_)
    · exact tm_sub [0, 1, 2, 3] rfl (hx_183 (w) σ (Fr.rfl.trans (Fr.sub hF (by decide) (by decide) (by decide))) hR hbl hlv hsl (hck (by omega)))
    · refine tm_iconst dX12_findLives_44 ?_
      refine tm_istore_n (L' := [(3, .int (iI 0)), (2, .int (iI n1)), (0, .ref b), (1, .int (iI r))]) dX12_findLives_45 rfl (by decide) rfl ?_
      refine tm_iload_n dX12_findLives_46 rfl 1 rfl ?_
      refine tm_iconst dX12_findLives_47 ?_
      refine tm_isub dX12_findLives_48 ?_
      refine tm_istore (L' := [(4, .int (iI (n1 - 1))), (3, .int (iI 0)), (2, .int (iI n1)), (0, .ref b), (1, .int (iI r))]) dX12_findLives_49 (by decide) rfl ?_
      refine tm_sub [0, 1, 2, 3, 4] rfl (f_lives3 (d) (σ0 := σ) (r := r) (n1 := n1) (F := F) (C0 := (cz (σ.2.1 59) 42432 : Int)) (ρ := ρ) (V := V) hr hR hit1 hpar1 hok1 hl1 htg1 hρ1 htd1 hV1 hu (by omega) (fun w13 k14 σ15 F5 R6 f7 f8 f9 f10 f11 f12 => ?_) _ (0) (n1 - 1) σ Fr.rfl hR (by omega) hbl (by omega) hlv hsl (fun e j a b => by omega) rfl)
      show Tm _ _ 180 b σ15 [(4, .int (iI k14)), (3, .int (iI w13)), (2, .int (iI n1)), (0, .ref b), (1, .int (iI r))] [] _
      refine tm_goto (tgt := 40) dX12_findLives_180 (by decide) ?_
      exact tm_sub [1, 2, 3, 4] rfl (ih _ (by omega) (w13) σ15 ((Fr.rfl.trans (Fr.sub hF (by decide) (by decide) (by decide))).trans (Fr.sub F5 (by decide) (by decide) (by decide))) R6 (by omega) f8 f10 f11 f12 rfl)
set_option maxHeartbeats 1000000 in
set_option maxRecDepth 20000 in
theorem f_X12_findLives (d : Nat) {b : Nat} {σ : MS} {r : Int} {F : Int} (hr : 0 ≤ r ∧ r < 6) (hR : RG σ) (hit : ITM σ) (hpar : PAR σ) (hok : OKS σ F r) (hl : LAB σ) (hbl : BO 59 σ) (hlex : LEX σ r) (hu : UNQ (rV σ r) (σ.2.1 9 r)) : Tm (d + 5) m_X12_findLives 0 b σ [(0, .ref b), (1, .int (iI r))] [] (fun ro σ2 => ro = none ∧ (Fr [] [46, 59] [] σ σ2) ∧ (RG σ2) ∧ (LAB σ2) ∧ (BO 59 σ2) ∧ (TGT σ2 r) ∧ (LVR σ σ2 r) ∧ (TGD σ2 r) ∧ (LDV σ2 (rV σ r) (σ.2.1 9 r))) := by
  have q1 := hit r (by omega) (by omega)
  refine tm_aload_n dX12_findLives_0 rfl 0 rfl ?_
  refine tm_iload_n dX12_findLives_1 rfl 1 rfl ?_
  refine tm_callV (M := m_X12_findLives) (pc := 2) (ix := 420) (M' := m_X12_findLabels) (As := [.int (iI r)]) (rest := []) dX12_findLives_2 ok_X12_findLabels im_X12_findLabels se_X12_findLabels ml12_420 np_X12_findLabels rfl rfl (Nat.le_of_ble_eq_true rfl) (Nat.le_of_ble_eq_true rfl) rfl (c_X12_findLabels (d + 2) (σ := σ) (r := r) (by omega) hR hit hok.jmp.lbr hl) (fun r1 σ2 hp => ?_)
  obtain ⟨rfl, f4, f5, f6, f7⟩ := hp
  show Tm _ _ 5 b σ2 [(0, .ref b), (1, .int (iI r))] [] _
  have htg0 := LEX.tgt hlex f7 f4
  have htd0 := LEX.tgd hlex f7 f4
  have hl0 := f6
  refine tm_aload_n dX12_findLives_5 rfl 0 rfl ?_
  refine tm_get (k := 9) (v := .ref (b + 1 + 7)) lay_12 dX12_findLives_6 (by decide) fl12_32 rfl ?_
  refine tm_iload_n dX12_findLives_9 rfl 1 rfl ?_
  refine tm_iald (z := r) (v := σ.2.1 9 r) dX12_findLives_10 (show mT[7]? = some (9, 0, 13) from rfl) (by omega) (by omega) (by decide) (ra_F f4 (by decide) (rfl)) ?_
  have g8 := RG.a hR 9 (r)
  refine tm_istore_n (L' := [(2, .int (iI (σ.2.1 9 r))), (0, .ref b), (1, .int (iI r))]) dX12_findLives_11 rfl (by decide) rfl ?_
  refine tm_iconst dX12_findLives_12 ?_
  refine tm_istore_n (L' := [(3, .int (iI 0)), (2, .int (iI (σ.2.1 9 r))), (0, .ref b), (1, .int (iI r))]) dX12_findLives_13 rfl (by decide) rfl ?_
  refine tm_sub [0, 1, 2, 3] rfl (l2_lives1 (d + 4) (σ0 := σ2) (r := r) (n1 := σ.2.1 9 r) (by omega) (fun k15 σ16 F11 R12 f13 f14 => ?_) _ (0) σ2 Fr.rfl f5 (by omega) (hbl.fr (by assumption) (by decide)) (fun y a c => by omega) rfl)
  show Tm _ _ 38 b σ16 [(3, .int (iI k15)), (2, .int (iI (σ.2.1 9 r))), (0, .ref b), (1, .int (iI r))] [] _
  have hz := f14
  have hb1 := f13
  have htg1 := htg0.fr F11 (by decide)
  have htd1 := htd0.fr F11 (by decide)
  refine tm_iconst dX12_findLives_38 ?_
  refine tm_istore_n (L' := [(3, .int (iI 1)), (2, .int (iI (σ.2.1 9 r))), (0, .ref b), (1, .int (iI r))]) dX12_findLives_39 rfl (by decide) rfl ?_
  refine tm_sub [0, 1, 2, 3] rfl (f_lives2 (d) (σ0 := σ16) (r := r) (n1 := σ.2.1 9 r) (F := F) (ρ := σ) (V := (rV σ r)) hr R12 (hit.fr (show Fr [] [46, 59] [] σ σ16 from ((Fr.rfl.trans (Fr.sub f4 (by decide) (by decide) (by decide))).trans (Fr.sub F11 (by decide) (by decide) (by decide)))) (by decide)) (hpar.fr (show Fr [] [46, 59] [] σ σ16 from ((Fr.rfl.trans (Fr.sub f4 (by decide) (by decide) (by decide))).trans (Fr.sub F11 (by decide) (by decide) (by decide)))) (by decide)) (hok.fr (show Fr [] [46, 59] [] σ σ16 from ((Fr.rfl.trans (Fr.sub f4 (by decide) (by decide) (by decide))).trans (Fr.sub F11 (by decide) (by decide) (by decide)))) (by decide)) (hl0.fr F11 (by decide)) htg1 (show Fr [] [46, 59] [] σ σ16 from ((Fr.rfl.trans (Fr.sub f4 (by decide) (by decide) (by decide))).trans (Fr.sub F11 (by decide) (by decide) (by decide)))) htd1 (rv_fr (show Fr [] [46, 59] [] σ σ16 from ((Fr.rfl.trans (Fr.sub f4 (by decide) (by decide) (by decide))).trans (Fr.sub F11 (by decide) (by decide) (by decide)))) (by decide)).symm hu (by rw [((show Fr [] [46, 59] [] σ σ16 from ((Fr.rfl.trans (Fr.sub f4 (by decide) (by decide) (by decide))).trans (Fr.sub F11 (by decide) (by decide) (by decide))))).2.1 9 (by decide)]) (fun w25 σ26 F19 R20 f21 f22 f23 f24 => ?_) _ (1) σ16 Fr.rfl R12 (by omega) hb1 (fun k g a c e i q => absurd (hz (192 * k + g) (by omega) (by omega)) (by omega)) (fun k g a c e i q => absurd (hz (192 * k + g) (by omega) (by omega)) (by omega)) (fun e => absurd e (by decide)) rfl)
  show Tm _ _ 183 b σ26 [(3, .int (iI w25)), (2, .int (iI (σ.2.1 9 r))), (0, .ref b), (1, .int (iI r))] [] _
  exact tm_vret rfl dX12_findLives_183 (⟨rfl, (((Fr.rfl.trans (Fr.sub f4 (by decide) (by decide) (by decide))).trans (Fr.sub F11 (by decide) (by decide) (by decide))).trans (Fr.sub F19 (by decide) (by decide) (by decide))), R20, LAB.fr (LAB.fr hl0 F11 (by decide)) F19 (by decide), f21, htg1.fr F19 (by decide), f22, htd1.fr F19 (by decide), LSD.fin f23 (rv_fr (show Fr [] [46, 59] [] σ σ26 from (((Fr.rfl.trans (Fr.sub f4 (by decide) (by decide) (by decide))).trans (Fr.sub F11 (by decide) (by decide) (by decide))).trans (Fr.sub F19 (by decide) (by decide) (by decide)))) (by decide)).symm (by rw [((show Fr [] [46, 59] [] σ σ26 from (((Fr.rfl.trans (Fr.sub f4 (by decide) (by decide) (by decide))).trans (Fr.sub F11 (by decide) (by decide) (by decide))).trans (Fr.sub F19 (by decide) (by decide) (by decide))))).2.1 9 (by decide)]) f24 (htd1.fr F19 (by decide)) hu (hok.fr (show Fr [] [46, 59] [] σ σ26 from (((Fr.rfl.trans (Fr.sub f4 (by decide) (by decide) (by decide))).trans (Fr.sub F11 (by decide) (by decide) (by decide))).trans (Fr.sub F19 (by decide) (by decide) (by decide)))) (by decide)) (hpar.fr (show Fr [] [46, 59] [] σ σ26 from (((Fr.rfl.trans (Fr.sub f4 (by decide) (by decide) (by decide))).trans (Fr.sub F11 (by decide) (by decide) (by decide))).trans (Fr.sub F19 (by decide) (by decide) (by decide)))) (by decide))⟩)
end
section
def bnd (i : It) (g : Int) : Prop := i 0 = 12 ∧ i 11 = 2 ∧ i 4 = g
def RB5 (σ0 σ : MS) (r n k0 g i : Int) : Prop := (∀ j, k0 < j → j < i → σ0.2.1 3 (220 * r + j) = 11 ∨ σ0.2.1 3 (220 * r + j) = 12) ∧ ∀ j, 0 ≤ j → j < n → rI σ (220 * r + j) = dI ((k0 < j ∧ j < i) ∧ bnd (rI σ0 (220 * r + j)) g) (tkI (rI σ0 (220 * r + k0)) (rI σ0 (220 * r + j))) (rI σ0 (220 * r + j)) ∧ σ.2.1 47 j = dI ((k0 < j ∧ j < i) ∧ bnd (rI σ0 (220 * r + j)) g) 0 (σ0.2.1 47 j)
section RB
variable {σ0 σ τ : MS} {r n k0 g i k : Int}
theorem RB5.start : RB5 σ0 σ0 r n k0 g (k0 + 1) := ⟨fun j a b => by omega, fun j _ _ => ⟨(dI_n (fun z => by omega)).symm, (dI_n (fun z => by omega)).symm⟩⟩
theorem RB5.at (h : RB5 σ0 σ r n k0 g i) {j : Int} (a : 0 ≤ j) (b : j < n) (c : ¬ (k0 < j ∧ j < i)) : rI σ (220 * r + j) = rI σ0 (220 * r + j) := ((h.2 j a b).1).trans (dI_n (fun z => c z.1))
theorem RB5.skip (h : RB5 σ0 σ r n k0 g i) (hk : σ0.2.1 3 (220 * r + i) = 11 ∨ σ0.2.1 3 (220 * r + i) = 12) (hn : ¬ bnd (rI σ0 (220 * r + i)) g) : RB5 σ0 σ r n k0 g (i + 1) := by
  refine ⟨fun j a b => ?_, fun j a b => ?_⟩
  · by_cases e : j = i
    · subst e; exact hk
    · exact h.1 j a (by omega)
  · have q := h.2 j a b
    by_cases e : j = i
    · subst e
      rw [dI_n (fun z => hn z.2), dI_n (fun z => hn z.2)]
      rw [dI_n (fun z => hn z.2), dI_n (fun z => hn z.2)] at q
      exact q
    · have c : ((k0 < j ∧ j < i + 1) ∧ bnd (rI σ0 (220 * r + j)) g) ↔ ((k0 < j ∧ j < i) ∧ bnd (rI σ0 (220 * r + j)) g) := ⟨fun z => ⟨by omega, z.2⟩, fun z => ⟨by omega, z.2⟩⟩
      rw [dI_c c, dI_c c]
      exact q
theorem RB5.take (h : RB5 σ0 σ r n k0 g i) (h0 : 0 ≤ k0 ∧ k0 < i ∧ i < n) (hk : σ0.2.1 3 (220 * r + i) = 12) (hb : bnd (rI σ0 (220 * r + i)) g) (o : OFF (220 * r + i) σ τ) (f : τ.2.1 47 = σ.2.1 47) (e : rI τ (220 * r + i) = tkI (rI σ (220 * r + k0)) (rI σ (220 * r + i))) : RB5 σ0 (sA 47 i 0 τ) r n k0 g (i + 1) := by
  have e1 := h.at (j := i) (by omega) h0.2.2 (by omega)
  have e2 := h.at (j := k0) h0.1 (by omega) (by omega)
  have fr : Fr [] [47] [] τ (sA 47 i 0 τ) := Fr.rfl.A (by decide)
  refine ⟨fun j a b => ?_, fun j a b => ?_⟩
  · by_cases w : j = i
    · subst w; exact Or.inr hk
    · exact h.1 j a (by omega)
  · rw [fr.ri (by decide)]
    by_cases w : j = i
    · subst w
      rw [dI_y ⟨⟨h0.2.1, by omega⟩, hb⟩, dI_y ⟨⟨h0.2.1, by omega⟩, hb⟩, e, e1, e2]
      exact ⟨rfl, ra_eq⟩
    · have c : ((k0 < j ∧ j < i + 1) ∧ bnd (rI σ0 (220 * r + j)) g) ↔ ((k0 < j ∧ j < i) ∧ bnd (rI σ0 (220 * r + j)) g) := ⟨fun z => ⟨by omega, z.2⟩, fun z => ⟨by omega, z.2⟩⟩
      rw [dI_c c, dI_c c, o.ri (by omega)]
      have q := h.2 j a b
      exact ⟨q.1, (ra_ne w (by rw [f])).trans q.2⟩
theorem bnd_ri {x : Int} : bnd (rI σ x) g ↔ σ.2.1 3 x = 12 ∧ σ.2.1 6 x = 2 ∧ σ.2.1 8 (4 * x) = g := by
  unfold bnd
  rw [ri0, ri11, ri4, Int.add_zero]
theorem tkA_ri {x y : Int} (h : σ.2.1 3 x = 0) : rI (fArg y 0 (σ.2.1 7 (4 * x)) (σ.2.1 8 (4 * x)) (sA 6 y (σ.2.1 7 (4 * x)) σ)) y = tkI (rI σ x) (rI σ y) := by
  unfold tkI
  rw [ri_arg0, ri_A6, ri0, if_pos h, ri3, ri4, Int.add_zero]
theorem tkB_ri {x y a b w : Int} (h : σ.2.1 3 x ≠ 0) (hw : w = σ.2.1 3 x + 2) (ha : a = σ.2.1 7 (4 * x + 1)) (hb : b = σ.2.1 8 (4 * x + 1)) : rI (fArg y 1 a b (fArg y 0 (σ.2.1 7 (4 * x)) (σ.2.1 8 (4 * x)) (sA 6 y w σ))) y = tkI (rI σ x) (rI σ y) := by
  unfold tkI
  rw [hw, ri_arg1, ri_arg0, ri_A6, ri0, if_neg h, ri3, ri4, ri5, ri6, Int.add_zero, ha, hb]
def RBE (σ0 σ : MS) (r n k0 g : Int) : Prop := ∃ i, RB5 σ0 σ r n k0 g i ∧ k0 < i ∧ i ≤ n ∧ (i = n ∨ ¬ (σ0.2.1 3 (220 * r + i) = 11 ∨ σ0.2.1 3 (220 * r + i) = 12))
def RB6 (σ0 σ : MS) (r n g k : Int) : Prop := ∀ j, 0 ≤ j → j < n → rI σ (220 * r + j) = dI (j < k ∧ σ0.2.1 47 j = 1 ∧ rI σ0 (220 * r + j) 0 = 12 ∧ rdI (rI σ0 (220 * r + j)) g) (goI (rI σ0 (220 * r + j)) 12) (rI σ0 (220 * r + j))
theorem RB6.start : RB6 σ0 σ0 r n g 0 := fun j _ _ => (dI_n (fun z => by omega)).symm
theorem RB6.at (h : RB6 σ0 σ r n g k) {j : Int} (a : 0 ≤ j) (b : j < n) (c : k ≤ j) : rI σ (220 * r + j) = rI σ0 (220 * r + j) := (h j a b).trans (dI_n (fun z => by omega))
theorem RB6.skip (h : RB6 σ0 σ r n g k) (hn : ¬ (σ0.2.1 47 k = 1 ∧ rI σ0 (220 * r + k) 0 = 12 ∧ rdI (rI σ0 (220 * r + k)) g)) : RB6 σ0 σ r n g (k + 1) := fun j a b => by
  rw [h j a b]
  by_cases e : j = k
  · subst e
    rw [dI_n (fun z => hn z.2), dI_n (fun z => hn z.2)]
  · exact dI_c ⟨fun z => ⟨by omega, z.2⟩, fun z => ⟨by omega, z.2⟩⟩
theorem gon_ri {x w : Int} : rI (fGone x w σ) x = goI (rI σ x) w := by
  unfold fGone goI
  rw [ri_arg1, ri_arg0, ri_A6]
theorem RB6.take (h : RB6 σ0 σ r n g k) (h0 : 0 ≤ k ∧ k < n) (hy : σ0.2.1 47 k = 1 ∧ rI σ0 (220 * r + k) 0 = 12 ∧ rdI (rI σ0 (220 * r + k)) g) : RB6 σ0 (fGone (220 * r + k) 12 σ) r n g (k + 1) := fun j a b => by
  by_cases e : j = k
  · subst e
    rw [dI_y ⟨by omega, hy⟩, gon_ri, h.at a b (Int.le_refl j)]
  · rw [fGone_off.ri (by omega), h j a b]
    exact dI_c ⟨fun z => ⟨by omega, z.2⟩, fun z => ⟨by omega, z.2⟩⟩
theorem rb_fin {σc σd σ2 : MS} {V : Int → It} (hV : V = rV σc r) (hn : n = σc.2.1 9 r) (h9 : σ2.2.1 9 r = n) (hk : 0 ≤ k0 ∧ k0 < n) (hg : g = V k0 1) (hd : RDV σc V n (k0 + 1) (fun j => wrT (V j) (V k0 1))) (hb : BO 47 σc) (h5 : RBE σc σd r n k0 g) (h6 : RB6 σd σ2 r n g n) : rV σ2 r = rbV V n k0 := by
  obtain ⟨i, h1, h2, h3, h4⟩ := h5
  have vin : ∀ j, 0 ≤ j → j < n → V j = rI σc (220 * r + j) := fun j a b => by rw [hV]; exact rv_in a (by rw [← hn]; exact b)
  funext j
  by_cases q : 0 ≤ j ∧ j < n
  · rw [rv_in q.1 (by rw [h9]; exact q.2), h6 j q.1 q.2]
    have e5 := h1.2 j q.1 q.2
    have nr : nrV V n k0 j ↔ k0 < j ∧ j < i := by
      constructor
      · rintro ⟨a, b, c⟩
        refine ⟨a, ?_⟩
        by_cases w : j < i
        · exact w
        · rcases h4 with z | z
          · omega
          · exfalso
            have := c i (by omega) (by omega)
            rw [vin i (by omega) (by omega)] at this
            exact z this
      · rintro ⟨a, b⟩
        refine ⟨a, q.2, fun u x y => ?_⟩
        rw [vin u (by omega) (by omega)]
        exact h1.1 u x (by omega)
    unfold rbV
    rw [dI_c (show (nrV V n k0 j ∧ V j 0 = 12 ∧ V j 11 = 2 ∧ V j 4 = V k0 1) ↔ ((k0 < j ∧ j < i) ∧ bnd (rI σc (220 * r + j)) g) by rw [nr, vin j q.1 q.2, hg]; exact Iff.rfl)]
    by_cases c : (k0 < j ∧ j < i) ∧ bnd (rI σc (220 * r + j)) g
    · rw [dI_y c, dI_y c] at e5
      rw [dI_y c, dI_n (fun z => by have := z.2.1; omega), e5.1, vin j q.1 q.2, vin k0 hk.1 hk.2]
    · rw [dI_n c, dI_n c] at e5
      rw [dI_n c, e5.1, e5.2, vin j q.1 q.2]
      refine dI_c ⟨fun z => ⟨q, (hd j q.1 (by omega)).mp z.2.1, z.2.2.1, by rw [← hg]; exact z.2.2.2⟩, fun z => ⟨q.2, (hd j q.1 (by omega)).mpr z.2.1, z.2.2.1, by rw [hg]; exact z.2.2.2⟩⟩
  · rw [show rV σ2 r j = zI from if_neg (by rw [h9]; exact q)]
    unfold rbV
    rw [dI_n (fun z => by have := z.1.1; have := z.1.2.1; omega), dI_n (fun z => q z.1), hV]
    exact (if_neg (by rw [← hn]; exact q)).symm
theorem to_rv (hr : 0 ≤ k ∧ k < σ.2.1 9 r) (h1 : ∀ j, 0 ≤ j → j < k → IEQ σ (220 * r + j) τ (220 * r + j)) (h2 : ∀ j, k ≤ j → j < σ.2.1 9 r - 1 → IEQ σ (220 * r + (j + 1)) τ (220 * r + j)) (h9 : τ.2.1 9 r = σ.2.1 9 r - 1) : rV τ r = toV (rV σ r) k := by
  funext j
  unfold toV
  by_cases q : 0 ≤ j ∧ j < σ.2.1 9 r - 1
  · rw [rv_in q.1 (by rw [h9]; exact q.2)]
    by_cases w : j < k
    · rw [if_pos w, (h1 j q.1 w).ri, rv_in q.1 (by omega)]
    · rw [if_neg w, (h2 j (by omega) q.2).ri, rv_in (by omega) (by omega)]
  · rw [show rV τ r j = zI from if_neg (by rw [h9]; exact q)]
    by_cases w : j < k
    · rw [if_pos w]; exact (if_neg (by omega)).symm
    · rw [if_neg w]; exact (if_neg (by omega)).symm
end RB
theorem rb_13 {V : Int → It} {n k i : Int} : (rbV V n k i 0 = V i 0) ∧ (rbV V n k i 1 = V i 1) := by
  unfold rbV
  by_cases a : nrV V n k i ∧ V i 0 = 12 ∧ V i 11 = 2 ∧ V i 4 = V k 1
  · rw [dI_y a]
    unfold tkI
    by_cases b : V k 0 = 0
    · rw [if_pos b]; exact ⟨rfl, rfl⟩
    · rw [if_neg b]; exact ⟨rfl, rfl⟩
  · rw [dI_n a]
    by_cases b : (0 ≤ i ∧ i < n) ∧ RCG V n (k + 1) (fun j => wrT (V j) (V k 1)) i ∧ V i 0 = 12 ∧ rdI (V i) (V k 1)
    · rw [dI_y b]; exact ⟨rfl, rfl⟩
    · rw [dI_n b]; exact ⟨rfl, rfl⟩
theorem UNQ.out {V : Int → It} {n k : Int} (h : UNQ V n) : UNQ (toV (rbV V n k) k) (n - 1) := fun i j a b c d e f g => by
  unfold toV at e f g
  by_cases x : i < k <;> by_cases y : j < k
  · rw [if_pos x] at e g; rw [if_pos y] at f g; rw [rb_13.1] at e f; rw [rb_13.2, rb_13.2] at g
    exact h i j a (by omega) c (by omega) e f g
  · rw [if_pos x] at e g; rw [if_neg y] at f g; rw [rb_13.1] at e f; rw [rb_13.2, rb_13.2] at g
    have := h i (j + 1) a (by omega) (by omega) (by omega) e f g; omega
  · rw [if_neg x] at e g; rw [if_pos y] at f g; rw [rb_13.1] at e f; rw [rb_13.2, rb_13.2] at g
    have := h (i + 1) j (by omega) (by omega) c (by omega) e f g; omega
  · rw [if_neg x] at e g; rw [if_neg y] at f g; rw [rb_13.1] at e f; rw [rb_13.2, rb_13.2] at g
    have := h (i + 1) (j + 1) (by omega) (by omega) (by omega) (by omega) e f g; omega
theorem dr1_s {V : Int → It} {n k t w : Int} {O : Int → It} (h0 : 0 ≤ k) (h : dr1 V n k.toNat = (t, w, O)) : dr1 V n (k + 1).toNat = dI (RCG V n 0 (fun _ => False) k) (t + 1, w, uZ O t (V k)) (t, w + (if V k 0 ≤ 10 then 1 else 0), O) := by
  rw [show (k + 1).toNat = k.toNat + 1 by omega]
  show dI (RCG V n 0 (fun _ => False) ((k.toNat : Nat) : Int)) ((dr1 V n k.toNat).1 + 1, (dr1 V n k.toNat).2.1, uZ (dr1 V n k.toNat).2.2 (dr1 V n k.toNat).1 (V ((k.toNat : Nat) : Int))) ((dr1 V n k.toNat).1, (dr1 V n k.toNat).2.1 + (if V ((k.toNat : Nat) : Int) 0 ≤ 10 then 1 else 0), (dr1 V n k.toNat).2.2) = _
  rw [show ((k.toNat : Nat) : Int) = k by omega, h]
theorem dr1_map {V : Int → It} {n : Int} (k : Nat) : ∃ s : Int → Int, 0 ≤ (dr1 V n k).1 ∧ (∀ j, 0 ≤ j → j < (dr1 V n k).1 → (0 ≤ s j ∧ s j < k) ∧ (dr1 V n k).2.2 j = V (s j)) ∧ ∀ i j, 0 ≤ i → i < j → j < (dr1 V n k).1 → s i < s j := by
  induction k with
  | zero => exact ⟨fun _ => 0, Int.le_refl _, fun j a b => absurd b (by show ¬ j < 0; omega), fun i j a b c => absurd c (by show ¬ j < 0; omega)⟩
  | succ k ih =>
    obtain ⟨s, h0, h1, h2⟩ := ih
    unfold dr1
    by_cases q : RCG V n 0 (fun _ => False) k
    · rw [dI_y q]
      refine ⟨fun j => if j < (dr1 V n k).1 then s j else k, by show 0 ≤ (dr1 V n k).1 + 1; omega, fun j a b => ?_, fun i j a b c => ?_⟩
      · have b' : j < (dr1 V n k).1 + 1 := b
        show (0 ≤ (if j < (dr1 V n k).1 then s j else (k : Int)) ∧ (if j < (dr1 V n k).1 then s j else (k : Int)) < ((k + 1 : Nat) : Int)) ∧ uZ (dr1 V n k).2.2 (dr1 V n k).1 (V k) j = V (if j < (dr1 V n k).1 then s j else k)
        by_cases w : j < (dr1 V n k).1
        · rw [if_pos w, uZ_ne (by omega)]
          have := h1 j a w
          exact ⟨by omega, this.2⟩
        · rw [if_neg w, show j = (dr1 V n k).1 by omega, uZ_eq]
          exact ⟨by omega, rfl⟩
      · have c' : j < (dr1 V n k).1 + 1 := c
        show (if i < (dr1 V n k).1 then s i else (k : Int)) < (if j < (dr1 V n k).1 then s j else (k : Int))
        rw [if_pos (by omega)]
        by_cases w : j < (dr1 V n k).1
        · rw [if_pos w]; exact h2 i j a b w
        · rw [if_neg w]; exact (h1 i a (by omega)).1.2
    · rw [dI_n q]
      exact ⟨s, h0, fun j a b => ⟨by have := (h1 j a b).1; omega, (h1 j a b).2⟩, h2⟩
theorem UNQ.dr1 {V : Int → It} {n : Int} (h : UNQ V n) (h0 : 0 ≤ n) : UNQ (dr1 V n n.toNat).2.2 (dr1 V n n.toNat).1 := fun i j a b c d e f g => by
  obtain ⟨s, s0, s1, s2⟩ := dr1_map (V := V) (n := n) n.toNat
  have hi := s1 i a b
  have hj := s1 j c d
  rw [hi.2] at e g
  rw [hj.2] at f g
  have q := h (s i) (s j) hi.1.1 (by omega) hj.1.1 (by omega) e f g
  by_cases x : i < j
  · have := s2 i j a x d; omega
  · by_cases y : j < i
    · have := s2 j i c y b; omega
    · omega
theorem ld_dead {σ : MS} {V : Int → It} {r k n : Int} (hV : rV σ r = V) (hn : n = σ.2.1 9 r) (hl : LDV σ V n) (h0 : 0 ≤ k ∧ k < n) (h5 : σ.2.1 3 (220 * r + k) ≤ 5) (hd : 0 ≤ σ.2.1 4 (220 * r + k) ∧ σ.2.1 4 (220 * r + k) < 192) : dead V n k ↔ ¬ LB2 σ r k (σ.2.1 4 (220 * r + k)) := by
  subst hV hn
  have e : LB2 σ r k (σ.2.1 4 (220 * r + k)) ↔ σ.2.1 59 (192 * (k + 1) + σ.2.1 4 (220 * r + k)) = 1 := by
    unfold LB2
    constructor
    · rintro (q | q)
      · exact q.2
      · have := q.1; omega
    · intro q
      exact Or.inl ⟨by omega, q⟩
  unfold dead
  rw [e, hl (k + 1) _ (by omega) (by omega) hd.1 hd.2, rv_in h0.1 h0.2, ri0, ri1]
  exact ⟨fun z => z.2, fun z => ⟨h5, z⟩⟩
theorem dead_no {σ : MS} {V : Int → It} {r k n : Int} (hV : rV σ r = V) (hn : n = σ.2.1 9 r) (h0 : 0 ≤ k ∧ k < n) (h5 : ¬ σ.2.1 3 (220 * r + k) ≤ 5) : ¬ dead V n k := fun z => by
  subst hV hn
  have := z.1
  rw [rv_in h0.1 h0.2, ri0] at this
  exact h5 this
end
