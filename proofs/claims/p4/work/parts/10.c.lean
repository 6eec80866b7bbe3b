/-- what is reached is closed, up to k -/
def CLO (σ : MS) (r k : Int) : Prop := ∀ j, 0 ≤ j → j < k → σ.2.1 47 j = 1 → (¬ (σ.2.1 3 (220 * r + j) = 8 ∨ σ.2.1 3 (220 * r + j) = 7) → σ.2.1 47 (j + 1) = 1) ∧ ((σ.2.1 3 (220 * r + j) = 8 ∨ σ.2.1 3 (220 * r + j) = 9) → σ.2.1 47 (σ.2.1 46 (σ.2.1 4 (220 * r + j))) = 1)
/-- and nothing else is reached -/
def MNR (σ : MS) (r n : Int) : Prop := ∀ k, 0 < k → k ≤ n → σ.2.1 47 k = 1 → (k < n ∧ σ.2.1 3 (220 * r + k) = 13) ∨ (σ.2.1 47 (k - 1) = 1 ∧ ¬ (σ.2.1 3 (220 * r + (k - 1)) = 8 ∨ σ.2.1 3 (220 * r + (k - 1)) = 7))
theorem MNR.put {σ : MS} {r n t : Int} (h : MNR σ r n) (ht : (t < n ∧ σ.2.1 3 (220 * r + t) = 13) ∨ (σ.2.1 47 (t - 1) = 1 ∧ ¬ (σ.2.1 3 (220 * r + (t - 1)) = 8 ∨ σ.2.1 3 (220 * r + (t - 1)) = 7))) : MNR (sA 47 t 1 σ) r n := fun k a c e => by
  have e3 : (sA 47 t 1 σ).2.1 3 = σ.2.1 3 := rfl
  have up : ∀ j, σ.2.1 47 j = 1 → (sA 47 t 1 σ).2.1 47 j = 1 := fun j q => by
    by_cases z : j = t
    · subst z; exact ra_eq
    · exact ra_ne z q
  rw [e3]
  by_cases z : k = t
  · subst z
    rcases ht with q | q
    · exact Or.inl q
    · exact Or.inr ⟨up _ q.1, q.2⟩
  · rw [show (sA 47 t 1 σ).2.1 47 k = σ.2.1 47 k from ra_ne z rfl] at e
    rcases h k a c e with q | q
    · exact Or.inl q
    · exact Or.inr ⟨up _ q.1, q.2⟩

theorem dX12_findReached_55 : decode cX12_findReached 55 = .ok (.iload 4, 2) := by decide +kernel
theorem dX12_findReached_57 : decode cX12_findReached 57 = .ok (.iconst 2, 1) := by decide +kernel
theorem dX12_findReached_58 : decode cX12_findReached 58 = .ok (.if_icmp .ge 54, 3) := by decide +kernel
theorem dX12_findReached_61 : decode cX12_findReached 61 = .ok (.aload_n 0, 1) := by decide +kernel
theorem dX12_findReached_62 : decode cX12_findReached 62 = .ok (.getfield 91, 3) := by decide +kernel
theorem dX12_findReached_65 : decode cX12_findReached 65 = .ok (.iload_n 3, 1) := by decide +kernel
theorem dX12_findReached_66 : decode cX12_findReached 66 = .ok (.baload, 1) := by decide +kernel
theorem dX12_findReached_67 : decode cX12_findReached 67 = .ok (.ifCond .eq 45, 3) := by decide +kernel
theorem dX12_findReached_70 : decode cX12_findReached 70 = .ok (.aload_n 0, 1) := by decide +kernel
theorem dX12_findReached_71 : decode cX12_findReached 71 = .ok (.iload_n 1, 1) := by decide +kernel
theorem dX12_findReached_72 : decode cX12_findReached 72 = .ok (.iload_n 3, 1) := by decide +kernel
theorem dX12_findReached_73 : decode cX12_findReached 73 = .ok (.iload 4, 2) := by decide +kernel
theorem dX12_findReached_75 : decode cX12_findReached 75 = .ok (.invokevirtual 413, 3) := by decide +kernel
theorem dX12_findReached_78 : decode cX12_findReached 78 = .ok (.istore 5, 2) := by decide +kernel
theorem dX12_findReached_80 : decode cX12_findReached 80 = .ok (.iload 5, 2) := by decide +kernel
theorem dX12_findReached_82 : decode cX12_findReached 82 = .ok (.iconst (-1), 1) := by decide +kernel
theorem dX12_findReached_83 : decode cX12_findReached 83 = .ok (.if_icmp .eq 23, 3) := by decide +kernel
theorem dX12_findReached_106 : decode cX12_findReached 106 = .ok (.iinc 4 1, 3) := by decide +kernel
theorem dX12_findReached_109 : decode cX12_findReached 109 = .ok (.goto (-54), 3) := by decide +kernel
theorem dX12_findReached_86 : decode cX12_findReached 86 = .ok (.aload_n 0, 1) := by decide +kernel
theorem dX12_findReached_87 : decode cX12_findReached 87 = .ok (.getfield 91, 3) := by decide +kernel
theorem dX12_findReached_90 : decode cX12_findReached 90 = .ok (.iload 5, 2) := by decide +kernel
theorem dX12_findReached_92 : decode cX12_findReached 92 = .ok (.baload, 1) := by decide +kernel
theorem dX12_findReached_93 : decode cX12_findReached 93 = .ok (.ifCond .ne 13, 3) := by decide +kernel
theorem dX12_findReached_96 : decode cX12_findReached 96 = .ok (.aload_n 0, 1) := by decide +kernel
theorem dX12_findReached_97 : decode cX12_findReached 97 = .ok (.getfield 91, 3) := by decide +kernel
theorem dX12_findReached_100 : decode cX12_findReached 100 = .ok (.iload 5, 2) := by decide +kernel
theorem dX12_findReached_102 : decode cX12_findReached 102 = .ok (.iconst 1, 1) := by decide +kernel
theorem dX12_findReached_103 : decode cX12_findReached 103 = .ok (.bastore, 1) := by decide +kernel
theorem dX12_findReached_104 : decode cX12_findReached 104 = .ok (.iconst 1, 1) := by decide +kernel
theorem dX12_findReached_105 : decode cX12_findReached 105 = .ok (.istore_n 2, 1) := by decide +kernel
set_option maxHeartbeats 4000000 in
set_option maxRecDepth 20000 in
theorem l_rch4 (d : Nat) {b : Nat} {σ0 : MS} {r : Int} {m : Int} {k : Int} {C0 : Int} {post : Option Value → MS → Prop} (hr : 0 ≤ r ∧ r < 6) (hR0 : RG σ0) (hit : ITM σ0) (hjm : JMP σ0 r) (htg : TGT σ0 r) (hm : m = σ0.2.1 9 r) (hk : 0 ≤ k ∧ k < m) (hx_112 : ∀ (w : Int) (i : Int) (σ : MS) , (Fr [] [47] [] σ0 σ) → (RG σ) → (w = 0 ∨ w = 1) → (BO 47 σ) → (σ.2.1 47 0 = 1) → (MNR σ r m) → ((cz (σ.2.1 47) 221 : Int) + w ≤ C0) → (w = 0 → CLO σ r (k + 1)) → Tm (d + 3) m_X12_findReached 112 b σ [(4, .int (iI i)), (3, .int (iI k)), (2, .int (iI w)), (0, .ref b), (1, .int (iI r))] [] post) : ∀ (n : Nat) (w : Int) (i : Int) (σ : MS) , (Fr [] [47] [] σ0 σ) → (RG σ) → ((w = 0 ∨ w = 1) ∧ 0 ≤ i ∧ i ≤ 2) → (BO 47 σ) → (σ.2.1 47 0 = 1) → (MNR σ r m) → ((cz (σ.2.1 47) 221 : Int) + w ≤ C0) → (w = 0 → CLO σ r k) → (w = 0 → 1 ≤ i → σ.2.1 47 k = 1 → ¬ (σ.2.1 3 (220 * r + k) = 8 ∨ σ.2.1 3 (220 * r + k) = 7) → σ.2.1 47 (k + 1) = 1) → (w = 0 → 2 ≤ i → σ.2.1 47 k = 1 → (σ.2.1 3 (220 * r + k) = 8 ∨ σ.2.1 3 (220 * r + k) = 9) → σ.2.1 47 (σ.2.1 46 (σ.2.1 4 (220 * r + k))) = 1) → (2 - i).toNat = n → Tm (d + 3) m_X12_findReached 55 b σ [(4, .int (iI i)), (3, .int (iI k)), (2, .int (iI w)), (0, .ref b), (1, .int (iI r))] [] post := by
  intro n
  induction n using Nat.strongRecOn with
  | _ n ih =>
    intro w i σ hF hR h0 hbo hz hmn hcn hcl hp0 hp1 hm
    have hit1 := hit.fr hF (by decide)
    have hjm1 := hjm.fr hF (by decide)
    have htg1 := htg.fr hF (by decide)
    have q1 := hit r (by omega) (by omega)
    have q9 : σ.2.1 9 r = σ0.2.1 9 r := by rw [hF.2.1 9 (by decide)]
    have e3 : σ.2.1 3 = σ0.2.1 3 := hF.2.1 3 (by decide)
    have e4 : σ.2.1 4 = σ0.2.1 4 := hF.2.1 4 (by decide)
    have e46 : σ.2.1 46 = σ0.2.1 46 := hF.2.1 46 (by decide)
    have q5 := htg1 k (by omega) (by omega)
    have q3 := congrFun e3 (220 * r + k)
    refine tm_iload dX12_findReached_55 0 rfl ?_
    refine tm_iconst dX12_findReached_57 ?_
    refine tm_icmp_ge (tgt := 112) dX12_findReached_58 (by decide) ⟨by omega, by omega⟩ ⟨by decide, by decide⟩ (fun h1 => ?_) (fun h1 => ?_)
    · exact tm_sub [0, 1, 2, 3, 4] rfl (hx_112 (w) (i) σ (Fr.rfl.trans (Fr.sub hF (by decide) (by decide) (by decide))) hR (by omega) hbo hz hmn hcn (fun e j a c g => by
          by_cases z : j = k
          · subst z; exact ⟨fun q => hp0 e (by omega) g q, fun q => hp1 e (by omega) g q⟩
          · exact hcl e j a (by omega) g))
    · refine tm_aload_n dX12_findReached_61 rfl 3 rfl ?_
      refine tm_get (k := 47) (v := .ref (b + 1 + 25)) lay_12 dX12_findReached_62 (by decide) fl12_91 rfl ?_
      refine tm_iload_n dX12_findReached_65 rfl 1 rfl ?_
      refine tm_zald (z := k) (v := σ.2.1 47 k) dX12_findReached_66 (show mT[25]? = some (47, 2, 221) from rfl) (by omega) (by omega) (by decide) (rfl) ?_
      have g2 := RG.a hR 47 (k)
      have := hbo (k)
      refine tm_if_eq (tgt := 112) dX12_findReached_67 (by decide) ⟨by omega, by omega⟩ (fun h3 => ?_) (fun h3 => ?_)
      · exact tm_sub [0, 1, 2, 3, 4] rfl (hx_112 (w) (i) σ (Fr.rfl.trans (Fr.sub hF (by decide) (by decide) (by decide))) hR (by omega) hbo hz hmn hcn (fun e j a c g => by
          by_cases z : j = k
          · subst z; exact ⟨fun q => hp0 e (by omega) g q, fun q => hp1 e (by omega) g q⟩
          · exact hcl e j a (by omega) g))
      · refine tm_aload_n dX12_findReached_70 rfl 3 rfl ?_
        refine tm_iload_n dX12_findReached_71 rfl 4 rfl ?_
        refine tm_iload_n dX12_findReached_72 rfl 1 rfl ?_
        refine tm_iload dX12_findReached_73 0 rfl ?_
        refine tm_callV (M := m_X12_findReached) (pc := 75) (ix := 413) (M' := m_X12_goesOn) (As := [.int (iI r), .int (iI k), .int (iI i)]) (rest := []) dX12_findReached_75 ok_X12_goesOn im_X12_goesOn se_X12_goesOn ml12_413 np_X12_goesOn rfl rfl (Nat.le_of_ble_eq_true rfl) (Nat.le_of_ble_eq_true rfl) rfl (c_X12_goesOn (d) (σ := σ) (r := r) (k := k) (how := i) (by omega) hR (by omega) (fun q => hjm1 _ (by omega) (by omega) (by omega)) (by omega)) (fun r4 σ5 hp => ?_)
        obtain ⟨v6, rfl, rfl, f7, f8, f9, f10⟩ := hp
        show Tm _ _ 78 b σ [(4, .int (iI i)), (3, .int (iI k)), (2, .int (iI w)), (0, .ref b), (1, .int (iI r))] [.int (iI v6)] _
        refine tm_istore (L' := [(5, .int (iI v6)), (4, .int (iI i)), (3, .int (iI k)), (2, .int (iI w)), (0, .ref b), (1, .int (iI r))]) dX12_findReached_78 (by decide) rfl ?_
        refine tm_iload dX12_findReached_80 0 rfl ?_
        refine tm_iconst dX12_findReached_82 ?_
        refine tm_icmp_eq (tgt := 106) dX12_findReached_83 (by decide) ⟨by omega, by omega⟩ ⟨by decide, by decide⟩ (fun h11 => ?_) (fun h11 => ?_)
        · refine tm_iinc (q0 := 1) (L' := [(4, .int (iI (i + 1))), (5, .int (iI v6)), (3, .int (iI k)), (2, .int (iI w)), (0, .ref b), (1, .int (iI r))]) dX12_findReached_106 rfl (by decide) rfl ?_
          refine tm_goto (tgt := 55) dX12_findReached_109 (by decide) ?_
          exact tm_sub [0, 2, 3, 4, 5] rfl (ih _ (by omega) (w) (i + 1) σ (Fr.rfl.trans (Fr.sub hF (by decide) (by decide) (by decide))) hR (by omega) hbo hz hmn (by omega) hcl (fun e a g q => by
            by_cases z : i = 0
            · have hv : v6 = k + 1 := by omega
              rw [← hv]; omega
            · exact hp0 e (by omega) g q) (fun e a g q => by
            have hv : v6 = σ.2.1 46 (σ.2.1 4 (220 * r + k)) := by omega
            have := q5 q
            rw [← hv]; omega) rfl)
        · refine tm_aload_n dX12_findReached_86 rfl 4 rfl ?_
          refine tm_get (k := 47) (v := .ref (b + 1 + 25)) lay_12 dX12_findReached_87 (by decide) fl12_91 rfl ?_
          refine tm_iload dX12_findReached_90 0 rfl ?_
          refine tm_zald (z := v6) (v := σ.2.1 47 v6) dX12_findReached_92 (show mT[25]? = some (47, 2, 221) from rfl) (by omega) (by omega) (by decide) (rfl) ?_
          have g12 := RG.a hR 47 (v6)
          have := hbo (v6)
          refine tm_if_ne (tgt := 106) dX12_findReached_93 (by decide) ⟨by omega, by omega⟩ (fun h13 => ?_) (fun h13 => ?_)
          · refine tm_iinc (q0 := 1) (L' := [(4, .int (iI (i + 1))), (5, .int (iI v6)), (3, .int (iI k)), (2, .int (iI w)), (0, .ref b), (1, .int (iI r))]) dX12_findReached_106 rfl (by decide) rfl ?_
            refine tm_goto (tgt := 55) dX12_findReached_109 (by decide) ?_
            exact tm_sub [0, 2, 3, 4, 5] rfl (ih _ (by omega) (w) (i + 1) σ (Fr.rfl.trans (Fr.sub hF (by decide) (by decide) (by decide))) hR (by omega) hbo hz hmn (by omega) hcl (fun e a g q => by
            by_cases z : i = 0
            · have hv : v6 = k + 1 := by omega
              rw [← hv]; omega
            · exact hp0 e (by omega) g q) (fun e a g q => by
            have hv : v6 = σ.2.1 46 (σ.2.1 4 (220 * r + k)) := by omega
            have := q5 q
            rw [← hv]; omega) rfl)
          · refine tm_aload_n dX12_findReached_96 rfl 4 rfl ?_
            refine tm_get (k := 47) (v := .ref (b + 1 + 25)) lay_12 dX12_findReached_97 (by decide) fl12_91 rfl ?_
            refine tm_iload dX12_findReached_100 0 rfl ?_
            refine tm_iconst dX12_findReached_102 ?_
            refine tm_zast (z := v6) (v := 1) dX12_findReached_103 (show mT[25]? = some (47, 2, 221) from rfl) (by omega) (by omega) (by decide) (by omega) ?_
            refine tm_iconst dX12_findReached_104 ?_
            refine tm_istore_n (L' := [(2, .int (iI 1)), (5, .int (iI v6)), (4, .int (iI i)), (3, .int (iI k)), (0, .ref b), (1, .int (iI r))]) dX12_findReached_105 rfl (by decide) rfl ?_
            refine tm_iinc (q0 := 2) (L' := [(4, .int (iI (i + 1))), (2, .int (iI 1)), (5, .int (iI v6)), (3, .int (iI k)), (0, .ref b), (1, .int (iI r))]) dX12_findReached_106 rfl (by decide) rfl ?_
            refine tm_goto (tgt := 55) dX12_findReached_109 (by decide) ?_
            exact tm_sub [0, 3, 1, 4, 5] rfl (ih _ (by omega) (1) (i + 1) (sA 47 (v6) (1) σ) ((Fr.rfl.trans (Fr.sub hF (by decide) (by decide) (by decide))).A (by decide)) (hR.A (by omega)) (by omega) (hbo.A (by omega)) (by
            by_cases z : (0 : Int) = v6
            · rw [z]; exact ra_eq
            · exact ra_ne z hz) (hmn.put (by
            by_cases z : i = 1
            · left; have hv : v6 = σ.2.1 46 (σ.2.1 4 (220 * r + k)) := by omega
              rw [hv]; have := q5 (by omega); exact ⟨by omega, this.2.2⟩
            · right; have hv : v6 = k + 1 := by omega
              rw [hv, show k + 1 - 1 = k by omega]; exact ⟨by omega, by omega⟩)) (by have hcz := cz_sA (σ := σ) (k := 47) (n := 221) (z := v6) (v := 1) (by omega) (by omega) (by omega) (by decide); omega) (fun e => absurd e (by decide)) (fun e => absurd e (by decide)) (fun e => absurd e (by decide)) rfl)
theorem dX12_findReached_42 : decode cX12_findReached 42 = .ok (.iload_n 3, 1) := by decide +kernel
theorem dX12_findReached_43 : decode cX12_findReached 43 = .ok (.aload_n 0, 1) := by decide +kernel
theorem dX12_findReached_44 : decode cX12_findReached 44 = .ok (.getfield 32, 3) := by decide +kernel
theorem dX12_findReached_47 : decode cX12_findReached 47 = .ok (.iload_n 1, 1) := by decide +kernel
theorem dX12_findReached_48 : decode cX12_findReached 48 = .ok (.iaload, 1) := by decide +kernel
theorem dX12_findReached_49 : decode cX12_findReached 49 = .ok (.if_icmp .ge 69, 3) := by decide +kernel
theorem dX12_findReached_52 : decode cX12_findReached 52 = .ok (.iconst 0, 1) := by decide +kernel
theorem dX12_findReached_53 : decode cX12_findReached 53 = .ok (.istore 4, 2) := by decide +kernel
theorem dX12_findReached_112 : decode cX12_findReached 112 = .ok (.iinc 3 1, 3) := by decide +kernel
theorem dX12_findReached_115 : decode cX12_findReached 115 = .ok (.goto (-73), 3) := by decide +kernel
set_option maxHeartbeats 4000000 in
set_option maxRecDepth 20000 in
theorem l_rch3 (d : Nat) {b : Nat} {σ0 : MS} {r : Int} {m : Int} {C0 : Int} {post : Option Value → MS → Prop} (hr : 0 ≤ r ∧ r < 6) (hR0 : RG σ0) (hit : ITM σ0) (hjm : JMP σ0 r) (htg : TGT σ0 r) (hm : m = σ0.2.1 9 r) (hx_118 : ∀ (w : Int) (k : Int) (σ : MS) , (Fr [] [47] [] σ0 σ) → (RG σ) → (w = 0 ∨ w = 1) → (BO 47 σ) → (σ.2.1 47 0 = 1) → (MNR σ r m) → ((cz (σ.2.1 47) 221 : Int) + w ≤ C0) → (w = 0 → CLO σ r m) → Tm (d + 3) m_X12_findReached 118 b σ [(3, .int (iI k)), (2, .int (iI w)), (0, .ref b), (1, .int (iI r))] [] post) : ∀ (n : Nat) (w : Int) (k : Int) (σ : MS) , (Fr [] [47] [] σ0 σ) → (RG σ) → ((w = 0 ∨ w = 1) ∧ 0 ≤ k ∧ k ≤ m) → (BO 47 σ) → (σ.2.1 47 0 = 1) → (MNR σ r m) → ((cz (σ.2.1 47) 221 : Int) + w ≤ C0) → (w = 0 → CLO σ r k) → (m - k).toNat = n → Tm (d + 3) m_X12_findReached 42 b σ [(3, .int (iI k)), (2, .int (iI w)), (0, .ref b), (1, .int (iI r))] [] post := by
  intro n
  induction n using Nat.strongRecOn with
  | _ n ih =>
    intro w k σ hF hR h0 hbo hz hmn hcn hcl hm
    have hit1 := hit.fr hF (by decide)
    have hjm1 := hjm.fr hF (by decide)
    have htg1 := htg.fr hF (by decide)
    have q1 := hit r (by omega) (by omega)
    have q9 : σ.2.1 9 r = σ0.2.1 9 r := by rw [hF.2.1 9 (by decide)]
    have e3 : σ.2.1 3 = σ0.2.1 3 := hF.2.1 3 (by decide)
    have e4 : σ.2.1 4 = σ0.2.1 4 := hF.2.1 4 (by decide)
    have e46 : σ.2.1 46 = σ0.2.1 46 := hF.2.1 46 (by decide)
    refine tm_iload_n dX12_findReached_42 rfl 0 rfl ?_
    refine tm_aload_n dX12_findReached_43 rfl 2 rfl ?_
    refine tm_get (k := 9) (v := .ref (b + 1 + 7)) lay_12 dX12_findReached_44 (by decide) fl12_32 rfl ?_
    refine tm_iload_n dX12_findReached_47 rfl 3 rfl ?_
    refine tm_iald (z := r) (v := σ0.2.1 9 r) dX12_findReached_48 (show mT[7]? = some (9, 0, 13) from rfl) (by omega) (by omega) (by decide) (ra_F hF (by decide) (rfl)) ?_
    have g1 := RG.a hR0 9 (r)
    refine tm_icmp_ge (tgt := 118) dX12_findReached_49 (by decide) ⟨by omega, by omega⟩ ⟨by omega, by omega⟩ (fun h2 => ?_) (fun h2 => ?_)
    · exact tm_sub [0, 1, 2, 3] rfl (hx_118 (w) (k) σ (Fr.rfl.trans (Fr.sub hF (by decide) (by decide) (by decide))) hR (by omega) hbo hz hmn hcn (fun e j a c => hcl e j a (by omega)))
    · refine tm_iconst dX12_findReached_52 ?_
      refine tm_istore (L' := [(4, .int (iI 0)), (3, .int (iI k)), (2, .int (iI w)), (0, .ref b), (1, .int (iI r))]) dX12_findReached_53 (by decide) rfl ?_
      refine tm_sub [0, 1, 2, 3, 4] rfl (l_rch4 (d) (σ0 := σ) (r := r) (k := k) (m := m) (C0 := C0) hr hR hit1 hjm1 htg1 (by omega) (by omega) (fun w14 i15 σ16 F6 R7 f8 f9 f10 f11 f12 f13 => ?_) _ (w) (0) σ Fr.rfl hR (by omega) hbo hz hmn (by omega) hcl (fun e a => by omega) (fun e a => by omega) rfl)
      show Tm _ _ 112 b σ16 [(4, .int (iI i15)), (3, .int (iI k)), (2, .int (iI w14)), (0, .ref b), (1, .int (iI r))] [] _
      refine tm_iinc (q0 := 1) (L' := [(3, .int (iI (k + 1))), (4, .int (iI i15)), (2, .int (iI w14)), (0, .ref b), (1, .int (iI r))]) dX12_findReached_112 rfl (by decide) rfl ?_
      refine tm_goto (tgt := 42) dX12_findReached_115 (by decide) ?_
      exact tm_sub [0, 2, 3, 4] rfl (ih _ (by omega) (w14) (k + 1) σ16 ((Fr.rfl.trans (Fr.sub hF (by decide) (by decide) (by decide))).trans (Fr.sub F6 (by decide) (by decide) (by decide))) R7 (by omega) (by assumption) (by assumption) (by assumption) (by omega) (by assumption) rfl)
theorem dX12_findReached_34 : decode cX12_findReached 34 = .ok (.iload_n 2, 1) := by decide +kernel
theorem dX12_findReached_35 : decode cX12_findReached 35 = .ok (.ifCond .eq 86, 3) := by decide +kernel
theorem dX12_findReached_38 : decode cX12_findReached 38 = .ok (.iconst 0, 1) := by decide +kernel
theorem dX12_findReached_39 : decode cX12_findReached 39 = .ok (.istore_n 2, 1) := by decide +kernel
theorem dX12_findReached_40 : decode cX12_findReached 40 = .ok (.iconst 0, 1) := by decide +kernel
theorem dX12_findReached_41 : decode cX12_findReached 41 = .ok (.istore_n 3, 1) := by decide +kernel
theorem dX12_findReached_118 : decode cX12_findReached 118 = .ok (.goto (-84), 3) := by decide +kernel
set_option maxHeartbeats 4000000 in
set_option maxRecDepth 20000 in
theorem l_rch2 (d : Nat) {b : Nat} {σ0 : MS} {r : Int} {m : Int} {post : Option Value → MS → Prop} (hr : 0 ≤ r ∧ r < 6) (hR0 : RG σ0) (hit : ITM σ0) (hjm : JMP σ0 r) (htg : TGT σ0 r) (hm : m = σ0.2.1 9 r) (hx_121 : ∀ (w : Int) (σ : MS) , (Fr [] [47] [] σ0 σ) → (RG σ) → (BO 47 σ) → (σ.2.1 47 0 = 1) → (MNR σ r m) → (CLO σ r m) → Tm (d + 3) m_X12_findReached 121 b σ [(2, .int (iI w)), (0, .ref b), (1, .int (iI r))] [] post) : ∀ (n : Nat) (w : Int) (σ : MS) , (Fr [] [47] [] σ0 σ) → (RG σ) → (w = 0 ∨ w = 1) → (BO 47 σ) → (σ.2.1 47 0 = 1) → (MNR σ r m) → (w = 0 → CLO σ r m) → ((cz (σ.2.1 47) 221 : Int) + w).toNat = n → Tm (d + 3) m_X12_findReached 34 b σ [(2, .int (iI w)), (0, .ref b), (1, .int (iI r))] [] post := by
  intro n
  induction n using Nat.strongRecOn with
  | _ n ih =>
    intro w σ hF hR h0 hbo hz hmn hcl hm
    have hit1 := hit.fr hF (by decide)
    have hjm1 := hjm.fr hF (by decide)
    have htg1 := htg.fr hF (by decide)
    have q1 := hit r (by omega) (by omega)
    have q9 : σ.2.1 9 r = σ0.2.1 9 r := by rw [hF.2.1 9 (by decide)]
    have e3 : σ.2.1 3 = σ0.2.1 3 := hF.2.1 3 (by decide)
    have e4 : σ.2.1 4 = σ0.2.1 4 := hF.2.1 4 (by decide)
    have e46 : σ.2.1 46 = σ0.2.1 46 := hF.2.1 46 (by decide)
    refine tm_iload_n dX12_findReached_34 rfl 0 rfl ?_
    refine tm_if_eq (tgt := 121) dX12_findReached_35 (by decide) ⟨by omega, by omega⟩ (fun h1 => ?_) (fun h1 => ?_)
    · exact tm_sub [0, 1, 2] rfl (hx_121 (w) σ (Fr.rfl.trans (Fr.sub hF (by decide) (by decide) (by decide))) hR hbo hz hmn (hcl (by omega)))
    · refine tm_iconst dX12_findReached_38 ?_
      refine tm_istore_n (L' := [(2, .int (iI 0)), (0, .ref b), (1, .int (iI r))]) dX12_findReached_39 rfl (by decide) rfl ?_
      refine tm_iconst dX12_findReached_40 ?_
      refine tm_istore_n (L' := [(3, .int (iI 0)), (2, .int (iI 0)), (0, .ref b), (1, .int (iI r))]) dX12_findReached_41 rfl (by decide) rfl ?_
      refine tm_sub [0, 1, 2, 3] rfl (l_rch3 (d) (σ0 := σ) (r := r) (m := m) (C0 := (cz (σ.2.1 47) 221 : Int)) hr hR hit1 hjm1 htg1 (by omega) (fun w13 k14 σ15 F5 R6 f7 f8 f9 f10 f11 f12 => ?_) _ (0) (0) σ Fr.rfl hR (by omega) hbo hz hmn (by omega) (fun e j a c => by omega) rfl)
      show Tm _ _ 118 b σ15 [(3, .int (iI k14)), (2, .int (iI w13)), (0, .ref b), (1, .int (iI r))] [] _
      refine tm_goto (tgt := 34) dX12_findReached_118 (by decide) ?_
      exact tm_sub [1, 2, 3] rfl (ih _ (by omega) (w13) σ15 ((Fr.rfl.trans (Fr.sub hF (by decide) (by decide) (by decide))).trans (Fr.sub F5 (by decide) (by decide) (by decide))) R6 (by omega) (by assumption) (by assumption) (by assumption) (by assumption) rfl)
theorem dX12_findReached_2 : decode cX12_findReached 2 = .ok (.iload_n 2, 1) := by decide +kernel
theorem dX12_findReached_3 : decode cX12_findReached 3 = .ok (.aload_n 0, 1) := by decide +kernel
theorem dX12_findReached_4 : decode cX12_findReached 4 = .ok (.getfield 32, 3) := by decide +kernel
theorem dX12_findReached_7 : decode cX12_findReached 7 = .ok (.iload_n 1, 1) := by decide +kernel
theorem dX12_findReached_8 : decode cX12_findReached 8 = .ok (.iaload, 1) := by decide +kernel
theorem dX12_findReached_9 : decode cX12_findReached 9 = .ok (.if_icmp .gt 16, 3) := by decide +kernel
theorem dX12_findReached_12 : decode cX12_findReached 12 = .ok (.aload_n 0, 1) := by decide +kernel
theorem dX12_findReached_13 : decode cX12_findReached 13 = .ok (.getfield 91, 3) := by decide +kernel
theorem dX12_findReached_16 : decode cX12_findReached 16 = .ok (.iload_n 2, 1) := by decide +kernel
theorem dX12_findReached_17 : decode cX12_findReached 17 = .ok (.iconst 0, 1) := by decide +kernel
theorem dX12_findReached_18 : decode cX12_findReached 18 = .ok (.bastore, 1) := by decide +kernel
theorem dX12_findReached_19 : decode cX12_findReached 19 = .ok (.iinc 2 1, 3) := by decide +kernel
theorem dX12_findReached_22 : decode cX12_findReached 22 = .ok (.goto (-20), 3) := by decide +kernel
set_option maxHeartbeats 4000000 in
set_option maxRecDepth 20000 in
theorem l_rch1 (d : Nat) {b : Nat} {σ0 : MS} {r : Int} {post : Option Value → MS → Prop} (hr : 0 ≤ r ∧ r < 6) (hR0 : RG σ0) (hit : 0 ≤ σ0.2.1 9 r ∧ σ0.2.1 9 r ≤ 220) (hx_25 : ∀ (k : Int) (σ : MS) , (Fr [] [47] [] σ0 σ) → (RG σ) → (BO 47 σ) → (∀ j, 0 ≤ j → j ≤ σ0.2.1 9 r → σ.2.1 47 j = 0) → Tm (d + 1) m_X12_findReached 25 b σ [(2, .int (iI k)), (0, .ref b), (1, .int (iI r))] [] post) : ∀ (n : Nat) (k : Int) (σ : MS) , (Fr [] [47] [] σ0 σ) → (RG σ) → (0 ≤ k ∧ k ≤ 221) → (BO 47 σ) → (∀ j, 0 ≤ j → j < k → σ.2.1 47 j = 0) → (221 - k).toNat = n → Tm (d + 1) m_X12_findReached 2 b σ [(2, .int (iI k)), (0, .ref b), (1, .int (iI r))] [] post := by
  intro n
  induction n using Nat.strongRecOn with
  | _ n ih =>
    intro k σ hF hR h0 hbo hj hm
    refine tm_iload_n dX12_findReached_2 rfl 0 rfl ?_
    refine tm_aload_n dX12_findReached_3 rfl 1 rfl ?_
    refine tm_get (k := 9) (v := .ref (b + 1 + 7)) lay_12 dX12_findReached_4 (by decide) fl12_32 rfl ?_
    refine tm_iload_n dX12_findReached_7 rfl 2 rfl ?_
    refine tm_iald (z := r) (v := σ0.2.1 9 r) dX12_findReached_8 (show mT[7]? = some (9, 0, 13) from rfl) (by omega) (by omega) (by decide) (ra_F hF (by decide) (rfl)) ?_
    have g1 := RG.a hR0 9 (r)
    refine tm_icmp_gt (tgt := 25) dX12_findReached_9 (by decide) ⟨by omega, by omega⟩ ⟨by omega, by omega⟩ (fun h2 => ?_) (fun h2 => ?_)
    · exact tm_sub [0, 1, 2] rfl (hx_25 (k) σ (Fr.rfl.trans (Fr.sub hF (by decide) (by decide) (by decide))) hR hbo (fun j a c => hj j a (by omega)))
    · refine tm_aload_n dX12_findReached_12 rfl 1 rfl ?_
      refine tm_get (k := 47) (v := .ref (b + 1 + 25)) lay_12 dX12_findReached_13 (by decide) fl12_91 rfl ?_
      refine tm_iload_n dX12_findReached_16 rfl 0 rfl ?_
      refine tm_iconst dX12_findReached_17 ?_
      refine tm_zast (z := k) (v := 0) dX12_findReached_18 (show mT[25]? = some (47, 2, 221) from rfl) (by omega) (by omega) (by decide) (by omega) ?_
      refine tm_iinc (q0 := 0) (L' := [(2, .int (iI (k + 1))), (0, .ref b), (1, .int (iI r))]) dX12_findReached_19 rfl (by decide) rfl ?_
      refine tm_goto (tgt := 2) dX12_findReached_22 (by decide) ?_
      exact tm_sub [0, 1, 2] rfl (ih _ (by omega) (k + 1) (sA 47 (k) (0) σ) ((Fr.rfl.trans (Fr.sub hF (by decide) (by decide) (by decide))).A (by decide)) (hR.A (by omega)) (by omega) (hbo.A (by omega)) (fun j a c => by
          by_cases z : j = k
          · subst z; exact ra_eq
          · exact ra_ne z (hj j a (by omega))) rfl)
theorem dX12_findReached_0 : decode cX12_findReached 0 = .ok (.iconst 0, 1) := by decide +kernel
theorem dX12_findReached_1 : decode cX12_findReached 1 = .ok (.istore_n 2, 1) := by decide +kernel
theorem dX12_findReached_25 : decode cX12_findReached 25 = .ok (.aload_n 0, 1) := by decide +kernel
theorem dX12_findReached_26 : decode cX12_findReached 26 = .ok (.getfield 91, 3) := by decide +kernel
theorem dX12_findReached_29 : decode cX12_findReached 29 = .ok (.iconst 0, 1) := by decide +kernel
theorem dX12_findReached_30 : decode cX12_findReached 30 = .ok (.iconst 1, 1) := by decide +kernel
theorem dX12_findReached_31 : decode cX12_findReached 31 = .ok (.bastore, 1) := by decide +kernel
theorem dX12_findReached_32 : decode cX12_findReached 32 = .ok (.iconst 1, 1) := by decide +kernel
theorem dX12_findReached_33 : decode cX12_findReached 33 = .ok (.istore_n 2, 1) := by decide +kernel
theorem dX12_findReached_121 : decode cX12_findReached 121 = .ok (.return_, 1) := by decide +kernel
set_option maxHeartbeats 4000000 in
set_option maxRecDepth 20000 in
theorem c_X12_findReached (d : Nat) {b : Nat} {σ : MS} {r : Int} (hr : 0 ≤ r ∧ r < 6) (hR : RG σ) (hit : ITM σ) (hjm : JMP σ r) (htg : TGT σ r) (hbo : BO 47 σ) : Tm (d + 3) m_X12_findReached 0 b σ [(0, .ref b), (1, .int (iI r))] [] (fun ro σ2 => ro = none ∧ (Fr [] [47] [] σ σ2) ∧ (RG σ2) ∧ (BO 47 σ2) ∧ (σ2.2.1 47 0 = 1) ∧ (MNR σ2 r (σ.2.1 9 r)) ∧ (CLO σ2 r (σ.2.1 9 r))) := by
  have q1 := hit r (by omega) (by omega)
  refine tm_iconst dX12_findReached_0 ?_
  refine tm_istore_n (L' := [(2, .int (iI 0)), (0, .ref b), (1, .int (iI r))]) dX12_findReached_1 rfl (by decide) rfl ?_
  refine tm_sub [0, 1, 2] rfl (l_rch1 (d + 2) (σ0 := σ) (r := r) (by omega) hR q1 (fun k7 σ8 F3 R4 f5 f6 => ?_) _ (0) σ Fr.rfl hR (by omega) hbo (fun j a c => by omega) rfl)
  show Tm _ _ 25 b σ8 [(2, .int (iI k7)), (0, .ref b), (1, .int (iI r))] [] _
  have hb1 := f5
  have hj1 := f6
  refine tm_aload_n dX12_findReached_25 rfl 1 rfl ?_
  refine tm_get (k := 47) (v := .ref (b + 1 + 25)) lay_12 dX12_findReached_26 (by decide) fl12_91 rfl ?_
  refine tm_iconst dX12_findReached_29 ?_
  refine tm_iconst dX12_findReached_30 ?_
  refine tm_zast (z := 0) (v := 1) dX12_findReached_31 (show mT[25]? = some (47, 2, 221) from rfl) (by omega) (by omega) (by decide) (by omega) ?_
  refine tm_iconst dX12_findReached_32 ?_
  refine tm_istore_n (L' := [(2, .int (iI 1)), (0, .ref b), (1, .int (iI r))]) dX12_findReached_33 rfl (by decide) rfl ?_
  refine tm_sub [0, 1, 2] rfl (l_rch2 (d) (σ0 := (sA 47 (0) (1) σ8)) (r := r) (m := σ.2.1 9 r) hr (R4.A (by omega)) (hit.fr (show Fr [] [47] [] σ (sA 47 (0) (1) σ8) from ((Fr.rfl.trans (Fr.sub F3 (by decide) (by decide) (by decide))).A (by decide))) (by decide)) (hjm.fr (show Fr [] [47] [] σ (sA 47 (0) (1) σ8) from ((Fr.rfl.trans (Fr.sub F3 (by decide) (by decide) (by decide))).A (by decide))) (by decide)) (htg.fr (show Fr [] [47] [] σ (sA 47 (0) (1) σ8) from ((Fr.rfl.trans (Fr.sub F3 (by decide) (by decide) (by decide))).A (by decide))) (by decide)) (by rw [((show Fr [] [47] [] σ (sA 47 (0) (1) σ8) from ((Fr.rfl.trans (Fr.sub F3 (by decide) (by decide) (by decide))).A (by decide)))).2.1 9 (by decide)]) (fun w17 σ18 F11 R12 f13 f14 f15 f16 => ?_) _ (1) (sA 47 (0) (1) σ8) Fr.rfl (R4.A (by omega)) (by omega) (hb1.A (by omega)) ra_eq (fun k a c e => by rw [show _ = (0 : Int) from (ra_ne (by omega) (hj1 k (by omega) c))] at e; omega) (fun e => absurd e (by decide)) rfl)
  show Tm _ _ 121 b σ18 [(2, .int (iI w17)), (0, .ref b), (1, .int (iI r))] [] _
  exact tm_vret rfl dX12_findReached_121 (⟨rfl, (((Fr.rfl.trans (Fr.sub F3 (by decide) (by decide) (by decide))).A (by decide)).trans (Fr.sub F11 (by decide) (by decide) (by decide))), R12, f13, f14, f15, f16⟩)
