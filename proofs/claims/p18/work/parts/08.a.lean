section
theorem Fr.q {ss ks js : List Nat} {σ τ : MS} (f : Fr ss ks js σ τ) {l : List Nat} (h : ∀ k ∈ l, k ∉ ks) {k : Nat} (hk : k ∈ l) : τ.2.1 k = σ.2.1 k := f.2.1 k (h k hk)
theorem nArgs.fr {ss ks js : List Nat} {σ τ : MS} (f : Fr ss ks js σ τ) (h : ∀ k ∈ [3, 4, 5, 6, 7, 8, 9, 11], k ∉ ks) : nArgs τ = nArgs σ := by
  funext x
  unfold nArgs
  rw [f.q h (k := 3) (by decide), f.q h (k := 5) (by decide), f.q h (k := 6) (by decide), f.q h (k := 11) (by decide)]
theorem OKI.fr {ss ks js : List Nat} {σ τ : MS} (f : Fr ss ks js σ τ) (h : ∀ k ∈ [3, 4, 5, 6, 7, 8, 9, 11], k ∉ ks) : OKI τ = OKI σ := by
  funext F x
  unfold OKI
  rw [nArgs.fr f h, f.q h (k := 3) (by decide), f.q h (k := 4) (by decide), f.q h (k := 5) (by decide), f.q h (k := 6) (by decide), f.q h (k := 7) (by decide), f.q h (k := 8) (by decide)]
theorem OKS.fr {ss ks js : List Nat} {σ τ : MS} {F r : Int} (hok : OKS σ F r) (f : Fr ss ks js σ τ) (h : ∀ k ∈ [3, 4, 5, 6, 7, 8, 9, 11], k ∉ ks) : OKS τ F r := fun k a b => by
  rw [OKI.fr f h]
  exact hok k a (by rw [← f.q h (k := 9) (by decide)]; exact b)
theorem JMP.fr {ss ks js : List Nat} {σ τ : MS} {r : Int} (hok : JMP σ r) (f : Fr ss ks js σ τ) (h : ∀ k ∈ [3, 4, 9], k ∉ ks) : JMP τ r := fun k a b => by
  rw [f.q h (k := 3) (by decide), f.q h (k := 4) (by decide)]
  exact hok k a (by rw [← f.q h (k := 9) (by decide)]; exact b)
theorem LBR.fr {ss ks js : List Nat} {σ τ : MS} {r : Int} (hok : LBR σ r) (f : Fr ss ks js σ τ) (h : ∀ k ∈ [3, 4, 9], k ∉ ks) : LBR τ r := fun k a b => by
  rw [f.q h (k := 3) (by decide), f.q h (k := 4) (by decide)]
  exact hok k a (by rw [← f.q h (k := 9) (by decide)]; exact b)
theorem OKF.fr {ss ks js : List Nat} {σ τ : MS} {r : Int} (hok : OKF σ r) (f : Fr ss ks js σ τ) (h : ∀ k ∈ [12, 14, 15, 18], k ∉ ks) : OKF τ r := by
  unfold OKF
  rw [f.q h (k := 12) (by decide), f.q h (k := 14) (by decide), f.q h (k := 15) (by decide), f.q h (k := 18) (by decide)]
  exact hok

theorem ml12_433 : Cond.methodLink RX12 433 yX12_livesBehind ∈ pWW := pw9 (List.mem_of_getElem? (i := 133) rfl) rfl
theorem dX12_findLives_68 : decode cX12_findLives 68 = .ok (.iload 6, 2) := by decide +kernel
theorem dX12_findLives_70 : decode cX12_findLives 70 = .ok (.sipush 192, 3) := by decide +kernel
theorem dX12_findLives_73 : decode cX12_findLives 73 = .ok (.if_icmp .ge 101, 3) := by decide +kernel
theorem dX12_findLives_76 : decode cX12_findLives 76 = .ok (.aload_n 0, 1) := by decide +kernel
theorem dX12_findLives_77 : decode cX12_findLives 77 = .ok (.iload_n 1, 1) := by decide +kernel
theorem dX12_findLives_78 : decode cX12_findLives 78 = .ok (.iload 4, 2) := by decide +kernel
theorem dX12_findLives_80 : decode cX12_findLives 80 = .ok (.iload 6, 2) := by decide +kernel
theorem dX12_findLives_82 : decode cX12_findLives 82 = .ok (.invokevirtual 433, 3) := by decide +kernel
theorem dX12_findLives_85 : decode cX12_findLives 85 = .ok (.ifCond .eq 14, 3) := by decide +kernel
theorem dX12_findLives_99 : decode cX12_findLives 99 = .ok (.aload_n 0, 1) := by decide +kernel
theorem dX12_findLives_100 : decode cX12_findLives 100 = .ok (.getfield 13, 3) := by decide +kernel
theorem dX12_findLives_103 : decode cX12_findLives 103 = .ok (.iload 5, 2) := by decide +kernel
theorem dX12_findLives_105 : decode cX12_findLives 105 = .ok (.iaload, 1) := by decide +kernel
theorem dX12_findLives_106 : decode cX12_findLives 106 = .ok (.bipush 12, 2) := by decide +kernel
theorem dX12_findLives_108 : decode cX12_findLives 108 = .ok (.if_icmp .eq 18, 3) := by decide +kernel
theorem dX12_findLives_126 : decode cX12_findLives 126 = .ok (.iconst 0, 1) := by decide +kernel
theorem dX12_findLives_127 : decode cX12_findLives 127 = .ok (.istore 7, 2) := by decide +kernel
theorem dX12_findLives_129 : decode cX12_findLives 129 = .ok (.iload 7, 2) := by decide +kernel
theorem dX12_findLives_131 : decode cX12_findLives 131 = .ok (.ifCond .eq 37, 3) := by decide +kernel
theorem dX12_findLives_168 : decode cX12_findLives 168 = .ok (.iinc 6 1, 3) := by decide +kernel
theorem dX12_findLives_171 : decode cX12_findLives 171 = .ok (.goto (-103), 3) := by decide +kernel
theorem dX12_findLives_111 : decode cX12_findLives 111 = .ok (.aload_n 0, 1) := by decide +kernel
theorem dX12_findLives_112 : decode cX12_findLives 112 = .ok (.iload 5, 2) := by decide +kernel
theorem dX12_findLives_114 : decode cX12_findLives 114 = .ok (.iload 6, 2) := by decide +kernel
theorem dX12_findLives_116 : decode cX12_findLives 116 = .ok (.invokevirtual 439, 3) := by decide +kernel
theorem dX12_findLives_119 : decode cX12_findLives 119 = .ok (.ifCond .eq 7, 3) := by decide +kernel
theorem dX12_findLives_122 : decode cX12_findLives 122 = .ok (.iconst 1, 1) := by decide +kernel
theorem dX12_findLives_123 : decode cX12_findLives 123 = .ok (.goto 4, 3) := by decide +kernel
theorem dX12_findLives_134 : decode cX12_findLives 134 = .ok (.aload_n 0, 1) := by decide +kernel
theorem dX12_findLives_135 : decode cX12_findLives 135 = .ok (.getfield 130, 3) := by decide +kernel
theorem dX12_findLives_138 : decode cX12_findLives 138 = .ok (.sipush 192, 3) := by decide +kernel
theorem dX12_findLives_141 : decode cX12_findLives 141 = .ok (.iload 4, 2) := by decide +kernel
theorem dX12_findLives_143 : decode cX12_findLives 143 = .ok (.imul, 1) := by decide +kernel
theorem dX12_findLives_144 : decode cX12_findLives 144 = .ok (.iload 6, 2) := by decide +kernel
theorem dX12_findLives_146 : decode cX12_findLives 146 = .ok (.iadd, 1) := by decide +kernel
theorem dX12_findLives_147 : decode cX12_findLives 147 = .ok (.baload, 1) := by decide +kernel
theorem dX12_findLives_148 : decode cX12_findLives 148 = .ok (.ifCond .ne 20, 3) := by decide +kernel
theorem dX12_findLives_151 : decode cX12_findLives 151 = .ok (.aload_n 0, 1) := by decide +kernel
theorem dX12_findLives_152 : decode cX12_findLives 152 = .ok (.getfield 130, 3) := by decide +kernel
theorem dX12_findLives_155 : decode cX12_findLives 155 = .ok (.sipush 192, 3) := by decide +kernel
theorem dX12_findLives_158 : decode cX12_findLives 158 = .ok (.iload 4, 2) := by decide +kernel
theorem dX12_findLives_160 : decode cX12_findLives 160 = .ok (.imul, 1) := by decide +kernel
theorem dX12_findLives_161 : decode cX12_findLives 161 = .ok (.iload 6, 2) := by decide +kernel
theorem dX12_findLives_163 : decode cX12_findLives 163 = .ok (.iadd, 1) := by decide +kernel
theorem dX12_findLives_164 : decode cX12_findLives 164 = .ok (.iconst 1, 1) := by decide +kernel
theorem dX12_findLives_165 : decode cX12_findLives 165 = .ok (.bastore, 1) := by decide +kernel
theorem dX12_findLives_166 : decode cX12_findLives 166 = .ok (.iconst 1, 1) := by decide +kernel
theorem dX12_findLives_167 : decode cX12_findLives 167 = .ok (.istore_n 3, 1) := by decide +kernel
theorem dX12_findLives_88 : decode cX12_findLives 88 = .ok (.aload_n 0, 1) := by decide +kernel
theorem dX12_findLives_89 : decode cX12_findLives 89 = .ok (.iload 5, 2) := by decide +kernel
theorem dX12_findLives_91 : decode cX12_findLives 91 = .ok (.iload 6, 2) := by decide +kernel
theorem dX12_findLives_93 : decode cX12_findLives 93 = .ok (.invokevirtual 436, 3) := by decide +kernel
theorem dX12_findLives_96 : decode cX12_findLives 96 = .ok (.ifCond .eq 26, 3) := by decide +kernel
set_option maxRecDepth 20000 in
theorem l_lives4 (d : Nat) {b : Nat} {σ0 : MS} {r : Int} {F : Int} {k : Int} {n1 : Int} {C0 : Int} {post : Option Value → MS → Prop} (hr : 0 ≤ r ∧ r < 6) (hR0 : RG σ0) (hit : ITM σ0) (hpar : PAR σ0) (hok : OKS σ0 F r) (hl : LAB σ0) (hk : 0 ≤ k ∧ k < n1 ∧ n1 = σ0.2.1 9 r) (hx_174 : ∀ (w : Int) (g : Int) (σ : MS) , (Fr [] [59] [] σ0 σ) → (RG σ) → (w = 0 ∨ w = 1) → (BO 59 σ) → ((cz (σ.2.1 59) 42432 : Int) + w ≤ C0) → Tm (d + 5) m_X12_findLives 174 b σ [(6, .int (iI g)), (5, .int (iI (220 * r + k))), (4, .int (iI k)), (3, .int (iI w)), (2, .int (iI n1)), (0, .ref b), (1, .int (iI r))] [] post) : ∀ (n : Nat) (w : Int) (g : Int) (σ : MS) , (Fr [] [59] [] σ0 σ) → (RG σ) → ((w = 0 ∨ w = 1) ∧ 0 ≤ g ∧ g ≤ 192) → (BO 59 σ) → ((cz (σ.2.1 59) 42432 : Int) + w ≤ C0) → (192 - g).toNat = n → Tm (d + 5) m_X12_findLives 68 b σ [(6, .int (iI g)), (5, .int (iI (220 * r + k))), (4, .int (iI k)), (3, .int (iI w)), (2, .int (iI n1)), (0, .ref b), (1, .int (iI r))] [] post := by
  intro n
  induction n using Nat.strongRecOn with
  | _ n ih =>
    intro w g σ hF hR h0 hbl hcn hm
    have hit1 := hit.fr hF (by decide)
    have hpar1 := hpar.fr hF (by decide)
    have hok1 := hok.fr hF (by decide)
    have hl1 := hl.fr hF (by decide)
    have q1 := hit r (by omega) (by omega)
    have q9 : σ.2.1 9 r = σ0.2.1 9 r := by rw [hF.2.1 9 (by decide)]
    refine tm_iload dX12_findLives_68 0 rfl ?_
    refine tm_sipush dX12_findLives_70 (by decide) ?_
    refine tm_icmp_ge (tgt := 174) dX12_findLives_73 (by decide) ⟨by omega, by omega⟩ ⟨by decide, by decide⟩ (fun h1 => ?_) (fun h1 => ?_)
    · exact tm_sub [0, 1, 2, 3, 4, 5, 6] rfl (hx_174 (w) (g) σ (Fr.rfl.trans (Fr.sub hF (by decide) (by decide) (by decide))) hR (by omega) hbl hcn)
    · refine tm_aload_n dX12_findLives_76 rfl 5 rfl ?_
      refine tm_iload_n dX12_findLives_77 rfl 6 rfl ?_
      refine tm_iload dX12_findLives_78 2 rfl ?_
      refine tm_iload dX12_findLives_80 0 rfl ?_
      refine tm_callV (M := m_X12_findLives) (pc := 82) (ix := 433) (M' := m_X12_livesBehind) (As := [.int (iI r), .int (iI k), .int (iI g)]) (rest := []) dX12_findLives_82 ok_X12_livesBehind im_X12_livesBehind se_X12_livesBehind ml12_433 np_X12_livesBehind rfl rfl (Nat.le_of_ble_eq_true rfl) (Nat.le_of_ble_eq_true rfl) rfl (c_X12_livesBehind (d + 1) (σ := σ) (r := r) (k := k) (g := g) (by omega) hR hit1 hok1.jmp hbl hl1 (by omega) (by omega)) (fun r2 σ3 hp => ?_)
      obtain ⟨v4, rfl, rfl, f5⟩ := hp
      show Tm _ _ 85 b σ [(6, .int (iI g)), (5, .int (iI (220 * r + k))), (4, .int (iI k)), (3, .int (iI w)), (2, .int (iI n1)), (0, .ref b), (1, .int (iI r))] [.int (iI v4)] _
      refine tm_if_eq (tgt := 99) dX12_findLives_85 (by decide) ⟨by omega, by omega⟩ (fun h6 => ?_) (fun h6 => ?_)
      · refine tm_aload_n dX12_findLives_99 rfl 5 rfl ?_
        refine tm_get (k := 3) (v := .ref (b + 1 + 1)) lay_12 dX12_findLives_100 (by decide) fl12_13 rfl ?_
        refine tm_iload dX12_findLives_103 1 rfl ?_
        refine tm_iald (z := 220 * r + k) (v := σ0.2.1 3 (220 * r + k)) dX12_findLives_105 (show mT[1]? = some (3, 0, 2860) from rfl) (by omega) (by omega) (by decide) (ra_F hF (by decide) (rfl)) ?_
        have g7 := RG.a hR0 3 (220 * r + k)
        refine tm_bipush dX12_findLives_106 (by decide) ?_
        refine tm_icmp_eq (tgt := 126) dX12_findLives_108 (by decide) ⟨by omega, by omega⟩ ⟨by decide, by decide⟩ (fun h8 => ?_) (fun h8 => ?_)
        · refine tm_iconst dX12_findLives_126 ?_
          refine tm_istore (L' := [(7, .int (iI 0)), (6, .int (iI g)), (5, .int (iI (220 * r + k))), (4, .int (iI k)), (3, .int (iI w)), (2, .int (iI n1)), (0, .ref b), (1, .int (iI r))]) dX12_findLives_127 (by decide) rfl ?_
          refine tm_iload dX12_findLives_129 0 rfl ?_
          refine tm_if_eq (tgt := 168) dX12_findLives_131 (by decide) ⟨by decide, by decide⟩ (fun _ => ?_) (fun h => absurd h (by decide))
          refine tm_iinc (q0 := 1) (L' := [(6, .int (iI (g + 1))), (7, .int (iI 0)), (5, .int (iI (220 * r + k))), (4, .int (iI k)), (3, .int (iI w)), (2, .int (iI n1)), (0, .ref b), (1, .int (iI r))]) dX12_findLives_168 rfl (by decide) rfl ?_
          refine tm_goto (tgt := 68) dX12_findLives_171 (by decide) ?_
          exact tm_sub [0, 2, 3, 4, 5, 6, 7] rfl (ih _ (by omega) (w) (g + 1) σ (Fr.rfl.trans (Fr.sub hF (by decide) (by decide) (by decide))) hR (by omega) (by first | exact hbl | exact hbl.A (by omega)) (by first | omega | (have hcz := cz_sA (σ := σ) (k := 59) (n := 42432) (z := 192 * k + g) (v := 1) (by omega) (by omega) (by omega) (by decide); omega)) rfl)
        · refine tm_aload_n dX12_findLives_111 rfl 5 rfl ?_
          refine tm_iload dX12_findLives_112 1 rfl ?_
          refine tm_iload dX12_findLives_114 0 rfl ?_
          refine tm_callV (M := m_X12_findLives) (pc := 116) (ix := 439) (M' := m_X12_leansOn) (As := [.int (iI (220 * r + k)), .int (iI g)]) (rest := []) dX12_findLives_116 ok_X12_leansOn im_X12_leansOn se_X12_leansOn ml12_439 np_X12_leansOn rfl rfl (Nat.le_of_ble_eq_true rfl) (Nat.le_of_ble_eq_true rfl) rfl (c_X12_leansOn (d) (σ := σ) (x := 220 * r + k) (g := g) (by omega) hR (hok1.of (by omega) (by omega)) hpar1 (by omega)) (fun r10 σ11 hp => ?_)
          obtain ⟨v12, rfl, rfl, f13, f14⟩ := hp
          show Tm _ _ 119 b σ [(6, .int (iI g)), (5, .int (iI (220 * r + k))), (4, .int (iI k)), (3, .int (iI w)), (2, .int (iI n1)), (0, .ref b), (1, .int (iI r))] [.int (iI v12)] _
          refine tm_if_eq (tgt := 126) dX12_findLives_119 (by decide) ⟨by omega, by omega⟩ (fun h15 => ?_) (fun h15 => ?_)
          · refine tm_iconst dX12_findLives_126 ?_
            refine tm_istore (L' := [(7, .int (iI 0)), (6, .int (iI g)), (5, .int (iI (220 * r + k))), (4, .int (iI k)), (3, .int (iI w)), (2, .int (iI n1)), (0, .ref b), (1, .int (iI r))]) dX12_findLives_127 (by decide) rfl ?_
            refine tm_iload dX12_findLives_129 0 rfl ?_
            refine tm_if_eq (tgt := 168) dX12_findLives_131 (by decide) ⟨by decide, by decide⟩ (fun _ => ?_) (fun h => absurd h (by decide))
            refine tm_iinc (q0 := 1) (L' := [(6, .int (iI (g + 1))), (7, .int (iI 0)), (5, .int (iI (220 * r + k))), (4, .int (iI k)), (3, .int (iI w)), (2, .int (iI n1)), (0, .ref b), (1, .int (iI r))]) dX12_findLives_168 rfl (by decide) rfl ?_
            refine tm_goto (tgt := 68) dX12_findLives_171 (by decide) ?_
            exact tm_sub [0, 2, 3, 4, 5, 6, 7] rfl (ih _ (by omega) (w) (g + 1) σ (Fr.rfl.trans (Fr.sub hF (by decide) (by decide) (by decide))) hR (by omega) (by first | exact hbl | exact hbl.A (by omega)) (by first | omega | (have hcz := cz_sA (σ := σ) (k := 59) (n := 42432) (z := 192 * k + g) (v := 1) (by omega) (by omega) (by omega) (by decide); omega)) rfl)
          · refine tm_iconst dX12_findLives_122 ?_
            refine tm_goto (tgt := 127) dX12_findLives_123 (by decide) ?_
            refine tm_istore (L' := [(7, .int (iI 1)), (6, .int (iI g)), (5, .int (iI (220 * r + k))), (4, .int (iI k)), (3, .int (iI w)), (2, .int (iI n1)), (0, .ref b), (1, .int (iI r))]) dX12_findLives_127 (by decide) rfl ?_
            refine tm_iload dX12_findLives_129 0 rfl ?_
            refine tm_if_eq (tgt := 168) dX12_findLives_131 (by decide) ⟨by decide, by decide⟩ (fun h => absurd h (by decide)) (fun _ => ?_)
            refine tm_aload_n dX12_findLives_134 rfl 6 rfl ?_
            refine tm_get (k := 59) (v := .ref (b + 1 + 37)) lay_12 dX12_findLives_135 (by decide) fl12_130 rfl ?_
            refine tm_sipush dX12_findLives_138 (by decide) ?_
            refine tm_iload dX12_findLives_141 3 rfl ?_
            refine tm_imul dX12_findLives_143 ?_
            refine tm_iload dX12_findLives_144 1 rfl ?_
            refine tm_iadd dX12_findLives_146 ?_
            refine tm_zald (z := (192 * k) + g) (v := σ.2.1 59 ((192 * k) + g)) dX12_findLives_147 (show mT[37]? = some (59, 2, 42432) from rfl) (by omega) (by omega) (by decide) (rfl) ?_
            have g18 := RG.a hR 59 ((192 * k) + g)
            have := hbl ((192 * k) + g)
            refine tm_if_ne (tgt := 168) dX12_findLives_148 (by decide) ⟨by omega, by omega⟩ (fun h19 => ?_) (fun h19 => ?_)
            · refine tm_iinc (q0 := 1) (L' := [(6, .int (iI (g + 1))), (7, .int (iI 1)), (5, .int (iI (220 * r + k))), (4, .int (iI k)), (3, .int (iI w)), (2, .int (iI n1)), (0, .ref b), (1, .int (iI r))]) dX12_findLives_168 rfl (by decide) rfl ?_
              refine tm_goto (tgt := 68) dX12_findLives_171 (by decide) ?_
              exact tm_sub [0, 2, 3, 4, 5, 6, 7] rfl (ih _ (by omega) (w) (g + 1) σ (Fr.rfl.trans (Fr.sub hF (by decide) (by decide) (by decide))) hR (by omega) (by first | exact hbl | exact hbl.A (by omega)) (by first | omega | (have hcz := cz_sA (σ := σ) (k := 59) (n := 42432) (z := 192 * k + g) (v := 1) (by omega) (by omega) (by omega) (by decide); omega)) rfl)
            · refine tm_aload_n dX12_findLives_151 rfl 6 rfl ?_
              refine tm_get (k := 59) (v := .ref (b + 1 + 37)) lay_12 dX12_findLives_152 (by decide) fl12_130 rfl ?_
              refine tm_sipush dX12_findLives_155 (by decide) ?_
              refine tm_iload dX12_findLives_158 3 rfl ?_
              refine tm_imul dX12_findLives_160 ?_
              refine tm_iload dX12_findLives_161 1 rfl ?_
              refine tm_iadd dX12_findLives_163 ?_
              refine tm_iconst dX12_findLives_164 ?_
              refine tm_zast (z := (192 * k) + g) (v := 1) dX12_findLives_165 (show mT[37]? = some (59, 2, 42432) from rfl) (by omega) (by omega) (by decide) (by omega) ?_
              refine tm_iconst dX12_findLives_166 ?_
              refine tm_istore_n (L' := [(3, .int (iI 1)), (7, .int (iI 1)), (6, .int (iI g)), (5, .int (iI (220 * r + k))), (4, .int (iI k)), (2, .int (iI n1)), (0, .ref b), (1, .int (iI r))]) dX12_findLives_167 rfl (by decide) rfl ?_
              refine tm_iinc (q0 := 2) (L' := [(6, .int (iI (g + 1))), (3, .int (iI 1)), (7, .int (iI 1)), (5, .int (iI (220 * r + k))), (4, .int (iI k)), (2, .int (iI n1)), (0, .ref b), (1, .int (iI r))]) dX12_findLives_168 rfl (by decide) rfl ?_
              refine tm_goto (tgt := 68) dX12_findLives_171 (by decide) ?_
              exact tm_sub [0, 3, 4, 1, 5, 6, 7] rfl (ih _ (by omega) (1) (g + 1) (sA 59 ((192 * k) + g) (1) σ) ((Fr.rfl.trans (Fr.sub hF (by decide) (by decide) (by decide))).A (by decide)) (hR.A (by omega)) (by omega) (by first | exact hbl | exact hbl.A (by omega)) (by first | omega | (have hcz := cz_sA (σ := σ) (k := 59) (n := 42432) (z := 192 * k + g) (v := 1) (by omega) (by omega) (by omega) (by decide); omega)) rfl)
      · refine tm_aload_n dX12_findLives_88 rfl 5 rfl ?_
        refine tm_iload dX12_findLives_89 1 rfl ?_
        refine tm_iload dX12_findLives_91 0 rfl ?_
        refine tm_callV (M := m_X12_findLives) (pc := 93) (ix := 436) (M' := m_X12_writesTo) (As := [.int (iI (220 * r + k)), .int (iI g)]) (rest := []) dX12_findLives_93 ok_X12_writesTo im_X12_writesTo se_X12_writesTo ml12_436 np_X12_writesTo rfl rfl (Nat.le_of_ble_eq_true rfl) (Nat.le_of_ble_eq_true rfl) rfl (c_X12_writesTo (d + 2) (σ := σ) (x := 220 * r + k) (g := g) (by omega) hR (by omega)) (fun r20 σ21 hp => ?_)
        obtain ⟨v22, rfl, rfl, f23, f24⟩ := hp
        show Tm _ _ 96 b σ [(6, .int (iI g)), (5, .int (iI (220 * r + k))), (4, .int (iI k)), (3, .int (iI w)), (2, .int (iI n1)), (0, .ref b), (1, .int (iI r))] [.int (iI v22)] _
        refine tm_if_eq (tgt := 122) dX12_findLives_96 (by decide) ⟨by omega, by omega⟩ (fun h25 => ?_) (fun h25 => ?_)
        · refine tm_iconst dX12_findLives_122 ?_
          refine tm_goto (tgt := 127) dX12_findLives_123 (by decide) ?_
          refine tm_istore (L' := [(7, .int (iI 1)), (6, .int (iI g)), (5, .int (iI (220 * r + k))), (4, .int (iI k)), (3, .int (iI w)), (2, .int (iI n1)), (0, .ref b), (1, .int (iI r))]) dX12_findLives_127 (by decide) rfl ?_
          refine tm_iload dX12_findLives_129 0 rfl ?_
          refine tm_if_eq (tgt := 168) dX12_findLives_131 (by decide) ⟨by decide, by decide⟩ (fun h => absurd h (by decide)) (fun _ => ?_)
          refine tm_aload_n dX12_findLives_134 rfl 6 rfl ?_
          refine tm_get (k := 59) (v := .ref (b + 1 + 37)) lay_12 dX12_findLives_135 (by decide) fl12_130 rfl ?_
          refine tm_sipush dX12_findLives_138 (by decide) ?_
          refine tm_iload dX12_findLives_141 3 rfl ?_
          refine tm_imul dX12_findLives_143 ?_
          refine tm_iload dX12_findLives_144 1 rfl ?_
          refine tm_iadd dX12_findLives_146 ?_
          refine tm_zald (z := (192 * k) + g) (v := σ.2.1 59 ((192 * k) + g)) dX12_findLives_147 (show mT[37]? = some (59, 2, 42432) from rfl) (by omega) (by omega) (by decide) (rfl) ?_
          have g27 := RG.a hR 59 ((192 * k) + g)
          have := hbl ((192 * k) + g)
          refine tm_if_ne (tgt := 168) dX12_findLives_148 (by decide) ⟨by omega, by omega⟩ (fun h28 => ?_) (fun h28 => ?_)
          · refine tm_iinc (q0 := 1) (L' := [(6, .int (iI (g + 1))), (7, .int (iI 1)), (5, .int (iI (220 * r + k))), (4, .int (iI k)), (3, .int (iI w)), (2, .int (iI n1)), (0, .ref b), (1, .int (iI r))]) dX12_findLives_168 rfl (by decide) rfl ?_
            refine tm_goto (tgt := 68) dX12_findLives_171 (by decide) ?_
            exact tm_sub [0, 2, 3, 4, 5, 6, 7] rfl (ih _ (by omega) (w) (g + 1) σ (Fr.rfl.trans (Fr.sub hF (by decide) (by decide) (by decide))) hR (by omega) (by first | exact hbl | exact hbl.A (by omega)) (by first | omega | (have hcz := cz_sA (σ := σ) (k := 59) (n := 42432) (z := 192 * k + g) (v := 1) (by omega) (by omega) (by omega) (by decide); omega)) rfl)
          · refine tm_aload_n dX12_findLives_151 rfl 6 rfl ?_
            refine tm_get (k := 59) (v := .ref (b + 1 + 37)) lay_12 dX12_findLives_152 (by decide) fl12_130 rfl ?_
            refine tm_sipush dX12_findLives_155 (by decide) ?_
            refine tm_iload dX12_findLives_158 3 rfl ?_
            refine tm_imul dX12_findLives_160 ?_
            refine tm_iload dX12_findLives_161 1 rfl ?_
            refine tm_iadd dX12_findLives_163 ?_
            refine tm_iconst dX12_findLives_164 ?_
            refine tm_zast (z := (192 * k) + g) (v := 1) dX12_findLives_165 (show mT[37]? = some (59, 2, 42432) from rfl) (by omega) (by omega) (by decide) (by omega) ?_
            refine tm_iconst dX12_findLives_166 ?_
            refine tm_istore_n (L' := [(3, .int (iI 1)), (7, .int (iI 1)), (6, .int (iI g)), (5, .int (iI (220 * r + k))), (4, .int (iI k)), (2, .int (iI n1)), (0, .ref b), (1, .int (iI r))]) dX12_findLives_167 rfl (by decide) rfl ?_
            refine tm_iinc (q0 := 2) (L' := [(6, .int (iI (g + 1))), (3, .int (iI 1)), (7, .int (iI 1)), (5, .int (iI (220 * r + k))), (4, .int (iI k)), (2, .int (iI n1)), (0, .ref b), (1, .int (iI r))]) dX12_findLives_168 rfl (by decide) rfl ?_
            refine tm_goto (tgt := 68) dX12_findLives_171 (by decide) ?_
            exact tm_sub [0, 3, 4, 1, 5, 6, 7] rfl (ih _ (by omega) (1) (g + 1) (sA 59 ((192 * k) + g) (1) σ) ((Fr.rfl.trans (Fr.sub hF (by decide) (by decide) (by decide))).A (by decide)) (hR.A (by omega)) (by omega) (by first | exact hbl | exact hbl.A (by omega)) (by first | omega | (have hcz := cz_sA (σ := σ) (k := 59) (n := 42432) (z := 192 * k + g) (v := 1) (by omega) (by omega) (by omega) (by decide); omega)) rfl)
        · refine tm_aload_n dX12_findLives_99 rfl 5 rfl ?_
          refine tm_get (k := 3) (v := .ref (b + 1 + 1)) lay_12 dX12_findLives_100 (by decide) fl12_13 rfl ?_
          refine tm_iload dX12_findLives_103 1 rfl ?_
          refine tm_iald (z := 220 * r + k) (v := σ0.2.1 3 (220 * r + k)) dX12_findLives_105 (show mT[1]? = some (3, 0, 2860) from rfl) (by omega) (by omega) (by decide) (ra_F hF (by decide) (rfl)) ?_
          have g29 := RG.a hR0 3 (220 * r + k)
          refine tm_bipush dX12_findLives_106 (by decide) ?_
          refine tm_icmp_eq (tgt := 126) dX12_findLives_108 (by decide) ⟨by omega, by omega⟩ ⟨by decide, by decide⟩ (fun h30 => ?_) (fun h30 => ?_)
          · refine tm_iconst dX12_findLives_126 ?_
            refine tm_istore (L' := [(7, .int (iI 0)), (6, .int (iI g)), (5, .int (iI (220 * r + k))), (4, .int (iI k)), (3, .int (iI w)), (2, .int (iI n1)), (0, .ref b), (1, .int (iI r))]) dX12_findLives_127 (by decide) rfl ?_
            refine tm_iload dX12_findLives_129 0 rfl ?_
            refine tm_if_eq (tgt := 168) dX12_findLives_131 (by decide) ⟨by decide, by decide⟩ (fun _ => ?_) (fun h => absurd h (by decide))
            refine tm_iinc (q0 := 1) (L' := [(6, .int (iI (g + 1))), (7, .int (iI 0)), (5, .int (iI (220 * r + k))), (4, .int (iI k)), (3, .int (iI w)), (2, .int (iI n1)), (0, .ref b), (1, .int (iI r))]) dX12_findLives_168 rfl (by decide) rfl ?_
            refine tm_goto (tgt := 68) dX12_findLives_171 (by decide) ?_
            exact tm_sub [0, 2, 3, 4, 5, 6, 7] rfl (ih _ (by omega) (w) (g + 1) σ (Fr.rfl.trans (Fr.sub hF (by decide) (by decide) (by decide))) hR (by omega) (by first | exact hbl | exact hbl.A (by omega)) (by first | omega | (have hcz := cz_sA (σ := σ) (k := 59) (n := 42432) (z := 192 * k + g) (v := 1) (by omega) (by omega) (by omega) (by decide); omega)) rfl)
          · refine tm_aload_n dX12_findLives_111 rfl 5 rfl ?_
            refine tm_iload dX12_findLives_112 1 rfl ?_
            refine tm_iload dX12_findLives_114 0 rfl ?_
            refine tm_callV (M := m_X12_findLives) (pc := 116) (ix := 439) (M' := m_X12_leansOn) (As := [.int (iI (220 * r + k)), .int (iI g)]) (rest := []) dX12_findLives_116 ok_X12_leansOn im_X12_leansOn se_X12_leansOn ml12_439 np_X12_leansOn rfl rfl (Nat.le_of_ble_eq_true rfl) (Nat.le_of_ble_eq_true rfl) rfl (c_X12_leansOn (d) (σ := σ) (x := 220 * r + k) (g := g) (by omega) hR (hok1.of (by omega) (by omega)) hpar1 (by omega)) (fun r32 σ33 hp => ?_)
            obtain ⟨v34, rfl, rfl, f35, f36⟩ := hp
            show Tm _ _ 119 b σ [(6, .int (iI g)), (5, .int (iI (220 * r + k))), (4, .int (iI k)), (3, .int (iI w)), (2, .int (iI n1)), (0, .ref b), (1, .int (iI r))] [.int (iI v34)] _
            refine tm_if_eq (tgt := 126) dX12_findLives_119 (by decide) ⟨by omega, by omega⟩ (fun h37 => ?_) (fun h37 => ?_)
            · refine tm_iconst dX12_findLives_126 ?_
              refine tm_istore (L' := [(7, .int (iI 0)), (6, .int (iI g)), (5, .int (iI (220 * r + k))), (4, .int (iI k)), (3, .int (iI w)), (2, .int (iI n1)), (0, .ref b), (1, .int (iI r))]) dX12_findLives_127 (by decide) rfl ?_
              refine tm_iload dX12_findLives_129 0 rfl ?_
              refine tm_if_eq (tgt := 168) dX12_findLives_131 (by decide) ⟨by decide, by decide⟩ (fun _ => ?_) (fun h => absurd h (by decide))
              refine tm_iinc (q0 := 1) (L' := [(6, .int (iI (g + 1))), (7, .int (iI 0)), (5, .int (iI (220 * r + k))), (4, .int (iI k)), (3, .int (iI w)), (2, .int (iI n1)), (0, .ref b), (1, .int (iI r))]) dX12_findLives_168 rfl (by decide) rfl ?_
              refine tm_goto (tgt := 68) dX12_findLives_171 (by decide) ?_
              exact tm_sub [0, 2, 3, 4, 5, 6, 7] rfl (ih _ (by omega) (w) (g + 1) σ (Fr.rfl.trans (Fr.sub hF (by decide) (by decide) (by decide))) hR (by omega) (by first | exact hbl | exact hbl.A (by omega)) (by first | omega | (have hcz := cz_sA (σ := σ) (k := 59) (n := 42432) (z := 192 * k + g) (v := 1) (by omega) (by omega) (by omega) (by decide); omega)) rfl)
            · refine tm_iconst dX12_findLives_122 ?_
              refine tm_goto (tgt := 127) dX12_findLives_123 (by decide) ?_
              refine tm_istore (L' := [(7, .int (iI 1)), (6, .int (iI g)), (5, .int (iI (220 * r + k))), (4, .int (iI k)), (3, .int (iI w)), (2, .int (iI n1)), (0, .ref b), (1, .int (iI r))]) dX12_findLives_127 (by decide) rfl ?_
              refine tm_iload dX12_findLives_129 0 rfl ?_
              refine tm_if_eq (tgt := 168) dX12_findLives_131 (by decide) ⟨by decide, by decide⟩ (fun h => absurd h (by decide)) (fun _ => ?_)
              refine tm_aload_n dX12_findLives_134 rfl 6 rfl ?_
              refine tm_get (k := 59) (v := .ref (b + 1 + 37)) lay_12 dX12_findLives_135 (by decide) fl12_130 rfl ?_
              refine tm_sipush dX12_findLives_138 (by decide) ?_
              refine tm_iload dX12_findLives_141 3 rfl ?_
              refine tm_imul dX12_findLives_143 ?_
              refine tm_iload dX12_findLives_144 1 rfl ?_
              refine tm_iadd dX12_findLives_146 ?_
              refine tm_zald (z := (192 * k) + g) (v := σ.2.1 59 ((192 * k) + g)) dX12_findLives_147 (show mT[37]? = some (59, 2, 42432) from rfl) (by omega) (by omega) (by decide) (rfl) ?_
              have g40 := RG.a hR 59 ((192 * k) + g)
              have := hbl ((192 * k) + g)
              refine tm_if_ne (tgt := 168) dX12_findLives_148 (by decide) ⟨by omega, by omega⟩ (fun h41 => ?_) (fun h41 => ?_)
              · refine tm_iinc (q0 := 1) (L' := [(6, .int (iI (g + 1))), (7, .int (iI 1)), (5, .int (iI (220 * r + k))), (4, .int (iI k)), (3, .int (iI w)), (2, .int (iI n1)), (0, .ref b), (1, .int (iI r))]) dX12_findLives_168 rfl (by decide) rfl ?_
                refine tm_goto (tgt := 68) dX12_findLives_171 (by decide) ?_
                exact tm_sub [0, 2, 3, 4, 5, 6, 7] rfl (ih _ (by omega) (w) (g + 1) σ (Fr.rfl.trans (Fr.sub hF (by decide) (by decide) (by decide))) hR (by omega) (by first | exact hbl | exact hbl.A (by omega)) (by first | omega | (have hcz := cz_sA (σ := σ) (k := 59) (n := 42432) (z := 192 * k + g) (v := 1) (by omega) (by omega) (by omega) (by decide); omega)) rfl)
              · refine tm_aload_n dX12_findLives_151 rfl 6 rfl ?_
                refine tm_get (k := 59) (v := .ref (b + 1 + 37)) lay_12 dX12_findLives_152 (by decide) fl12_130 rfl ?_
                refine tm_sipush dX12_findLives_155 (by decide) ?_
                refine tm_iload dX12_findLives_158 3 rfl ?_
                refine tm_imul dX12_findLives_160 ?_
                refine tm_iload dX12_findLives_161 1 rfl ?_
                refine tm_iadd dX12_findLives_163 ?_
                refine tm_iconst dX12_findLives_164 ?_
                refine tm_zast (z := (192 * k) + g) (v := 1) dX12_findLives_165 (show mT[37]? = some (59, 2, 42432) from rfl) (by omega) (by omega) (by decide) (by omega) ?_
                refine tm_iconst dX12_findLives_166 ?_
                refine tm_istore_n (L' := [(3, .int (iI 1)), (7, .int (iI 1)), (6, .int (iI g)), (5, .int (iI (220 * r + k))), (4, .int (iI k)), (2, .int (iI n1)), (0, .ref b), (1, .int (iI r))]) dX12_findLives_167 rfl (by decide) rfl ?_
                refine tm_iinc (q0 := 2) (L' := [(6, .int (iI (g + 1))), (3, .int (iI 1)), (7, .int (iI 1)), (5, .int (iI (220 * r + k))), (4, .int (iI k)), (2, .int (iI n1)), (0, .ref b), (1, .int (iI r))]) dX12_findLives_168 rfl (by decide) rfl ?_
                refine tm_goto (tgt := 68) dX12_findLives_171 (by decide) ?_
                exact tm_sub [0, 3, 4, 1, 5, 6, 7] rfl (ih _ (by omega) (1) (g + 1) (sA 59 ((192 * k) + g) (1) σ) ((Fr.rfl.trans (Fr.sub hF (by decide) (by decide) (by decide))).A (by decide)) (hR.A (by omega)) (by omega) (by first | exact hbl | exact hbl.A (by omega)) (by first | omega | (have hcz := cz_sA (σ := σ) (k := 59) (n := 42432) (z := 192 * k + g) (v := 1) (by omega) (by omega) (by omega) (by decide); omega)) rfl)
theorem dX12_findLives_51 : decode cX12_findLives 51 = .ok (.iload 4, 2) := by decide +kernel
theorem dX12_findLives_53 : decode cX12_findLives 53 = .ok (.ifCond .lt 127, 3) := by decide +kernel
theorem dX12_findLives_56 : decode cX12_findLives 56 = .ok (.aload_n 0, 1) := by decide +kernel
theorem dX12_findLives_57 : decode cX12_findLives 57 = .ok (.iload_n 1, 1) := by decide +kernel
theorem dX12_findLives_58 : decode cX12_findLives 58 = .ok (.iload 4, 2) := by decide +kernel
theorem dX12_findLives_60 : decode cX12_findLives 60 = .ok (.invokevirtual 203, 3) := by decide +kernel
theorem dX12_findLives_63 : decode cX12_findLives 63 = .ok (.istore 5, 2) := by decide +kernel
theorem dX12_findLives_65 : decode cX12_findLives 65 = .ok (.iconst 0, 1) := by decide +kernel
theorem dX12_findLives_66 : decode cX12_findLives 66 = .ok (.istore 6, 2) := by decide +kernel
theorem dX12_findLives_174 : decode cX12_findLives 174 = .ok (.iinc 4 (-1), 3) := by decide +kernel
theorem dX12_findLives_177 : decode cX12_findLives 177 = .ok (.goto (-126), 3) := by decide +kernel
set_option maxRecDepth 20000 in
theorem l_lives3 (d : Nat) {b : Nat} {σ0 : MS} {r : Int} {F : Int} {n1 : Int} {C0 : Int} {post : Option Value → MS → Prop} (hr : 0 ≤ r ∧ r < 6) (hR0 : RG σ0) (hit : ITM σ0) (hpar : PAR σ0) (hok : OKS σ0 F r) (hl : LAB σ0) (hk : n1 = σ0.2.1 9 r) (hx_180 : ∀ (w : Int) (k : Int) (σ : MS) , (Fr [] [59] [] σ0 σ) → (RG σ) → (w = 0 ∨ w = 1) → (BO 59 σ) → ((cz (σ.2.1 59) 42432 : Int) + w ≤ C0) → Tm (d + 5) m_X12_findLives 180 b σ [(4, .int (iI k)), (3, .int (iI w)), (2, .int (iI n1)), (0, .ref b), (1, .int (iI r))] [] post) : ∀ (n : Nat) (w : Int) (k : Int) (σ : MS) , (Fr [] [59] [] σ0 σ) → (RG σ) → ((w = 0 ∨ w = 1) ∧ -1 ≤ k ∧ k < n1) → (BO 59 σ) → ((cz (σ.2.1 59) 42432 : Int) + w ≤ C0) → (k + 1).toNat = n → Tm (d + 5) m_X12_findLives 51 b σ [(4, .int (iI k)), (3, .int (iI w)), (2, .int (iI n1)), (0, .ref b), (1, .int (iI r))] [] post := by
  intro n
  induction n using Nat.strongRecOn with
  | _ n ih =>
    intro w k σ hF hR h0 hbl hcn hm
    have hit1 := hit.fr hF (by decide)
    have hpar1 := hpar.fr hF (by decide)
    have hok1 := hok.fr hF (by decide)
    have hl1 := hl.fr hF (by decide)
    have q1 := hit r (by omega) (by omega)
    have q9 : σ.2.1 9 r = σ0.2.1 9 r := by rw [hF.2.1 9 (by decide)]
    refine tm_iload dX12_findLives_51 0 rfl ?_
    refine tm_if_lt (tgt := 180) dX12_findLives_53 (by decide) ⟨by omega, by omega⟩ (fun h1 => ?_) (fun h1 => ?_)
    · exact tm_sub [0, 1, 2, 3, 4] rfl (hx_180 (w) (k) σ (Fr.rfl.trans (Fr.sub hF (by decide) (by decide) (by decide))) hR (by omega) hbl hcn)
    · refine tm_aload_n dX12_findLives_56 rfl 3 rfl ?_
      refine tm_iload_n dX12_findLives_57 rfl 4 rfl ?_
      refine tm_iload dX12_findLives_58 0 rfl ?_
      refine tm_callV (M := m_X12_findLives) (pc := 60) (ix := 203) (M' := m_X12_at) (As := [.int (iI r), .int (iI k)]) (rest := []) dX12_findLives_60 ok_X12_at im_X12_at se_X12_at ml12_203 np_X12_at rfl rfl (Nat.le_of_ble_eq_true rfl) (Nat.le_of_ble_eq_true rfl) rfl (c_X12_at (d + 3) (σ := σ) (x := r) (k := k) ) (fun r2 σ3 hp => ?_)
      obtain ⟨v4, rfl, rfl, f5⟩ := hp
      subst f5
      show Tm _ _ 63 b σ [(4, .int (iI k)), (3, .int (iI w)), (2, .int (iI n1)), (0, .ref b), (1, .int (iI r))] [.int (iI (220 * r + k))] _
      refine tm_istore (L' := [(5, .int (iI (220 * r + k))), (4, .int (iI k)), (3, .int (iI w)), (2, .int (iI n1)), (0, .ref b), (1, .int (iI r))]) dX12_findLives_63 (by decide) rfl ?_
      refine tm_iconst dX12_findLives_65 ?_
      refine tm_istore (L' := [(6, .int (iI 0)), (5, .int (iI (220 * r + k))), (4, .int (iI k)), (3, .int (iI w)), (2, .int (iI n1)), (0, .ref b), (1, .int (iI r))]) dX12_findLives_66 (by decide) rfl ?_
      refine tm_sub [0, 1, 2, 3, 4, 5, 6] rfl (l_lives4 (d) (σ0 := σ) (r := r) (k := k) (n1 := n1) (F := F) (C0 := C0) hr hR hit1 hpar1 hok1 hl1 (by omega) (fun w14 g15 σ16 F9 R10 f11 f12 f13 => ?_) _ (w) (0) σ Fr.rfl hR (by omega) hbl (by omega) rfl)
      show Tm _ _ 174 b σ16 [(6, .int (iI g15)), (5, .int (iI (220 * r + k))), (4, .int (iI k)), (3, .int (iI w14)), (2, .int (iI n1)), (0, .ref b), (1, .int (iI r))] [] _
      refine tm_iinc (q0 := 2) (L' := [(4, .int (iI (k + (-1)))), (6, .int (iI g15)), (5, .int (iI (220 * r + k))), (3, .int (iI w14)), (2, .int (iI n1)), (0, .ref b), (1, .int (iI r))]) dX12_findLives_174 rfl (by decide) rfl ?_
      refine tm_goto (tgt := 51) dX12_findLives_177 (by decide) ?_
      exact tm_sub [0, 3, 4, 5, 6] rfl (ih _ (by omega) (w14) (k + (-1)) σ16 ((Fr.rfl.trans (Fr.sub hF (by decide) (by decide) (by decide))).trans (Fr.sub F9 (by decide) (by decide) (by decide))) R10 (by omega) (by assumption) (by omega) rfl)
theorem dX12_findLives_40 : decode cX12_findLives 40 = .ok (.iload_n 3, 1) := by decide +kernel
theorem dX12_findLives_41 : decode cX12_findLives 41 = .ok (.ifCond .eq 142, 3) := by decide +kernel
theorem dX12_findLives_44 : decode cX12_findLives 44 = .ok (.iconst 0, 1) := by decide +kernel
theorem dX12_findLives_45 : decode cX12_findLives 45 = .ok (.istore_n 3, 1) := by decide +kernel
theorem dX12_findLives_46 : decode cX12_findLives 46 = .ok (.iload_n 2, 1) := by decide +kernel
theorem dX12_findLives_47 : decode cX12_findLives 47 = .ok (.iconst 1, 1) := by decide +kernel
theorem dX12_findLives_48 : decode cX12_findLives 48 = .ok (.isub, 1) := by decide +kernel
theorem dX12_findLives_49 : decode cX12_findLives 49 = .ok (.istore 4, 2) := by decide +kernel
theorem dX12_findLives_180 : decode cX12_findLives 180 = .ok (.goto (-140), 3) := by decide +kernel
set_option maxRecDepth 20000 in
theorem l_lives2 (d : Nat) {b : Nat} {σ0 : MS} {r : Int} {F : Int} {n1 : Int} {post : Option Value → MS → Prop} (hr : 0 ≤ r ∧ r < 6) (hR0 : RG σ0) (hit : ITM σ0) (hpar : PAR σ0) (hok : OKS σ0 F r) (hl : LAB σ0) (hk : n1 = σ0.2.1 9 r) (hx_183 : ∀ (w : Int) (σ : MS) , (Fr [] [59] [] σ0 σ) → (RG σ) → (BO 59 σ) → Tm (d + 5) m_X12_findLives 183 b σ [(3, .int (iI w)), (2, .int (iI n1)), (0, .ref b), (1, .int (iI r))] [] post) : ∀ (n : Nat) (w : Int) (σ : MS) , (Fr [] [59] [] σ0 σ) → (RG σ) → (w = 0 ∨ w = 1) → (BO 59 σ) → ((cz (σ.2.1 59) 42432 : Int) + w).toNat = n → Tm (d + 5) m_X12_findLives 40 b σ [(3, .int (iI w)), (2, .int (iI n1)), (0, .ref b), (1, .int (iI r))] [] post := by
  intro n
  induction n using Nat.strongRecOn with
  | _ n ih =>
    intro w σ hF hR h0 hbl hm
    have hit1 := hit.fr hF (by decide)
    have hpar1 := hpar.fr hF (by decide)
    have hok1 := hok.fr hF (by decide)
    have hl1 := hl.fr hF (by decide)
    have q1 := hit r (by omega) (by omega)
    have q9 : σ.2.1 9 r = σ0.2.1 9 r := by rw [hF.2.1 9 (by decide)]
    refine tm_iload_n dX12_findLives_40 rfl 0 rfl ?_
    refine tm_if_eq (tgt := 183) dX12_findLives_41 (by decide) ⟨by omega, by omega⟩ (fun h1 => ?_) (fun h1 => ?_)
    · exact tm_sub [0, 1, 2, 3] rfl (hx_183 (w) σ (Fr.rfl.trans (Fr.sub hF (by decide) (by decide) (by decide))) hR hbl)
    · refine tm_iconst dX12_findLives_44 ?_
      refine tm_istore_n (L' := [(3, .int (iI 0)), (2, .int (iI n1)), (0, .ref b), (1, .int (iI r))]) dX12_findLives_45 rfl (by decide) rfl ?_
      refine tm_iload_n dX12_findLives_46 rfl 1 rfl ?_
      refine tm_iconst dX12_findLives_47 ?_
      refine tm_isub dX12_findLives_48 ?_
      refine tm_istore (L' := [(4, .int (iI (n1 - 1))), (3, .int (iI 0)), (2, .int (iI n1)), (0, .ref b), (1, .int (iI r))]) dX12_findLives_49 (by decide) rfl ?_
      refine tm_sub [0, 1, 2, 3, 4] rfl (l_lives3 (d) (σ0 := σ) (r := r) (n1 := n1) (F := F) (C0 := (cz (σ.2.1 59) 42432 : Int)) hr hR hit1 hpar1 hok1 hl1 (by omega) (fun w10 k11 σ12 F5 R6 f7 f8 f9 => ?_) _ (0) (n1 - 1) σ Fr.rfl hR (by omega) hbl (by omega) rfl)
      show Tm _ _ 180 b σ12 [(4, .int (iI k11)), (3, .int (iI w10)), (2, .int (iI n1)), (0, .ref b), (1, .int (iI r))] [] _
      refine tm_goto (tgt := 40) dX12_findLives_180 (by decide) ?_
      exact tm_sub [1, 2, 3, 4] rfl (ih _ (by omega) (w10) σ12 ((Fr.rfl.trans (Fr.sub hF (by decide) (by decide) (by decide))).trans (Fr.sub F5 (by decide) (by decide) (by decide))) R6 (by omega) (by assumption) rfl)
theorem dX12_findLives_14 : decode cX12_findLives 14 = .ok (.iload_n 3, 1) := by decide +kernel
theorem dX12_findLives_15 : decode cX12_findLives 15 = .ok (.sipush 192, 3) := by decide +kernel
theorem dX12_findLives_18 : decode cX12_findLives 18 = .ok (.iload_n 2, 1) := by decide +kernel
theorem dX12_findLives_19 : decode cX12_findLives 19 = .ok (.iconst 1, 1) := by decide +kernel
theorem dX12_findLives_20 : decode cX12_findLives 20 = .ok (.iadd, 1) := by decide +kernel
theorem dX12_findLives_21 : decode cX12_findLives 21 = .ok (.imul, 1) := by decide +kernel
theorem dX12_findLives_22 : decode cX12_findLives 22 = .ok (.if_icmp .ge 16, 3) := by decide +kernel
theorem dX12_findLives_25 : decode cX12_findLives 25 = .ok (.aload_n 0, 1) := by decide +kernel
theorem dX12_findLives_26 : decode cX12_findLives 26 = .ok (.getfield 130, 3) := by decide +kernel
theorem dX12_findLives_29 : decode cX12_findLives 29 = .ok (.iload_n 3, 1) := by decide +kernel
theorem dX12_findLives_30 : decode cX12_findLives 30 = .ok (.iconst 0, 1) := by decide +kernel
theorem dX12_findLives_31 : decode cX12_findLives 31 = .ok (.bastore, 1) := by decide +kernel
theorem dX12_findLives_32 : decode cX12_findLives 32 = .ok (.iinc 3 1, 3) := by decide +kernel
theorem dX12_findLives_35 : decode cX12_findLives 35 = .ok (.goto (-21), 3) := by decide +kernel
set_option maxRecDepth 20000 in
theorem l_lives1 (d : Nat) {b : Nat} {σ0 : MS} {r : Int} {n1 : Int} {post : Option Value → MS → Prop} (hk : 0 ≤ n1 ∧ n1 ≤ 220) (hx_38 : ∀ (k : Int) (σ : MS) , (Fr [] [59] [] σ0 σ) → (RG σ) → (BO 59 σ) → Tm (d + 1) m_X12_findLives 38 b σ [(3, .int (iI k)), (2, .int (iI n1)), (0, .ref b), (1, .int (iI r))] [] post) : ∀ (n : Nat) (k : Int) (σ : MS) , (Fr [] [59] [] σ0 σ) → (RG σ) → (0 ≤ k ∧ k ≤ 192 * (n1 + 1)) → (BO 59 σ) → (192 * (n1 + 1) - k).toNat = n → Tm (d + 1) m_X12_findLives 14 b σ [(3, .int (iI k)), (2, .int (iI n1)), (0, .ref b), (1, .int (iI r))] [] post := by
  intro n
  induction n using Nat.strongRecOn with
  | _ n ih =>
    intro k σ hF hR h0 hbl hm
    refine tm_iload_n dX12_findLives_14 rfl 0 rfl ?_
    refine tm_sipush dX12_findLives_15 (by decide) ?_
    refine tm_iload_n dX12_findLives_18 rfl 1 rfl ?_
    refine tm_iconst dX12_findLives_19 ?_
    refine tm_iadd dX12_findLives_20 ?_
    refine tm_imul dX12_findLives_21 ?_
    refine tm_icmp_ge (tgt := 38) dX12_findLives_22 (by decide) ⟨by omega, by omega⟩ ⟨by omega, by omega⟩ (fun h1 => ?_) (fun h1 => ?_)
    · exact tm_sub [0, 1, 2, 3] rfl (hx_38 (k) σ (Fr.rfl.trans (Fr.sub hF (by decide) (by decide) (by decide))) hR hbl)
    · refine tm_aload_n dX12_findLives_25 rfl 2 rfl ?_
      refine tm_get (k := 59) (v := .ref (b + 1 + 37)) lay_12 dX12_findLives_26 (by decide) fl12_130 rfl ?_
      refine tm_iload_n dX12_findLives_29 rfl 0 rfl ?_
      refine tm_iconst dX12_findLives_30 ?_
      refine tm_zast (z := k) (v := 0) dX12_findLives_31 (show mT[37]? = some (59, 2, 42432) from rfl) (by omega) (by omega) (by decide) (by omega) ?_
      refine tm_iinc (q0 := 0) (L' := [(3, .int (iI (k + 1))), (2, .int (iI n1)), (0, .ref b), (1, .int (iI r))]) dX12_findLives_32 rfl (by decide) rfl ?_
      refine tm_goto (tgt := 14) dX12_findLives_35 (by decide) ?_
      exact tm_sub [0, 1, 2, 3] rfl (ih _ (by omega) (k + 1) (sA 59 (k) (0) σ) ((Fr.rfl.trans (Fr.sub hF (by decide) (by decide) (by decide))).A (by decide)) (hR.A (by omega)) (by omega) (hbl.A (by omega)) rfl)
theorem ml12_420 : Cond.methodLink RX12 420 yX12_findLabels ∈ pWW := pw9 (List.mem_of_getElem? (i := 78) rfl) rfl
theorem dX12_findLives_0 : decode cX12_findLives 0 = .ok (.aload_n 0, 1) := by decide +kernel
theorem dX12_findLives_1 : decode cX12_findLives 1 = .ok (.iload_n 1, 1) := by decide +kernel
theorem dX12_findLives_2 : decode cX12_findLives 2 = .ok (.invokevirtual 420, 3) := by decide +kernel
theorem dX12_findLives_5 : decode cX12_findLives 5 = .ok (.aload_n 0, 1) := by decide +kernel
theorem dX12_findLives_6 : decode cX12_findLives 6 = .ok (.getfield 32, 3) := by decide +kernel
theorem dX12_findLives_9 : decode cX12_findLives 9 = .ok (.iload_n 1, 1) := by decide +kernel
theorem dX12_findLives_10 : decode cX12_findLives 10 = .ok (.iaload, 1) := by decide +kernel
theorem dX12_findLives_11 : decode cX12_findLives 11 = .ok (.istore_n 2, 1) := by decide +kernel
theorem dX12_findLives_12 : decode cX12_findLives 12 = .ok (.iconst 0, 1) := by decide +kernel
theorem dX12_findLives_13 : decode cX12_findLives 13 = .ok (.istore_n 3, 1) := by decide +kernel
theorem dX12_findLives_38 : decode cX12_findLives 38 = .ok (.iconst 1, 1) := by decide +kernel
theorem dX12_findLives_39 : decode cX12_findLives 39 = .ok (.istore_n 3, 1) := by decide +kernel
theorem dX12_findLives_183 : decode cX12_findLives 183 = .ok (.return_, 1) := by decide +kernel
set_option maxRecDepth 20000 in
theorem c_X12_findLives (d : Nat) {b : Nat} {σ : MS} {r : Int} {F : Int} (hr : 0 ≤ r ∧ r < 6) (hR : RG σ) (hit : ITM σ) (hpar : PAR σ) (hok : OKS σ F r) (hl : LAB σ) (hbl : BO 59 σ) : Tm (d + 5) m_X12_findLives 0 b σ [(0, .ref b), (1, .int (iI r))] [] (fun ro σ2 => ro = none ∧ (Fr [] [46, 59] [] σ σ2) ∧ (RG σ2) ∧ (LAB σ2) ∧ (BO 59 σ2)) := by
  have q1 := hit r (by omega) (by omega)
  refine tm_aload_n dX12_findLives_0 rfl 0 rfl ?_
  refine tm_iload_n dX12_findLives_1 rfl 1 rfl ?_
  refine tm_callV (M := m_X12_findLives) (pc := 2) (ix := 420) (M' := m_X12_findLabels) (As := [.int (iI r)]) (rest := []) dX12_findLives_2 ok_X12_findLabels im_X12_findLabels se_X12_findLabels ml12_420 np_X12_findLabels rfl rfl (Nat.le_of_ble_eq_true rfl) (Nat.le_of_ble_eq_true rfl) rfl (c_X12_findLabels (d + 2) (σ := σ) (r := r) (by omega) hR hit hok.jmp.lbr hl) (fun r1 σ2 hp => ?_)
  obtain ⟨rfl, f4, f5, f6, f7⟩ := hp
  show Tm _ _ 5 b σ2 [(0, .ref b), (1, .int (iI r))] [] _
  refine tm_aload_n dX12_findLives_5 rfl 0 rfl ?_
  refine tm_get (k := 9) (v := .ref (b + 1 + 7)) lay_12 dX12_findLives_6 (by decide) fl12_32 rfl ?_
  refine tm_iload_n dX12_findLives_9 rfl 1 rfl ?_
  refine tm_iald (z := r) (v := σ.2.1 9 r) dX12_findLives_10 (show mT[7]? = some (9, 0, 13) from rfl) (by omega) (by omega) (by decide) (ra_F f4 (by decide) (rfl)) ?_
  have g8 := RG.a hR 9 (r)
  refine tm_istore_n (L' := [(2, .int (iI (σ.2.1 9 r))), (0, .ref b), (1, .int (iI r))]) dX12_findLives_11 rfl (by decide) rfl ?_
  refine tm_iconst dX12_findLives_12 ?_
  refine tm_istore_n (L' := [(3, .int (iI 0)), (2, .int (iI (σ.2.1 9 r))), (0, .ref b), (1, .int (iI r))]) dX12_findLives_13 rfl (by decide) rfl ?_
  refine tm_sub [0, 1, 2, 3] rfl (l_lives1 (d + 4) (σ0 := σ2) (r := r) (n1 := σ.2.1 9 r) (by omega) (fun k14 σ15 F11 R12 f13 => ?_) _ (0) σ2 Fr.rfl f5 (by omega) (hbl.fr (by assumption) (by decide)) rfl)
  show Tm _ _ 38 b σ15 [(3, .int (iI k14)), (2, .int (iI (σ.2.1 9 r))), (0, .ref b), (1, .int (iI r))] [] _
  refine tm_iconst dX12_findLives_38 ?_
  refine tm_istore_n (L' := [(3, .int (iI 1)), (2, .int (iI (σ.2.1 9 r))), (0, .ref b), (1, .int (iI r))]) dX12_findLives_39 rfl (by decide) rfl ?_
  refine tm_sub [0, 1, 2, 3] rfl (l_lives2 (d) (σ0 := σ15) (r := r) (n1 := σ.2.1 9 r) (F := F) hr R12 (hit.fr (show Fr [] [46, 59] [] σ σ15 from ((Fr.rfl.trans (Fr.sub f4 (by decide) (by decide) (by decide))).trans (Fr.sub F11 (by decide) (by decide) (by decide)))) (by decide)) (hpar.fr (show Fr [] [46, 59] [] σ σ15 from ((Fr.rfl.trans (Fr.sub f4 (by decide) (by decide) (by decide))).trans (Fr.sub F11 (by decide) (by decide) (by decide)))) (by decide)) (hok.fr (show Fr [] [46, 59] [] σ σ15 from ((Fr.rfl.trans (Fr.sub f4 (by decide) (by decide) (by decide))).trans (Fr.sub F11 (by decide) (by decide) (by decide)))) (by decide)) (LAB.fr (by assumption) F11 (by decide)) (by rw [((show Fr [] [46, 59] [] σ σ15 from ((Fr.rfl.trans (Fr.sub f4 (by decide) (by decide) (by decide))).trans (Fr.sub F11 (by decide) (by decide) (by decide))))).2.1 9 (by decide)]) (fun w21 σ22 F18 R19 f20 => ?_) _ (1) σ15 Fr.rfl R12 (by omega) (by assumption) rfl)
  show Tm _ _ 183 b σ22 [(3, .int (iI w21)), (2, .int (iI (σ.2.1 9 r))), (0, .ref b), (1, .int (iI r))] [] _
  exact tm_vret rfl dX12_findLives_183 (⟨rfl, (((Fr.rfl.trans (Fr.sub f4 (by decide) (by decide) (by decide))).trans (Fr.sub F11 (by decide) (by decide) (by decide))).trans (Fr.sub F18 (by decide) (by decide) (by decide))), R19, LAB.fr (LAB.fr (by assumption) F11 (by decide)) F18 (by decide), f20⟩)
end
section
def SSA (σ : MS) : Prop := ∀ y, (σ.2.1 50 y = 2 → 0 ≤ σ.2.1 51 y ∧ σ.2.1 51 y < 192) ∧ (σ.2.1 52 y = 2 → 0 ≤ σ.2.1 53 y ∧ σ.2.1 53 y < 192)
def SCA (σ : MS) : Prop := ∀ y, (σ.2.1 55 y = 2 → 0 ≤ σ.2.1 56 y ∧ σ.2.1 56 y < 192) ∧ (σ.2.1 57 y = 2 → 0 ≤ σ.2.1 58 y ∧ σ.2.1 58 y < 192)
def fNow (n w ka a kb c : Int) (σ : MS) : MS := sA 58 n c (sA 57 n kb (sA 56 n a (sA 55 n ka (sA 54 n w σ))))
def fSt (y w ka a kb c : Int) (σ : MS) : MS := sA 53 y c (sA 52 y kb (sA 51 y a (sA 50 y ka (sA 49 y w σ))))
theorem fNow_fr {n w ka a kb c : Int} {σ : MS} : Fr [] [54, 55, 56, 57, 58] [] σ (fNow n w ka a kb c σ) := ((((Fr.rfl.A (by decide)).A (by decide)).A (by decide)).A (by decide)).A (by decide)
theorem SSA.fr {ss ks js : List Nat} {σ τ : MS} (h : SSA σ) (f : Fr ss ks js σ τ) (hk : ∀ k ∈ [50, 51, 52, 53], k ∉ ks) : SSA τ := by
  unfold SSA
  rw [f.q hk (k := 50) (by decide), f.q hk (k := 51) (by decide), f.q hk (k := 52) (by decide), f.q hk (k := 53) (by decide)]
  exact h
theorem SCA.fr {ss ks js : List Nat} {σ τ : MS} (h : SCA σ) (f : Fr ss ks js σ τ) (hk : ∀ k ∈ [55, 56, 57, 58], k ∉ ks) : SCA τ := by
  unfold SCA
  rw [f.q hk (k := 55) (by decide), f.q hk (k := 56) (by decide), f.q hk (k := 57) (by decide), f.q hk (k := 58) (by decide)]
  exact h
theorem SCA.put {σ : MS} (h : SCA σ) {n w ka a kb c : Int} (h1 : ka = 2 → 0 ≤ a ∧ a < 192) (h2 : kb = 2 → 0 ≤ c ∧ c < 192) : SCA (fNow n w ka a kb c σ) := fun y => by
  simp only [fNow, sA, if_true, show ¬ (55 = 58) by decide, show ¬ (55 = 57) by decide, show ¬ (55 = 56) by decide, show ¬ (56 = 58) by decide, show ¬ (56 = 57) by decide, show ¬ (56 = 55) by decide, show ¬ (57 = 58) by decide, show ¬ (57 = 56) by decide, show ¬ (57 = 55) by decide, show ¬ (58 = 57) by decide, show ¬ (58 = 56) by decide, show ¬ (58 = 55) by decide, show ¬ (58 = 54) by decide, show ¬ (57 = 54) by decide, show ¬ (56 = 54) by decide, show ¬ (55 = 54) by decide, if_false]
  by_cases e : y = n
  · simp only [if_pos e]; exact ⟨h1, h2⟩
  · simp only [if_neg e]; exact h y
theorem SSA.put {σ : MS} (h : SSA σ) {n w ka a kb c : Int} (h1 : ka = 2 → 0 ≤ a ∧ a < 192) (h2 : kb = 2 → 0 ≤ c ∧ c < 192) : SSA (fSt n w ka a kb c σ) := fun y => by
  simp only [fSt, sA, if_true, show ¬ (50 = 53) by decide, show ¬ (50 = 52) by decide, show ¬ (50 = 51) by decide, show ¬ (50 = 49) by decide, show ¬ (51 = 53) by decide, show ¬ (51 = 52) by decide, show ¬ (51 = 50) by decide, show ¬ (51 = 49) by decide, show ¬ (52 = 53) by decide, show ¬ (52 = 51) by decide, show ¬ (52 = 50) by decide, show ¬ (52 = 49) by decide, show ¬ (53 = 52) by decide, show ¬ (53 = 51) by decide, show ¬ (53 = 50) by decide, show ¬ (53 = 49) by decide, if_false]
  by_cases e : y = n
  · simp only [if_pos e]; exact ⟨h1, h2⟩
  · simp only [if_neg e]; exact h y
theorem RG.now {σ : MS} (h : RG σ) {n w ka a kb c : Int} (h1 : (-2147483648 ≤ w ∧ w ≤ 2147483647) ∧ (-2147483648 ≤ ka ∧ ka ≤ 2147483647) ∧ (-2147483648 ≤ a ∧ a ≤ 2147483647) ∧ (-2147483648 ≤ kb ∧ kb ≤ 2147483647) ∧ (-2147483648 ≤ c ∧ c ≤ 2147483647)) : RG (fNow n w ka a kb c σ) := ((((h.A h1.1).A h1.2.1).A h1.2.2.1).A h1.2.2.2.1).A h1.2.2.2.2

theorem fl12_114 : Cond.fieldLink RX12 114 (TX12 54).1 (TX12 54).2.1 (TX12 54).2.2.1 ∈ pWW := pw7 (List.mem_of_getElem? (i := 61) rfl) rfl
theorem fl12_117 : Cond.fieldLink RX12 117 (TX12 55).1 (TX12 55).2.1 (TX12 55).2.2.1 ∈ pWW := pw7 (List.mem_of_getElem? (i := 62) rfl) rfl
theorem fl12_120 : Cond.fieldLink RX12 120 (TX12 56).1 (TX12 56).2.1 (TX12 56).2.2.1 ∈ pWW := pw7 (List.mem_of_getElem? (i := 63) rfl) rfl
theorem fl12_123 : Cond.fieldLink RX12 123 (TX12 57).1 (TX12 57).2.1 (TX12 57).2.2.1 ∈ pWW := pw7 (List.mem_of_getElem? (i := 64) rfl) rfl
theorem fl12_126 : Cond.fieldLink RX12 126 (TX12 58).1 (TX12 58).2.1 (TX12 58).2.2.1 ∈ pWW := pw7 (List.mem_of_getElem? (i := 65) rfl) rfl
theorem dX12_setNow_0 : decode cX12_setNow 0 = .ok (.aload_n 0, 1) := by decide +kernel
theorem dX12_setNow_1 : decode cX12_setNow 1 = .ok (.getfield 114, 3) := by decide +kernel
theorem dX12_setNow_4 : decode cX12_setNow 4 = .ok (.iload_n 1, 1) := by decide +kernel
theorem dX12_setNow_5 : decode cX12_setNow 5 = .ok (.iload_n 2, 1) := by decide +kernel
theorem dX12_setNow_6 : decode cX12_setNow 6 = .ok (.iastore, 1) := by decide +kernel
theorem dX12_setNow_7 : decode cX12_setNow 7 = .ok (.aload_n 0, 1) := by decide +kernel
theorem dX12_setNow_8 : decode cX12_setNow 8 = .ok (.getfield 117, 3) := by decide +kernel
theorem dX12_setNow_11 : decode cX12_setNow 11 = .ok (.iload_n 1, 1) := by decide +kernel
theorem dX12_setNow_12 : decode cX12_setNow 12 = .ok (.iload_n 3, 1) := by decide +kernel
theorem dX12_setNow_13 : decode cX12_setNow 13 = .ok (.iastore, 1) := by decide +kernel
theorem dX12_setNow_14 : decode cX12_setNow 14 = .ok (.aload_n 0, 1) := by decide +kernel
theorem dX12_setNow_15 : decode cX12_setNow 15 = .ok (.getfield 120, 3) := by decide +kernel
theorem dX12_setNow_18 : decode cX12_setNow 18 = .ok (.iload_n 1, 1) := by decide +kernel
theorem dX12_setNow_19 : decode cX12_setNow 19 = .ok (.iload 4, 2) := by decide +kernel
theorem dX12_setNow_21 : decode cX12_setNow 21 = .ok (.iastore, 1) := by decide +kernel
theorem dX12_setNow_22 : decode cX12_setNow 22 = .ok (.aload_n 0, 1) := by decide +kernel
theorem dX12_setNow_23 : decode cX12_setNow 23 = .ok (.getfield 123, 3) := by decide +kernel
theorem dX12_setNow_26 : decode cX12_setNow 26 = .ok (.iload_n 1, 1) := by decide +kernel
theorem dX12_setNow_27 : decode cX12_setNow 27 = .ok (.iload 5, 2) := by decide +kernel
theorem dX12_setNow_29 : decode cX12_setNow 29 = .ok (.iastore, 1) := by decide +kernel
theorem dX12_setNow_30 : decode cX12_setNow 30 = .ok (.aload_n 0, 1) := by decide +kernel
theorem dX12_setNow_31 : decode cX12_setNow 31 = .ok (.getfield 126, 3) := by decide +kernel
theorem dX12_setNow_34 : decode cX12_setNow 34 = .ok (.iload_n 1, 1) := by decide +kernel
theorem dX12_setNow_35 : decode cX12_setNow 35 = .ok (.iload 6, 2) := by decide +kernel
theorem dX12_setNow_37 : decode cX12_setNow 37 = .ok (.iastore, 1) := by decide +kernel
theorem dX12_setNow_38 : decode cX12_setNow 38 = .ok (.return_, 1) := by decide +kernel
set_option maxHeartbeats 40000000 in
set_option maxRecDepth 20000 in
theorem c_X12_setNow (d : Nat) {b : Nat} {σ : MS} {n : Int} {w : Int} {ka : Int} {a : Int} {kb : Int} {c : Int} (hn : 0 ≤ n ∧ n < 144) : Tm (d + 1) m_X12_setNow 0 b σ [(0, .ref b), (1, .int (iI n)), (2, .int (iI w)), (3, .int (iI ka)), (4, .int (iI a)), (5, .int (iI kb)), (6, .int (iI c))] [] (fun ro σ2 => ro = none ∧ (σ2 = fNow n w ka a kb c σ)) := by
  refine tm_aload_n dX12_setNow_0 rfl 0 rfl ?_
  refine tm_get (k := 54) (v := .ref (b + 1 + 32)) lay_12 dX12_setNow_1 (by decide) fl12_114 rfl ?_
  refine tm_iload_n dX12_setNow_4 rfl 1 rfl ?_
  refine tm_iload_n dX12_setNow_5 rfl 2 rfl ?_
  refine tm_iast (z := n) (v := w) dX12_setNow_6 (show mT[32]? = some (54, 0, 144) from rfl) (by omega) (by omega) (by decide) ?_
  refine tm_aload_n dX12_setNow_7 rfl 0 rfl ?_
  refine tm_get (k := 55) (v := .ref (b + 1 + 33)) lay_12 dX12_setNow_8 (by decide) fl12_117 rfl ?_
  refine tm_iload_n dX12_setNow_11 rfl 1 rfl ?_
  refine tm_iload_n dX12_setNow_12 rfl 3 rfl ?_
  refine tm_iast (z := n) (v := ka) dX12_setNow_13 (show mT[33]? = some (55, 0, 144) from rfl) (by omega) (by omega) (by decide) ?_
  refine tm_aload_n dX12_setNow_14 rfl 0 rfl ?_
  refine tm_get (k := 56) (v := .ref (b + 1 + 34)) lay_12 dX12_setNow_15 (by decide) fl12_120 rfl ?_
  refine tm_iload_n dX12_setNow_18 rfl 1 rfl ?_
  refine tm_iload dX12_setNow_19 4 rfl ?_
  refine tm_iast (z := n) (v := a) dX12_setNow_21 (show mT[34]? = some (56, 0, 144) from rfl) (by omega) (by omega) (by decide) ?_
  refine tm_aload_n dX12_setNow_22 rfl 0 rfl ?_
  refine tm_get (k := 57) (v := .ref (b + 1 + 35)) lay_12 dX12_setNow_23 (by decide) fl12_123 rfl ?_
  refine tm_iload_n dX12_setNow_26 rfl 1 rfl ?_
  refine tm_iload dX12_setNow_27 5 rfl ?_
  refine tm_iast (z := n) (v := kb) dX12_setNow_29 (show mT[35]? = some (57, 0, 144) from rfl) (by omega) (by omega) (by decide) ?_
  refine tm_aload_n dX12_setNow_30 rfl 0 rfl ?_
  refine tm_get (k := 58) (v := .ref (b + 1 + 36)) lay_12 dX12_setNow_31 (by decide) fl12_126 rfl ?_
  refine tm_iload_n dX12_setNow_34 rfl 1 rfl ?_
  refine tm_iload dX12_setNow_35 6 rfl ?_
  refine tm_iast (z := n) (v := c) dX12_setNow_37 (show mT[36]? = some (58, 0, 144) from rfl) (by omega) (by omega) (by decide) ?_
  exact tm_vret rfl dX12_setNow_38 (⟨rfl, rfl⟩)
theorem fl12_99 : Cond.fieldLink RX12 99 (TX12 49).1 (TX12 49).2.1 (TX12 49).2.2.1 ∈ pWW := pw7 (List.mem_of_getElem? (i := 56) rfl) rfl
theorem fl12_102 : Cond.fieldLink RX12 102 (TX12 50).1 (TX12 50).2.1 (TX12 50).2.2.1 ∈ pWW := pw7 (List.mem_of_getElem? (i := 57) rfl) rfl
theorem fl12_105 : Cond.fieldLink RX12 105 (TX12 51).1 (TX12 51).2.1 (TX12 51).2.2.1 ∈ pWW := pw7 (List.mem_of_getElem? (i := 58) rfl) rfl
theorem fl12_108 : Cond.fieldLink RX12 108 (TX12 52).1 (TX12 52).2.1 (TX12 52).2.2.1 ∈ pWW := pw7 (List.mem_of_getElem? (i := 59) rfl) rfl
theorem fl12_111 : Cond.fieldLink RX12 111 (TX12 53).1 (TX12 53).2.1 (TX12 53).2.2.1 ∈ pWW := pw7 (List.mem_of_getElem? (i := 60) rfl) rfl
theorem ml12_416 : Cond.methodLink RX12 416 yX12_setNow ∈ pWW := pw9 (List.mem_of_getElem? (i := 82) rfl) rfl
theorem dX12_behindItem_2 : decode cX12_behindItem 2 = .ok (.iload_n 3, 1) := by decide +kernel
theorem dX12_behindItem_3 : decode cX12_behindItem 3 = .ok (.sipush 144, 3) := by decide +kernel
theorem dX12_behindItem_6 : decode cX12_behindItem 6 = .ok (.if_icmp .ge 64, 3) := by decide +kernel
theorem dX12_behindItem_9 : decode cX12_behindItem 9 = .ok (.sipush 31824, 3) := by decide +kernel
theorem dX12_behindItem_12 : decode cX12_behindItem 12 = .ok (.iload_n 1, 1) := by decide +kernel
theorem dX12_behindItem_13 : decode cX12_behindItem 13 = .ok (.imul, 1) := by decide +kernel
theorem dX12_behindItem_14 : decode cX12_behindItem 14 = .ok (.sipush 144, 3) := by decide +kernel
theorem dX12_behindItem_17 : decode cX12_behindItem 17 = .ok (.iload_n 2, 1) := by decide +kernel
theorem dX12_behindItem_18 : decode cX12_behindItem 18 = .ok (.imul, 1) := by decide +kernel
theorem dX12_behindItem_19 : decode cX12_behindItem 19 = .ok (.iadd, 1) := by decide +kernel
theorem dX12_behindItem_20 : decode cX12_behindItem 20 = .ok (.iload_n 3, 1) := by decide +kernel
theorem dX12_behindItem_21 : decode cX12_behindItem 21 = .ok (.iadd, 1) := by decide +kernel
theorem dX12_behindItem_22 : decode cX12_behindItem 22 = .ok (.istore 4, 2) := by decide +kernel
theorem dX12_behindItem_24 : decode cX12_behindItem 24 = .ok (.aload_n 0, 1) := by decide +kernel
theorem dX12_behindItem_25 : decode cX12_behindItem 25 = .ok (.iload_n 3, 1) := by decide +kernel
theorem dX12_behindItem_26 : decode cX12_behindItem 26 = .ok (.aload_n 0, 1) := by decide +kernel
theorem dX12_behindItem_27 : decode cX12_behindItem 27 = .ok (.getfield 99, 3) := by decide +kernel
theorem dX12_behindItem_30 : decode cX12_behindItem 30 = .ok (.iload 4, 2) := by decide +kernel
theorem dX12_behindItem_32 : decode cX12_behindItem 32 = .ok (.iaload, 1) := by decide +kernel
theorem dX12_behindItem_33 : decode cX12_behindItem 33 = .ok (.aload_n 0, 1) := by decide +kernel
theorem dX12_behindItem_34 : decode cX12_behindItem 34 = .ok (.getfield 102, 3) := by decide +kernel
theorem dX12_behindItem_37 : decode cX12_behindItem 37 = .ok (.iload 4, 2) := by decide +kernel
theorem dX12_behindItem_39 : decode cX12_behindItem 39 = .ok (.iaload, 1) := by decide +kernel
theorem dX12_behindItem_40 : decode cX12_behindItem 40 = .ok (.aload_n 0, 1) := by decide +kernel
theorem dX12_behindItem_41 : decode cX12_behindItem 41 = .ok (.getfield 105, 3) := by decide +kernel
theorem dX12_behindItem_44 : decode cX12_behindItem 44 = .ok (.iload 4, 2) := by decide +kernel
theorem dX12_behindItem_46 : decode cX12_behindItem 46 = .ok (.iaload, 1) := by decide +kernel
theorem dX12_behindItem_47 : decode cX12_behindItem 47 = .ok (.aload_n 0, 1) := by decide +kernel
theorem dX12_behindItem_48 : decode cX12_behindItem 48 = .ok (.getfield 108, 3) := by decide +kernel
theorem dX12_behindItem_51 : decode cX12_behindItem 51 = .ok (.iload 4, 2) := by decide +kernel
theorem dX12_behindItem_53 : decode cX12_behindItem 53 = .ok (.iaload, 1) := by decide +kernel
theorem dX12_behindItem_54 : decode cX12_behindItem 54 = .ok (.aload_n 0, 1) := by decide +kernel
theorem dX12_behindItem_55 : decode cX12_behindItem 55 = .ok (.getfield 111, 3) := by decide +kernel
theorem dX12_behindItem_58 : decode cX12_behindItem 58 = .ok (.iload 4, 2) := by decide +kernel
theorem dX12_behindItem_60 : decode cX12_behindItem 60 = .ok (.iaload, 1) := by decide +kernel
theorem dX12_behindItem_61 : decode cX12_behindItem 61 = .ok (.invokevirtual 416, 3) := by decide +kernel
theorem dX12_behindItem_64 : decode cX12_behindItem 64 = .ok (.iinc 3 1, 3) := by decide +kernel
theorem dX12_behindItem_67 : decode cX12_behindItem 67 = .ok (.goto (-65), 3) := by decide +kernel
set_option maxHeartbeats 40000000 in
set_option maxRecDepth 20000 in
theorem l_behind1 (d : Nat) {b : Nat} {σ0 : MS} {r : Int} {k : Int} {post : Option Value → MS → Prop} (hr : 0 ≤ r ∧ r < 6) (hR0 : RG σ0) (hss : SSA σ0) (hk : 0 ≤ k ∧ k ≤ 220) (hx_70 : ∀ (n1 : Int) (σ : MS) , (Fr [] [54, 55, 56, 57, 58] [] σ0 σ) → (RG σ) → (SCA σ) → Tm (d + 2) m_X12_behindItem 70 b σ [(3, .int (iI n1)), (0, .ref b), (1, .int (iI r)), (2, .int (iI k))] [] post) : ∀ (n : Nat) (n1 : Int) (σ : MS) , (Fr [] [54, 55, 56, 57, 58] [] σ0 σ) → (RG σ) → (0 ≤ n1 ∧ n1 ≤ 144) → (SCA σ) → (144 - n1).toNat = n → Tm (d + 2) m_X12_behindItem 2 b σ [(3, .int (iI n1)), (0, .ref b), (1, .int (iI r)), (2, .int (iI k))] [] post := by
  intro n
  induction n using Nat.strongRecOn with
  | _ n ih =>
    intro n1 σ hF hR h0 hsc hm
    refine tm_iload_n dX12_behindItem_2 rfl 0 rfl ?_
    refine tm_sipush dX12_behindItem_3 (by decide) ?_
    refine tm_icmp_ge (tgt := 70) dX12_behindItem_6 (by decide) ⟨by omega, by omega⟩ ⟨by decide, by decide⟩ (fun h1 => ?_) (fun h1 => ?_)
    · exact tm_sub [0, 1, 2, 3] rfl (hx_70 (n1) σ (Fr.rfl.trans (Fr.sub hF (by decide) (by decide) (by decide))) hR hsc)
    · refine tm_sipush dX12_behindItem_9 (by decide) ?_
      refine tm_iload_n dX12_behindItem_12 rfl 2 rfl ?_
      refine tm_imul dX12_behindItem_13 ?_
      refine tm_sipush dX12_behindItem_14 (by decide) ?_
      refine tm_iload_n dX12_behindItem_17 rfl 3 rfl ?_
      refine tm_imul dX12_behindItem_18 ?_
      refine tm_iadd dX12_behindItem_19 ?_
      refine tm_iload_n dX12_behindItem_20 rfl 0 rfl ?_
      refine tm_iadd dX12_behindItem_21 ?_
      refine tm_istore (L' := [(4, .int (iI (((31824 * r) + (144 * k)) + n1))), (3, .int (iI n1)), (0, .ref b), (1, .int (iI r)), (2, .int (iI k))]) dX12_behindItem_22 (by decide) rfl ?_
      refine tm_aload_n dX12_behindItem_24 rfl 2 rfl ?_
      refine tm_iload_n dX12_behindItem_25 rfl 1 rfl ?_
      refine tm_aload_n dX12_behindItem_26 rfl 2 rfl ?_
      refine tm_get (k := 49) (v := .ref (b + 1 + 27)) lay_12 dX12_behindItem_27 (by decide) fl12_99 rfl ?_
      refine tm_iload dX12_behindItem_30 0 rfl ?_
      refine tm_iald (z := ((31824 * r) + (144 * k)) + n1) (v := σ0.2.1 49 (((31824 * r) + (144 * k)) + n1)) dX12_behindItem_32 (show mT[27]? = some (49, 0, 190944) from rfl) (by omega) (by omega) (by decide) (ra_F hF (by decide) (rfl)) ?_
      have g2 := RG.a hR0 49 (((31824 * r) + (144 * k)) + n1)
      refine tm_aload_n dX12_behindItem_33 rfl 2 rfl ?_
      refine tm_get (k := 50) (v := .ref (b + 1 + 28)) lay_12 dX12_behindItem_34 (by decide) fl12_102 rfl ?_
      refine tm_iload dX12_behindItem_37 0 rfl ?_
      refine tm_iald (z := ((31824 * r) + (144 * k)) + n1) (v := σ0.2.1 50 (((31824 * r) + (144 * k)) + n1)) dX12_behindItem_39 (show mT[28]? = some (50, 0, 190944) from rfl) (by omega) (by omega) (by decide) (ra_F hF (by decide) (rfl)) ?_
      have g3 := RG.a hR0 50 (((31824 * r) + (144 * k)) + n1)
      refine tm_aload_n dX12_behindItem_40 rfl 2 rfl ?_
      refine tm_get (k := 51) (v := .ref (b + 1 + 29)) lay_12 dX12_behindItem_41 (by decide) fl12_105 rfl ?_
      refine tm_iload dX12_behindItem_44 0 rfl ?_
      refine tm_iald (z := ((31824 * r) + (144 * k)) + n1) (v := σ0.2.1 51 (((31824 * r) + (144 * k)) + n1)) dX12_behindItem_46 (show mT[29]? = some (51, 0, 190944) from rfl) (by omega) (by omega) (by decide) (ra_F hF (by decide) (rfl)) ?_
      have g4 := RG.a hR0 51 (((31824 * r) + (144 * k)) + n1)
      refine tm_aload_n dX12_behindItem_47 rfl 2 rfl ?_
      refine tm_get (k := 52) (v := .ref (b + 1 + 30)) lay_12 dX12_behindItem_48 (by decide) fl12_108 rfl ?_
      refine tm_iload dX12_behindItem_51 0 rfl ?_
      refine tm_iald (z := ((31824 * r) + (144 * k)) + n1) (v := σ0.2.1 52 (((31824 * r) + (144 * k)) + n1)) dX12_behindItem_53 (show mT[30]? = some (52, 0, 190944) from rfl) (by omega) (by omega) (by decide) (ra_F hF (by decide) (rfl)) ?_
      have g5 := RG.a hR0 52 (((31824 * r) + (144 * k)) + n1)
      refine tm_aload_n dX12_behindItem_54 rfl 2 rfl ?_
      refine tm_get (k := 53) (v := .ref (b + 1 + 31)) lay_12 dX12_behindItem_55 (by decide) fl12_111 rfl ?_
      refine tm_iload dX12_behindItem_58 0 rfl ?_
      refine tm_iald (z := ((31824 * r) + (144 * k)) + n1) (v := σ0.2.1 53 (((31824 * r) + (144 * k)) + n1)) dX12_behindItem_60 (show mT[31]? = some (53, 0, 190944) from rfl) (by omega) (by omega) (by decide) (ra_F hF (by decide) (rfl)) ?_
      have g6 := RG.a hR0 53 (((31824 * r) + (144 * k)) + n1)
      refine tm_callV (M := m_X12_behindItem) (pc := 61) (ix := 416) (M' := m_X12_setNow) (As := [.int (iI n1), .int (iI (σ0.2.1 49 (((31824 * r) + (144 * k)) + n1))), .int (iI (σ0.2.1 50 (((31824 * r) + (144 * k)) + n1))), .int (iI (σ0.2.1 51 (((31824 * r) + (144 * k)) + n1))), .int (iI (σ0.2.1 52 (((31824 * r) + (144 * k)) + n1))), .int (iI (σ0.2.1 53 (((31824 * r) + (144 * k)) + n1)))]) (rest := []) dX12_behindItem_61 ok_X12_setNow im_X12_setNow se_X12_setNow ml12_416 np_X12_setNow rfl rfl (Nat.le_of_ble_eq_true rfl) (Nat.le_of_ble_eq_true rfl) rfl (c_X12_setNow (d) (σ := σ) (n := n1) (w := σ0.2.1 49 (((31824 * r) + (144 * k)) + n1)) (ka := σ0.2.1 50 (((31824 * r) + (144 * k)) + n1)) (a := σ0.2.1 51 (((31824 * r) + (144 * k)) + n1)) (kb := σ0.2.1 52 (((31824 * r) + (144 * k)) + n1)) (c := σ0.2.1 53 (((31824 * r) + (144 * k)) + n1)) (by omega)) (fun r7 σ8 hp => ?_)
      obtain ⟨rfl, f10⟩ := hp
      subst f10
      show Tm _ _ 64 b (fNow (n1) (σ0.2.1 49 (((31824 * r) + (144 * k)) + n1)) (σ0.2.1 50 (((31824 * r) + (144 * k)) + n1)) (σ0.2.1 51 (((31824 * r) + (144 * k)) + n1)) (σ0.2.1 52 (((31824 * r) + (144 * k)) + n1)) (σ0.2.1 53 (((31824 * r) + (144 * k)) + n1)) σ) [(4, .int (iI (((31824 * r) + (144 * k)) + n1))), (3, .int (iI n1)), (0, .ref b), (1, .int (iI r)), (2, .int (iI k))] [] _
      refine tm_iinc (q0 := 1) (L' := [(3, .int (iI (n1 + 1))), (4, .int (iI (((31824 * r) + (144 * k)) + n1))), (0, .ref b), (1, .int (iI r)), (2, .int (iI k))]) dX12_behindItem_64 rfl (by decide) rfl ?_
      refine tm_goto (tgt := 2) dX12_behindItem_67 (by decide) ?_
      exact tm_sub [0, 2, 3, 4] rfl (ih _ (by omega) (n1 + 1) (fNow (n1) (σ0.2.1 49 (((31824 * r) + (144 * k)) + n1)) (σ0.2.1 50 (((31824 * r) + (144 * k)) + n1)) (σ0.2.1 51 (((31824 * r) + (144 * k)) + n1)) (σ0.2.1 52 (((31824 * r) + (144 * k)) + n1)) (σ0.2.1 53 (((31824 * r) + (144 * k)) + n1)) σ) ((Fr.rfl.trans (Fr.sub hF (by decide) (by decide) (by decide))).trans (Fr.sub fNow_fr (by decide) (by decide) (by decide))) (hR.now (by omega)) (by omega) (hsc.put (hss _).1 (hss _).2) rfl)
theorem dX12_behindItem_209 : decode cX12_behindItem 209 = .ok (.iload 4, 2) := by decide +kernel
theorem dX12_behindItem_211 : decode cX12_behindItem 211 = .ok (.bipush 12, 2) := by decide +kernel
theorem dX12_behindItem_213 : decode cX12_behindItem 213 = .ok (.if_icmp .ge 31, 3) := by decide +kernel
theorem dX12_behindItem_216 : decode cX12_behindItem 216 = .ok (.aload_n 0, 1) := by decide +kernel
theorem dX12_behindItem_217 : decode cX12_behindItem 217 = .ok (.bipush 12, 2) := by decide +kernel
theorem dX12_behindItem_219 : decode cX12_behindItem 219 = .ok (.aload_n 0, 1) := by decide +kernel
theorem dX12_behindItem_220 : decode cX12_behindItem 220 = .ok (.getfield 17, 3) := by decide +kernel
theorem dX12_behindItem_223 : decode cX12_behindItem 223 = .ok (.iload_n 3, 1) := by decide +kernel
theorem dX12_behindItem_224 : decode cX12_behindItem 224 = .ok (.iaload, 1) := by decide +kernel
theorem dX12_behindItem_225 : decode cX12_behindItem 225 = .ok (.imul, 1) := by decide +kernel
theorem dX12_behindItem_226 : decode cX12_behindItem 226 = .ok (.iload 4, 2) := by decide +kernel
theorem dX12_behindItem_228 : decode cX12_behindItem 228 = .ok (.iadd, 1) := by decide +kernel
theorem dX12_behindItem_229 : decode cX12_behindItem 229 = .ok (.bipush 11, 2) := by decide +kernel
theorem dX12_behindItem_231 : decode cX12_behindItem 231 = .ok (.iconst 0, 1) := by decide +kernel
theorem dX12_behindItem_232 : decode cX12_behindItem 232 = .ok (.iconst 0, 1) := by decide +kernel
theorem dX12_behindItem_233 : decode cX12_behindItem 233 = .ok (.iconst 0, 1) := by decide +kernel
theorem dX12_behindItem_234 : decode cX12_behindItem 234 = .ok (.iconst 0, 1) := by decide +kernel
theorem dX12_behindItem_235 : decode cX12_behindItem 235 = .ok (.invokevirtual 416, 3) := by decide +kernel
theorem dX12_behindItem_238 : decode cX12_behindItem 238 = .ok (.iinc 4 1, 3) := by decide +kernel
theorem dX12_behindItem_241 : decode cX12_behindItem 241 = .ok (.goto (-32), 3) := by decide +kernel
set_option maxHeartbeats 40000000 in
set_option maxRecDepth 20000 in
theorem l_behind2 (d : Nat) {b : Nat} {σ0 : MS} {r : Int} {k : Int} {post : Option Value → MS → Prop} (hr : 0 ≤ r ∧ r < 6) (hR0 : RG σ0) (hk : 0 ≤ k ∧ k < 220) (hfe : 0 ≤ σ0.2.1 4 (220 * r + k) ∧ σ0.2.1 4 (220 * r + k) < 12) (hx_244 : ∀ (n1 : Int) (σ : MS) , (Fr [] [54, 55, 56, 57, 58] [] σ0 σ) → (RG σ) → (SCA σ) → Tm (d + 2) m_X12_behindItem 244 b σ [(4, .int (iI n1)), (3, .int (iI (220 * r + k))), (0, .ref b), (1, .int (iI r)), (2, .int (iI k))] [] post) : ∀ (n : Nat) (n1 : Int) (σ : MS) , (Fr [] [54, 55, 56, 57, 58] [] σ0 σ) → (RG σ) → (0 ≤ n1 ∧ n1 ≤ 12) → (SCA σ) → (12 - n1).toNat = n → Tm (d + 2) m_X12_behindItem 209 b σ [(4, .int (iI n1)), (3, .int (iI (220 * r + k))), (0, .ref b), (1, .int (iI r)), (2, .int (iI k))] [] post := by
  intro n
  induction n using Nat.strongRecOn with
  | _ n ih =>
    intro n1 σ hF hR h0 hsc hm
    refine tm_iload dX12_behindItem_209 0 rfl ?_
    refine tm_bipush dX12_behindItem_211 (by decide) ?_
    refine tm_icmp_ge (tgt := 244) dX12_behindItem_213 (by decide) ⟨by omega, by omega⟩ ⟨by decide, by decide⟩ (fun h1 => ?_) (fun h1 => ?_)
    · exact tm_sub [0, 1, 2, 3, 4] rfl (hx_244 (n1) σ (Fr.rfl.trans (Fr.sub hF (by decide) (by decide) (by decide))) hR hsc)
    · refine tm_aload_n dX12_behindItem_216 rfl 2 rfl ?_
      refine tm_bipush dX12_behindItem_217 (by decide) ?_
      refine tm_aload_n dX12_behindItem_219 rfl 2 rfl ?_
      refine tm_get (k := 4) (v := .ref (b + 1 + 2)) lay_12 dX12_behindItem_220 (by decide) fl12_17 rfl ?_
      refine tm_iload_n dX12_behindItem_223 rfl 1 rfl ?_
      refine tm_iald (z := 220 * r + k) (v := σ0.2.1 4 (220 * r + k)) dX12_behindItem_224 (show mT[2]? = some (4, 0, 2860) from rfl) (by omega) (by omega) (by decide) (ra_F hF (by decide) (rfl)) ?_
      have g2 := RG.a hR0 4 (220 * r + k)
      refine tm_imul dX12_behindItem_225 ?_
      refine tm_iload dX12_behindItem_226 0 rfl ?_
      refine tm_iadd dX12_behindItem_228 ?_
      refine tm_bipush dX12_behindItem_229 (by decide) ?_
      refine tm_iconst dX12_behindItem_231 ?_
      refine tm_iconst dX12_behindItem_232 ?_
      refine tm_iconst dX12_behindItem_233 ?_
      refine tm_iconst dX12_behindItem_234 ?_
      refine tm_callV (M := m_X12_behindItem) (pc := 235) (ix := 416) (M' := m_X12_setNow) (As := [.int (iI ((12 * (σ0.2.1 4 (220 * r + k))) + n1)), .int (iI 11), .int (iI 0), .int (iI 0), .int (iI 0), .int (iI 0)]) (rest := []) dX12_behindItem_235 ok_X12_setNow im_X12_setNow se_X12_setNow ml12_416 np_X12_setNow rfl rfl (Nat.le_of_ble_eq_true rfl) (Nat.le_of_ble_eq_true rfl) rfl (c_X12_setNow (d) (σ := σ) (n := (12 * (σ0.2.1 4 (220 * r + k))) + n1) (w := 11) (ka := 0) (a := 0) (kb := 0) (c := 0) (by omega)) (fun r3 σ4 hp => ?_)
      obtain ⟨rfl, f6⟩ := hp
      subst f6
      show Tm _ _ 238 b (fNow ((12 * (σ0.2.1 4 (220 * r + k))) + n1) (11) (0) (0) (0) (0) σ) [(4, .int (iI n1)), (3, .int (iI (220 * r + k))), (0, .ref b), (1, .int (iI r)), (2, .int (iI k))] [] _
      refine tm_iinc (q0 := 0) (L' := [(4, .int (iI (n1 + 1))), (3, .int (iI (220 * r + k))), (0, .ref b), (1, .int (iI r)), (2, .int (iI k))]) dX12_behindItem_238 rfl (by decide) rfl ?_
      refine tm_goto (tgt := 209) dX12_behindItem_241 (by decide) ?_
      exact tm_sub [0, 1, 2, 3, 4] rfl (ih _ (by omega) (n1 + 1) (fNow ((12 * (σ0.2.1 4 (220 * r + k))) + n1) (11) (0) (0) (0) (0) σ) ((Fr.rfl.trans (Fr.sub hF (by decide) (by decide) (by decide))).trans (Fr.sub fNow_fr (by decide) (by decide) (by decide))) (hR.now (by omega)) (by omega) (hsc.put (by omega) (by omega)) rfl)
theorem dX12_behindItem_247 : decode cX12_behindItem 247 = .ok (.iload 4, 2) := by decide +kernel
theorem dX12_behindItem_249 : decode cX12_behindItem 249 = .ok (.sipush 144, 3) := by decide +kernel
theorem dX12_behindItem_252 : decode cX12_behindItem 252 = .ok (.if_icmp .ge 87, 3) := by decide +kernel
theorem dX12_behindItem_255 : decode cX12_behindItem 255 = .ok (.aload_n 0, 1) := by decide +kernel
theorem dX12_behindItem_256 : decode cX12_behindItem 256 = .ok (.getfield 13, 3) := by decide +kernel
theorem dX12_behindItem_259 : decode cX12_behindItem 259 = .ok (.iload_n 3, 1) := by decide +kernel
theorem dX12_behindItem_260 : decode cX12_behindItem 260 = .ok (.iaload, 1) := by decide +kernel
theorem dX12_behindItem_261 : decode cX12_behindItem 261 = .ok (.invokestatic 192, 3) := by decide +kernel
theorem dX12_behindItem_264 : decode cX12_behindItem 264 = .ok (.ifCond .eq 75, 3) := by decide +kernel
theorem dX12_behindItem_267 : decode cX12_behindItem 267 = .ok (.aload_n 0, 1) := by decide +kernel
theorem dX12_behindItem_268 : decode cX12_behindItem 268 = .ok (.getfield 117, 3) := by decide +kernel
theorem dX12_behindItem_271 : decode cX12_behindItem 271 = .ok (.iload 4, 2) := by decide +kernel
theorem dX12_behindItem_273 : decode cX12_behindItem 273 = .ok (.iaload, 1) := by decide +kernel
theorem dX12_behindItem_274 : decode cX12_behindItem 274 = .ok (.iconst 2, 1) := by decide +kernel
theorem dX12_behindItem_275 : decode cX12_behindItem 275 = .ok (.if_icmp .ne 19, 3) := by decide +kernel
theorem dX12_behindItem_294 : decode cX12_behindItem 294 = .ok (.aload_n 0, 1) := by decide +kernel
theorem dX12_behindItem_295 : decode cX12_behindItem 295 = .ok (.getfield 123, 3) := by decide +kernel
theorem dX12_behindItem_298 : decode cX12_behindItem 298 = .ok (.iload 4, 2) := by decide +kernel
theorem dX12_behindItem_300 : decode cX12_behindItem 300 = .ok (.iaload, 1) := by decide +kernel
theorem dX12_behindItem_301 : decode cX12_behindItem 301 = .ok (.iconst 2, 1) := by decide +kernel
theorem dX12_behindItem_302 : decode cX12_behindItem 302 = .ok (.if_icmp .ne 31, 3) := by decide +kernel
theorem dX12_behindItem_333 : decode cX12_behindItem 333 = .ok (.iinc 4 1, 3) := by decide +kernel
theorem dX12_behindItem_336 : decode cX12_behindItem 336 = .ok (.goto (-89), 3) := by decide +kernel
theorem dX12_behindItem_305 : decode cX12_behindItem 305 = .ok (.aload_n 0, 1) := by decide +kernel
theorem dX12_behindItem_306 : decode cX12_behindItem 306 = .ok (.getfield 126, 3) := by decide +kernel
theorem dX12_behindItem_309 : decode cX12_behindItem 309 = .ok (.iload 4, 2) := by decide +kernel
theorem dX12_behindItem_311 : decode cX12_behindItem 311 = .ok (.iaload, 1) := by decide +kernel
theorem dX12_behindItem_312 : decode cX12_behindItem 312 = .ok (.aload_n 0, 1) := by decide +kernel
theorem dX12_behindItem_313 : decode cX12_behindItem 313 = .ok (.getfield 17, 3) := by decide +kernel
theorem dX12_behindItem_316 : decode cX12_behindItem 316 = .ok (.iload_n 3, 1) := by decide +kernel
theorem dX12_behindItem_317 : decode cX12_behindItem 317 = .ok (.iaload, 1) := by decide +kernel
theorem dX12_behindItem_318 : decode cX12_behindItem 318 = .ok (.if_icmp .ne 15, 3) := by decide +kernel
theorem dX12_behindItem_321 : decode cX12_behindItem 321 = .ok (.aload_n 0, 1) := by decide +kernel
theorem dX12_behindItem_322 : decode cX12_behindItem 322 = .ok (.iload 4, 2) := by decide +kernel
theorem dX12_behindItem_324 : decode cX12_behindItem 324 = .ok (.bipush 13, 2) := by decide +kernel
theorem dX12_behindItem_326 : decode cX12_behindItem 326 = .ok (.iconst 0, 1) := by decide +kernel
theorem dX12_behindItem_327 : decode cX12_behindItem 327 = .ok (.iconst 0, 1) := by decide +kernel
theorem dX12_behindItem_328 : decode cX12_behindItem 328 = .ok (.iconst 0, 1) := by decide +kernel
theorem dX12_behindItem_329 : decode cX12_behindItem 329 = .ok (.iconst 0, 1) := by decide +kernel
theorem dX12_behindItem_330 : decode cX12_behindItem 330 = .ok (.invokevirtual 416, 3) := by decide +kernel
theorem dX12_behindItem_278 : decode cX12_behindItem 278 = .ok (.aload_n 0, 1) := by decide +kernel
theorem dX12_behindItem_279 : decode cX12_behindItem 279 = .ok (.getfield 120, 3) := by decide +kernel
theorem dX12_behindItem_282 : decode cX12_behindItem 282 = .ok (.iload 4, 2) := by decide +kernel
theorem dX12_behindItem_284 : decode cX12_behindItem 284 = .ok (.iaload, 1) := by decide +kernel
theorem dX12_behindItem_285 : decode cX12_behindItem 285 = .ok (.aload_n 0, 1) := by decide +kernel
theorem dX12_behindItem_286 : decode cX12_behindItem 286 = .ok (.getfield 17, 3) := by decide +kernel
theorem dX12_behindItem_289 : decode cX12_behindItem 289 = .ok (.iload_n 3, 1) := by decide +kernel
theorem dX12_behindItem_290 : decode cX12_behindItem 290 = .ok (.iaload, 1) := by decide +kernel
theorem dX12_behindItem_291 : decode cX12_behindItem 291 = .ok (.if_icmp .eq 30, 3) := by decide +kernel
set_option maxHeartbeats 40000000 in
set_option maxRecDepth 20000 in
theorem l_behind3 (d : Nat) {b : Nat} {σ0 : MS} {r : Int} {k : Int} {post : Option Value → MS → Prop} (hr : 0 ≤ r ∧ r < 6) (hR0 : RG σ0) (hk : 0 ≤ k ∧ k < 220) (hx_339 : ∀ (n1 : Int) (σ : MS) , (Fr [] [54, 55, 56, 57, 58] [] σ0 σ) → (RG σ) → (SCA σ) → Tm (d + 2) m_X12_behindItem 339 b σ [(4, .int (iI n1)), (3, .int (iI (220 * r + k))), (0, .ref b), (1, .int (iI r)), (2, .int (iI k))] [] post) : ∀ (n : Nat) (n1 : Int) (σ : MS) , (Fr [] [54, 55, 56, 57, 58] [] σ0 σ) → (RG σ) → (0 ≤ n1 ∧ n1 ≤ 144) → (SCA σ) → (144 - n1).toNat = n → Tm (d + 2) m_X12_behindItem 247 b σ [(4, .int (iI n1)), (3, .int (iI (220 * r + k))), (0, .ref b), (1, .int (iI r)), (2, .int (iI k))] [] post := by
  intro n
  induction n using Nat.strongRecOn with
  | _ n ih =>
    intro n1 σ hF hR h0 hsc hm
    refine tm_iload dX12_behindItem_247 0 rfl ?_
    refine tm_sipush dX12_behindItem_249 (by decide) ?_
    refine tm_icmp_ge (tgt := 339) dX12_behindItem_252 (by decide) ⟨by omega, by omega⟩ ⟨by decide, by decide⟩ (fun h1 => ?_) (fun h1 => ?_)
    · exact tm_sub [0, 1, 2, 3, 4] rfl (hx_339 (n1) σ (Fr.rfl.trans (Fr.sub hF (by decide) (by decide) (by decide))) hR hsc)
    · refine tm_aload_n dX12_behindItem_255 rfl 2 rfl ?_
      refine tm_get (k := 3) (v := .ref (b + 1 + 1)) lay_12 dX12_behindItem_256 (by decide) fl12_13 rfl ?_
      refine tm_iload_n dX12_behindItem_259 rfl 1 rfl ?_
      refine tm_iald (z := 220 * r + k) (v := σ0.2.1 3 (220 * r + k)) dX12_behindItem_260 (show mT[1]? = some (3, 0, 2860) from rfl) (by omega) (by omega) (by decide) (ra_F hF (by decide) (rfl)) ?_
      have g2 := RG.a hR0 3 (220 * r + k)
      refine tm_callS (M := m_X12_behindItem) (pc := 261) (ix := 192) (M' := m_X12_writes) (As := [.int (iI (σ0.2.1 3 (220 * r + k)))]) (rest := []) dX12_behindItem_261 ok_X12_writes stt_X12_writes ml12_192 np_X12_writes rfl (Nat.le_of_ble_eq_true rfl) (Nat.le_of_ble_eq_true rfl) rfl (c_X12_writes (d) (σ := σ) (x := σ0.2.1 3 (220 * r + k)) (by omega)) (fun r3 σ4 hp => ?_)
      obtain ⟨v5, rfl, rfl, f6, f7⟩ := hp
      show Tm _ _ 264 b σ [(4, .int (iI n1)), (3, .int (iI (220 * r + k))), (0, .ref b), (1, .int (iI r)), (2, .int (iI k))] [.int (iI v5)] _
      refine tm_if_eq (tgt := 339) dX12_behindItem_264 (by decide) ⟨by omega, by omega⟩ (fun h8 => ?_) (fun h8 => ?_)
      · exact tm_sub [0, 1, 2, 3, 4] rfl (hx_339 (n1) σ (Fr.rfl.trans (Fr.sub hF (by decide) (by decide) (by decide))) hR hsc)
      · refine tm_aload_n dX12_behindItem_267 rfl 2 rfl ?_
        refine tm_get (k := 55) (v := .ref (b + 1 + 33)) lay_12 dX12_behindItem_268 (by decide) fl12_117 rfl ?_
        refine tm_iload dX12_behindItem_271 0 rfl ?_
        refine tm_iald (z := n1) (v := σ.2.1 55 n1) dX12_behindItem_273 (show mT[33]? = some (55, 0, 144) from rfl) (by omega) (by omega) (by decide) (rfl) ?_
        have g9 := RG.a hR 55 (n1)
        refine tm_iconst dX12_behindItem_274 ?_
        refine tm_icmp_ne (tgt := 294) dX12_behindItem_275 (by decide) ⟨by omega, by omega⟩ ⟨by decide, by decide⟩ (fun h10 => ?_) (fun h10 => ?_)
        · refine tm_aload_n dX12_behindItem_294 rfl 2 rfl ?_
          refine tm_get (k := 57) (v := .ref (b + 1 + 35)) lay_12 dX12_behindItem_295 (by decide) fl12_123 rfl ?_
          refine tm_iload dX12_behindItem_298 0 rfl ?_
          refine tm_iald (z := n1) (v := σ.2.1 57 n1) dX12_behindItem_300 (show mT[35]? = some (57, 0, 144) from rfl) (by omega) (by omega) (by decide) (rfl) ?_
          have g11 := RG.a hR 57 (n1)
          refine tm_iconst dX12_behindItem_301 ?_
          refine tm_icmp_ne (tgt := 333) dX12_behindItem_302 (by decide) ⟨by omega, by omega⟩ ⟨by decide, by decide⟩ (fun h12 => ?_) (fun h12 => ?_)
          · refine tm_iinc (q0 := 0) (L' := [(4, .int (iI (n1 + 1))), (3, .int (iI (220 * r + k))), (0, .ref b), (1, .int (iI r)), (2, .int (iI k))]) dX12_behindItem_333 rfl (by decide) rfl ?_
            refine tm_goto (tgt := 247) dX12_behindItem_336 (by decide) ?_
            exact tm_sub [0, 1, 2, 3, 4] rfl (ih _ (by omega) (n1 + 1) σ (Fr.rfl.trans (Fr.sub hF (by decide) (by decide) (by decide))) hR (by omega) (by first | exact hsc | exact hsc.put (by omega) (by omega)) rfl)
          · refine tm_aload_n dX12_behindItem_305 rfl 2 rfl ?_
            refine tm_get (k := 58) (v := .ref (b + 1 + 36)) lay_12 dX12_behindItem_306 (by decide) fl12_126 rfl ?_
            refine tm_iload dX12_behindItem_309 0 rfl ?_
            refine tm_iald (z := n1) (v := σ.2.1 58 n1) dX12_behindItem_311 (show mT[36]? = some (58, 0, 144) from rfl) (by omega) (by omega) (by decide) (rfl) ?_
            have g13 := RG.a hR 58 (n1)
            refine tm_aload_n dX12_behindItem_312 rfl 2 rfl ?_
            refine tm_get (k := 4) (v := .ref (b + 1 + 2)) lay_12 dX12_behindItem_313 (by decide) fl12_17 rfl ?_
            refine tm_iload_n dX12_behindItem_316 rfl 1 rfl ?_
            refine tm_iald (z := 220 * r + k) (v := σ0.2.1 4 (220 * r + k)) dX12_behindItem_317 (show mT[2]? = some (4, 0, 2860) from rfl) (by omega) (by omega) (by decide) (ra_F hF (by decide) (rfl)) ?_
            have g14 := RG.a hR0 4 (220 * r + k)
            refine tm_icmp_ne (tgt := 333) dX12_behindItem_318 (by decide) ⟨by omega, by omega⟩ ⟨by omega, by omega⟩ (fun h15 => ?_) (fun h15 => ?_)
            · refine tm_iinc (q0 := 0) (L' := [(4, .int (iI (n1 + 1))), (3, .int (iI (220 * r + k))), (0, .ref b), (1, .int (iI r)), (2, .int (iI k))]) dX12_behindItem_333 rfl (by decide) rfl ?_
              refine tm_goto (tgt := 247) dX12_behindItem_336 (by decide) ?_
              exact tm_sub [0, 1, 2, 3, 4] rfl (ih _ (by omega) (n1 + 1) σ (Fr.rfl.trans (Fr.sub hF (by decide) (by decide) (by decide))) hR (by omega) (by first | exact hsc | exact hsc.put (by omega) (by omega)) rfl)
            · refine tm_aload_n dX12_behindItem_321 rfl 2 rfl ?_
              refine tm_iload dX12_behindItem_322 0 rfl ?_
              refine tm_bipush dX12_behindItem_324 (by decide) ?_
              refine tm_iconst dX12_behindItem_326 ?_
              refine tm_iconst dX12_behindItem_327 ?_
              refine tm_iconst dX12_behindItem_328 ?_
              refine tm_iconst dX12_behindItem_329 ?_
              refine tm_callV (M := m_X12_behindItem) (pc := 330) (ix := 416) (M' := m_X12_setNow) (As := [.int (iI n1), .int (iI 13), .int (iI 0), .int (iI 0), .int (iI 0), .int (iI 0)]) (rest := []) dX12_behindItem_330 ok_X12_setNow im_X12_setNow se_X12_setNow ml12_416 np_X12_setNow rfl rfl (Nat.le_of_ble_eq_true rfl) (Nat.le_of_ble_eq_true rfl) rfl (c_X12_setNow (d) (σ := σ) (n := n1) (w := 13) (ka := 0) (a := 0) (kb := 0) (c := 0) (by omega)) (fun r16 σ17 hp => ?_)
              obtain ⟨rfl, f19⟩ := hp
              subst f19
              show Tm _ _ 333 b (fNow (n1) (13) (0) (0) (0) (0) σ) [(4, .int (iI n1)), (3, .int (iI (220 * r + k))), (0, .ref b), (1, .int (iI r)), (2, .int (iI k))] [] _
              refine tm_iinc (q0 := 0) (L' := [(4, .int (iI (n1 + 1))), (3, .int (iI (220 * r + k))), (0, .ref b), (1, .int (iI r)), (2, .int (iI k))]) dX12_behindItem_333 rfl (by decide) rfl ?_
              refine tm_goto (tgt := 247) dX12_behindItem_336 (by decide) ?_
              exact tm_sub [0, 1, 2, 3, 4] rfl (ih _ (by omega) (n1 + 1) (fNow (n1) (13) (0) (0) (0) (0) σ) ((Fr.rfl.trans (Fr.sub hF (by decide) (by decide) (by decide))).trans (Fr.sub fNow_fr (by decide) (by decide) (by decide))) (hR.now (by omega)) (by omega) (by first | exact hsc | exact hsc.put (by omega) (by omega)) rfl)
        · refine tm_aload_n dX12_behindItem_278 rfl 2 rfl ?_
          refine tm_get (k := 56) (v := .ref (b + 1 + 34)) lay_12 dX12_behindItem_279 (by decide) fl12_120 rfl ?_
          refine tm_iload dX12_behindItem_282 0 rfl ?_
          refine tm_iald (z := n1) (v := σ.2.1 56 n1) dX12_behindItem_284 (show mT[34]? = some (56, 0, 144) from rfl) (by omega) (by omega) (by decide) (rfl) ?_
          have g20 := RG.a hR 56 (n1)
          refine tm_aload_n dX12_behindItem_285 rfl 2 rfl ?_
          refine tm_get (k := 4) (v := .ref (b + 1 + 2)) lay_12 dX12_behindItem_286 (by decide) fl12_17 rfl ?_
          refine tm_iload_n dX12_behindItem_289 rfl 1 rfl ?_
          refine tm_iald (z := 220 * r + k) (v := σ0.2.1 4 (220 * r + k)) dX12_behindItem_290 (show mT[2]? = some (4, 0, 2860) from rfl) (by omega) (by omega) (by decide) (ra_F hF (by decide) (rfl)) ?_
          have g21 := RG.a hR0 4 (220 * r + k)
          refine tm_icmp_eq (tgt := 321) dX12_behindItem_291 (by decide) ⟨by omega, by omega⟩ ⟨by omega, by omega⟩ (fun h22 => ?_) (fun h22 => ?_)
          · refine tm_aload_n dX12_behindItem_321 rfl 2 rfl ?_
            refine tm_iload dX12_behindItem_322 0 rfl ?_
            refine tm_bipush dX12_behindItem_324 (by decide) ?_
            refine tm_iconst dX12_behindItem_326 ?_
            refine tm_iconst dX12_behindItem_327 ?_
            refine tm_iconst dX12_behindItem_328 ?_
            refine tm_iconst dX12_behindItem_329 ?_
            refine tm_callV (M := m_X12_behindItem) (pc := 330) (ix := 416) (M' := m_X12_setNow) (As := [.int (iI n1), .int (iI 13), .int (iI 0), .int (iI 0), .int (iI 0), .int (iI 0)]) (rest := []) dX12_behindItem_330 ok_X12_setNow im_X12_setNow se_X12_setNow ml12_416 np_X12_setNow rfl rfl (Nat.le_of_ble_eq_true rfl) (Nat.le_of_ble_eq_true rfl) rfl (c_X12_setNow (d) (σ := σ) (n := n1) (w := 13) (ka := 0) (a := 0) (kb := 0) (c := 0) (by omega)) (fun r23 σ24 hp => ?_)
            obtain ⟨rfl, f26⟩ := hp
            subst f26
            show Tm _ _ 333 b (fNow (n1) (13) (0) (0) (0) (0) σ) [(4, .int (iI n1)), (3, .int (iI (220 * r + k))), (0, .ref b), (1, .int (iI r)), (2, .int (iI k))] [] _
            refine tm_iinc (q0 := 0) (L' := [(4, .int (iI (n1 + 1))), (3, .int (iI (220 * r + k))), (0, .ref b), (1, .int (iI r)), (2, .int (iI k))]) dX12_behindItem_333 rfl (by decide) rfl ?_
            refine tm_goto (tgt := 247) dX12_behindItem_336 (by decide) ?_
            exact tm_sub [0, 1, 2, 3, 4] rfl (ih _ (by omega) (n1 + 1) (fNow (n1) (13) (0) (0) (0) (0) σ) ((Fr.rfl.trans (Fr.sub hF (by decide) (by decide) (by decide))).trans (Fr.sub fNow_fr (by decide) (by decide) (by decide))) (hR.now (by omega)) (by omega) (by first | exact hsc | exact hsc.put (by omega) (by omega)) rfl)
          · refine tm_aload_n dX12_behindItem_294 rfl 2 rfl ?_
            refine tm_get (k := 57) (v := .ref (b + 1 + 35)) lay_12 dX12_behindItem_295 (by decide) fl12_123 rfl ?_
            refine tm_iload dX12_behindItem_298 0 rfl ?_
            refine tm_iald (z := n1) (v := σ.2.1 57 n1) dX12_behindItem_300 (show mT[35]? = some (57, 0, 144) from rfl) (by omega) (by omega) (by decide) (rfl) ?_
            have g27 := RG.a hR 57 (n1)
            refine tm_iconst dX12_behindItem_301 ?_
            refine tm_icmp_ne (tgt := 333) dX12_behindItem_302 (by decide) ⟨by omega, by omega⟩ ⟨by decide, by decide⟩ (fun h28 => ?_) (fun h28 => ?_)
            · refine tm_iinc (q0 := 0) (L' := [(4, .int (iI (n1 + 1))), (3, .int (iI (220 * r + k))), (0, .ref b), (1, .int (iI r)), (2, .int (iI k))]) dX12_behindItem_333 rfl (by decide) rfl ?_
              refine tm_goto (tgt := 247) dX12_behindItem_336 (by decide) ?_
              exact tm_sub [0, 1, 2, 3, 4] rfl (ih _ (by omega) (n1 + 1) σ (Fr.rfl.trans (Fr.sub hF (by decide) (by decide) (by decide))) hR (by omega) (by first | exact hsc | exact hsc.put (by omega) (by omega)) rfl)
            · refine tm_aload_n dX12_behindItem_305 rfl 2 rfl ?_
              refine tm_get (k := 58) (v := .ref (b + 1 + 36)) lay_12 dX12_behindItem_306 (by decide) fl12_126 rfl ?_
              refine tm_iload dX12_behindItem_309 0 rfl ?_
              refine tm_iald (z := n1) (v := σ.2.1 58 n1) dX12_behindItem_311 (show mT[36]? = some (58, 0, 144) from rfl) (by omega) (by omega) (by decide) (rfl) ?_
              have g29 := RG.a hR 58 (n1)
              refine tm_aload_n dX12_behindItem_312 rfl 2 rfl ?_
              refine tm_get (k := 4) (v := .ref (b + 1 + 2)) lay_12 dX12_behindItem_313 (by decide) fl12_17 rfl ?_
              refine tm_iload_n dX12_behindItem_316 rfl 1 rfl ?_
              refine tm_iald (z := 220 * r + k) (v := σ0.2.1 4 (220 * r + k)) dX12_behindItem_317 (show mT[2]? = some (4, 0, 2860) from rfl) (by omega) (by omega) (by decide) (ra_F hF (by decide) (rfl)) ?_
              have g30 := RG.a hR0 4 (220 * r + k)
              refine tm_icmp_ne (tgt := 333) dX12_behindItem_318 (by decide) ⟨by omega, by omega⟩ ⟨by omega, by omega⟩ (fun h31 => ?_) (fun h31 => ?_)
              · refine tm_iinc (q0 := 0) (L' := [(4, .int (iI (n1 + 1))), (3, .int (iI (220 * r + k))), (0, .ref b), (1, .int (iI r)), (2, .int (iI k))]) dX12_behindItem_333 rfl (by decide) rfl ?_
                refine tm_goto (tgt := 247) dX12_behindItem_336 (by decide) ?_
                exact tm_sub [0, 1, 2, 3, 4] rfl (ih _ (by omega) (n1 + 1) σ (Fr.rfl.trans (Fr.sub hF (by decide) (by decide) (by decide))) hR (by omega) (by first | exact hsc | exact hsc.put (by omega) (by omega)) rfl)
              · refine tm_aload_n dX12_behindItem_321 rfl 2 rfl ?_
                refine tm_iload dX12_behindItem_322 0 rfl ?_
                refine tm_bipush dX12_behindItem_324 (by decide) ?_
                refine tm_iconst dX12_behindItem_326 ?_
                refine tm_iconst dX12_behindItem_327 ?_
                refine tm_iconst dX12_behindItem_328 ?_
                refine tm_iconst dX12_behindItem_329 ?_
                refine tm_callV (M := m_X12_behindItem) (pc := 330) (ix := 416) (M' := m_X12_setNow) (As := [.int (iI n1), .int (iI 13), .int (iI 0), .int (iI 0), .int (iI 0), .int (iI 0)]) (rest := []) dX12_behindItem_330 ok_X12_setNow im_X12_setNow se_X12_setNow ml12_416 np_X12_setNow rfl rfl (Nat.le_of_ble_eq_true rfl) (Nat.le_of_ble_eq_true rfl) rfl (c_X12_setNow (d) (σ := σ) (n := n1) (w := 13) (ka := 0) (a := 0) (kb := 0) (c := 0) (by omega)) (fun r32 σ33 hp => ?_)
                obtain ⟨rfl, f35⟩ := hp
                subst f35
                show Tm _ _ 333 b (fNow (n1) (13) (0) (0) (0) (0) σ) [(4, .int (iI n1)), (3, .int (iI (220 * r + k))), (0, .ref b), (1, .int (iI r)), (2, .int (iI k))] [] _
                refine tm_iinc (q0 := 0) (L' := [(4, .int (iI (n1 + 1))), (3, .int (iI (220 * r + k))), (0, .ref b), (1, .int (iI r)), (2, .int (iI k))]) dX12_behindItem_333 rfl (by decide) rfl ?_
                refine tm_goto (tgt := 247) dX12_behindItem_336 (by decide) ?_
                exact tm_sub [0, 1, 2, 3, 4] rfl (ih _ (by omega) (n1 + 1) (fNow (n1) (13) (0) (0) (0) (0) σ) ((Fr.rfl.trans (Fr.sub hF (by decide) (by decide) (by decide))).trans (Fr.sub fNow_fr (by decide) (by decide) (by decide))) (hR.now (by omega)) (by omega) (by first | exact hsc | exact hsc.put (by omega) (by omega)) rfl)
theorem dX12_behindItem_0 : decode cX12_behindItem 0 = .ok (.iconst 0, 1) := by decide +kernel
theorem dX12_behindItem_1 : decode cX12_behindItem 1 = .ok (.istore_n 3, 1) := by decide +kernel
theorem dX12_behindItem_70 : decode cX12_behindItem 70 = .ok (.aload_n 0, 1) := by decide +kernel
theorem dX12_behindItem_71 : decode cX12_behindItem 71 = .ok (.iload_n 1, 1) := by decide +kernel
theorem dX12_behindItem_72 : decode cX12_behindItem 72 = .ok (.iload_n 2, 1) := by decide +kernel
theorem dX12_behindItem_73 : decode cX12_behindItem 73 = .ok (.invokevirtual 203, 3) := by decide +kernel
theorem dX12_behindItem_76 : decode cX12_behindItem 76 = .ok (.istore_n 3, 1) := by decide +kernel
theorem dX12_behindItem_77 : decode cX12_behindItem 77 = .ok (.aload_n 0, 1) := by decide +kernel
theorem dX12_behindItem_78 : decode cX12_behindItem 78 = .ok (.getfield 13, 3) := by decide +kernel
theorem dX12_behindItem_81 : decode cX12_behindItem 81 = .ok (.iload_n 3, 1) := by decide +kernel
theorem dX12_behindItem_82 : decode cX12_behindItem 82 = .ok (.iaload, 1) := by decide +kernel
theorem dX12_behindItem_83 : decode cX12_behindItem 83 = .ok (.bipush 12, 2) := by decide +kernel
theorem dX12_behindItem_85 : decode cX12_behindItem 85 = .ok (.if_icmp .ne 110, 3) := by decide +kernel
theorem dX12_behindItem_195 : decode cX12_behindItem 195 = .ok (.aload_n 0, 1) := by decide +kernel
theorem dX12_behindItem_196 : decode cX12_behindItem 196 = .ok (.getfield 13, 3) := by decide +kernel
theorem dX12_behindItem_199 : decode cX12_behindItem 199 = .ok (.iload_n 3, 1) := by decide +kernel
theorem dX12_behindItem_200 : decode cX12_behindItem 200 = .ok (.iaload, 1) := by decide +kernel
theorem dX12_behindItem_201 : decode cX12_behindItem 201 = .ok (.bipush 15, 2) := by decide +kernel
theorem dX12_behindItem_203 : decode cX12_behindItem 203 = .ok (.if_icmp .ne 41, 3) := by decide +kernel
theorem dX12_behindItem_244 : decode cX12_behindItem 244 = .ok (.iconst 0, 1) := by decide +kernel
theorem dX12_behindItem_245 : decode cX12_behindItem 245 = .ok (.istore 4, 2) := by decide +kernel
theorem dX12_behindItem_339 : decode cX12_behindItem 339 = .ok (.return_, 1) := by decide +kernel
theorem dX12_behindItem_206 : decode cX12_behindItem 206 = .ok (.iconst 0, 1) := by decide +kernel
theorem dX12_behindItem_207 : decode cX12_behindItem 207 = .ok (.istore 4, 2) := by decide +kernel
theorem dX12_behindItem_88 : decode cX12_behindItem 88 = .ok (.aload_n 0, 1) := by decide +kernel
theorem dX12_behindItem_89 : decode cX12_behindItem 89 = .ok (.iload_n 3, 1) := by decide +kernel
theorem dX12_behindItem_90 : decode cX12_behindItem 90 = .ok (.invokevirtual 199, 3) := by decide +kernel
theorem dX12_behindItem_93 : decode cX12_behindItem 93 = .ok (.istore 4, 2) := by decide +kernel
theorem dX12_behindItem_95 : decode cX12_behindItem 95 = .ok (.aload_n 0, 1) := by decide +kernel
theorem dX12_behindItem_96 : decode cX12_behindItem 96 = .ok (.bipush 12, 2) := by decide +kernel
theorem dX12_behindItem_98 : decode cX12_behindItem 98 = .ok (.aload_n 0, 1) := by decide +kernel
theorem dX12_behindItem_99 : decode cX12_behindItem 99 = .ok (.getfield 20, 3) := by decide +kernel
theorem dX12_behindItem_102 : decode cX12_behindItem 102 = .ok (.iload_n 3, 1) := by decide +kernel
theorem dX12_behindItem_103 : decode cX12_behindItem 103 = .ok (.iaload, 1) := by decide +kernel
theorem dX12_behindItem_104 : decode cX12_behindItem 104 = .ok (.imul, 1) := by decide +kernel
theorem dX12_behindItem_105 : decode cX12_behindItem 105 = .ok (.aload_n 0, 1) := by decide +kernel
theorem dX12_behindItem_106 : decode cX12_behindItem 106 = .ok (.getfield 17, 3) := by decide +kernel
theorem dX12_behindItem_109 : decode cX12_behindItem 109 = .ok (.iload_n 3, 1) := by decide +kernel
theorem dX12_behindItem_110 : decode cX12_behindItem 110 = .ok (.iaload, 1) := by decide +kernel
theorem dX12_behindItem_111 : decode cX12_behindItem 111 = .ok (.iadd, 1) := by decide +kernel
theorem dX12_behindItem_112 : decode cX12_behindItem 112 = .ok (.aload_n 0, 1) := by decide +kernel
theorem dX12_behindItem_113 : decode cX12_behindItem 113 = .ok (.getfield 23, 3) := by decide +kernel
theorem dX12_behindItem_116 : decode cX12_behindItem 116 = .ok (.iload_n 3, 1) := by decide +kernel
theorem dX12_behindItem_117 : decode cX12_behindItem 117 = .ok (.iaload, 1) := by decide +kernel
theorem dX12_behindItem_118 : decode cX12_behindItem 118 = .ok (.iload 4, 2) := by decide +kernel
theorem dX12_behindItem_120 : decode cX12_behindItem 120 = .ok (.ifCond .le 14, 3) := by decide +kernel
theorem dX12_behindItem_134 : decode cX12_behindItem 134 = .ok (.iconst 0, 1) := by decide +kernel
theorem dX12_behindItem_135 : decode cX12_behindItem 135 = .ok (.iload 4, 2) := by decide +kernel
theorem dX12_behindItem_137 : decode cX12_behindItem 137 = .ok (.ifCond .le 14, 3) := by decide +kernel
theorem dX12_behindItem_151 : decode cX12_behindItem 151 = .ok (.iconst 0, 1) := by decide +kernel
theorem dX12_behindItem_152 : decode cX12_behindItem 152 = .ok (.iload 4, 2) := by decide +kernel
theorem dX12_behindItem_154 : decode cX12_behindItem 154 = .ok (.iconst 1, 1) := by decide +kernel
theorem dX12_behindItem_155 : decode cX12_behindItem 155 = .ok (.if_icmp .le 16, 3) := by decide +kernel
theorem dX12_behindItem_171 : decode cX12_behindItem 171 = .ok (.iconst 0, 1) := by decide +kernel
theorem dX12_behindItem_172 : decode cX12_behindItem 172 = .ok (.iload 4, 2) := by decide +kernel
theorem dX12_behindItem_174 : decode cX12_behindItem 174 = .ok (.iconst 1, 1) := by decide +kernel
theorem dX12_behindItem_175 : decode cX12_behindItem 175 = .ok (.if_icmp .le 16, 3) := by decide +kernel
theorem dX12_behindItem_191 : decode cX12_behindItem 191 = .ok (.iconst 0, 1) := by decide +kernel
theorem dX12_behindItem_192 : decode cX12_behindItem 192 = .ok (.invokevirtual 416, 3) := by decide +kernel
theorem dX12_behindItem_158 : decode cX12_behindItem 158 = .ok (.aload_n 0, 1) := by decide +kernel
theorem dX12_behindItem_159 : decode cX12_behindItem 159 = .ok (.getfield 26, 3) := by decide +kernel
theorem dX12_behindItem_162 : decode cX12_behindItem 162 = .ok (.iconst 4, 1) := by decide +kernel
theorem dX12_behindItem_163 : decode cX12_behindItem 163 = .ok (.iload_n 3, 1) := by decide +kernel
theorem dX12_behindItem_164 : decode cX12_behindItem 164 = .ok (.imul, 1) := by decide +kernel
theorem dX12_behindItem_165 : decode cX12_behindItem 165 = .ok (.iconst 1, 1) := by decide +kernel
theorem dX12_behindItem_166 : decode cX12_behindItem 166 = .ok (.iadd, 1) := by decide +kernel
theorem dX12_behindItem_167 : decode cX12_behindItem 167 = .ok (.iaload, 1) := by decide +kernel
theorem dX12_behindItem_168 : decode cX12_behindItem 168 = .ok (.goto 4, 3) := by decide +kernel
theorem dX12_behindItem_178 : decode cX12_behindItem 178 = .ok (.aload_n 0, 1) := by decide +kernel
theorem dX12_behindItem_179 : decode cX12_behindItem 179 = .ok (.getfield 29, 3) := by decide +kernel
theorem dX12_behindItem_182 : decode cX12_behindItem 182 = .ok (.iconst 4, 1) := by decide +kernel
theorem dX12_behindItem_183 : decode cX12_behindItem 183 = .ok (.iload_n 3, 1) := by decide +kernel
theorem dX12_behindItem_184 : decode cX12_behindItem 184 = .ok (.imul, 1) := by decide +kernel
theorem dX12_behindItem_185 : decode cX12_behindItem 185 = .ok (.iconst 1, 1) := by decide +kernel
theorem dX12_behindItem_186 : decode cX12_behindItem 186 = .ok (.iadd, 1) := by decide +kernel
theorem dX12_behindItem_187 : decode cX12_behindItem 187 = .ok (.iaload, 1) := by decide +kernel
theorem dX12_behindItem_188 : decode cX12_behindItem 188 = .ok (.goto 4, 3) := by decide +kernel
theorem dX12_behindItem_123 : decode cX12_behindItem 123 = .ok (.aload_n 0, 1) := by decide +kernel
theorem dX12_behindItem_124 : decode cX12_behindItem 124 = .ok (.getfield 26, 3) := by decide +kernel
theorem dX12_behindItem_127 : decode cX12_behindItem 127 = .ok (.iconst 4, 1) := by decide +kernel
theorem dX12_behindItem_128 : decode cX12_behindItem 128 = .ok (.iload_n 3, 1) := by decide +kernel
theorem dX12_behindItem_129 : decode cX12_behindItem 129 = .ok (.imul, 1) := by decide +kernel
theorem dX12_behindItem_130 : decode cX12_behindItem 130 = .ok (.iaload, 1) := by decide +kernel
theorem dX12_behindItem_131 : decode cX12_behindItem 131 = .ok (.goto 4, 3) := by decide +kernel
theorem dX12_behindItem_140 : decode cX12_behindItem 140 = .ok (.aload_n 0, 1) := by decide +kernel
theorem dX12_behindItem_141 : decode cX12_behindItem 141 = .ok (.getfield 29, 3) := by decide +kernel
theorem dX12_behindItem_144 : decode cX12_behindItem 144 = .ok (.iconst 4, 1) := by decide +kernel
theorem dX12_behindItem_145 : decode cX12_behindItem 145 = .ok (.iload_n 3, 1) := by decide +kernel
theorem dX12_behindItem_146 : decode cX12_behindItem 146 = .ok (.imul, 1) := by decide +kernel
theorem dX12_behindItem_147 : decode cX12_behindItem 147 = .ok (.iaload, 1) := by decide +kernel
theorem dX12_behindItem_148 : decode cX12_behindItem 148 = .ok (.goto 4, 3) := by decide +kernel
set_option maxHeartbeats 40000000 in
set_option maxRecDepth 20000 in
theorem c_X12_behindItem (d : Nat) {b : Nat} {σ : MS} {r : Int} {k : Int} {F : Int} (hr : 0 ≤ r ∧ r < 6) (hR : RG σ) (hit : ITM σ) (hpar : PAR σ) (hok : OKS σ F r) (hF12 : 1 ≤ F ∧ F ≤ 12) (hss : SSA σ) (hsc : SCA σ) (hk : 0 ≤ k ∧ k < σ.2.1 9 r) : Tm (d + 4) m_X12_behindItem 0 b σ [(0, .ref b), (1, .int (iI r)), (2, .int (iI k))] [] (fun ro σ2 => ro = none ∧ (Fr [] [54, 55, 56, 57, 58] [] σ σ2) ∧ (RG σ2) ∧ (SCA σ2)) := by
  have q1 := hit r (by omega) (by omega)
  have q2 := (hok k (by omega) (by omega))
  have q3 := q2.2.2.2.1
  have q4 := q2.2.2.2.2.1
  have q5 := q2.2.2.2.2.2.1
  have q6 := q2.2.2.2.2.2.2.2.1 0 (by decide) (by decide)
  have q7 := q2.2.2.2.2.2.2.2.1 1 (by decide) (by decide)
  rw [Int.add_zero] at q6
  refine tm_iconst dX12_behindItem_0 ?_
  refine tm_istore_n (L' := [(3, .int (iI 0)), (0, .ref b), (1, .int (iI r)), (2, .int (iI k))]) dX12_behindItem_1 rfl (by decide) rfl ?_
  refine tm_sub [0, 1, 2, 3] rfl (l_behind1 (d + 2) (σ0 := σ) (r := r) (k := k) hr hR hss (by omega) (fun n16 σ7 F3 R4 f5 => ?_) _ (0) σ Fr.rfl hR (by omega) hsc rfl)
  show Tm _ _ 70 b σ7 [(3, .int (iI n16)), (0, .ref b), (1, .int (iI r)), (2, .int (iI k))] [] _
  refine tm_aload_n dX12_behindItem_70 rfl 1 rfl ?_
  refine tm_iload_n dX12_behindItem_71 rfl 2 rfl ?_
  refine tm_iload_n dX12_behindItem_72 rfl 3 rfl ?_
  refine tm_callV (M := m_X12_behindItem) (pc := 73) (ix := 203) (M' := m_X12_at) (As := [.int (iI r), .int (iI k)]) (rest := []) dX12_behindItem_73 ok_X12_at im_X12_at se_X12_at ml12_203 np_X12_at rfl rfl (Nat.le_of_ble_eq_true rfl) (Nat.le_of_ble_eq_true rfl) rfl (c_X12_at (d + 2) (σ := σ7) (x := r) (k := k) ) (fun r8 σ9 hp => ?_)
  obtain ⟨v10, rfl, rfl, f11⟩ := hp
  subst f11
  show Tm _ _ 76 b σ7 [(3, .int (iI n16)), (0, .ref b), (1, .int (iI r)), (2, .int (iI k))] [.int (iI (220 * r + k))] _
  refine tm_istore_n (L' := [(3, .int (iI (220 * r + k))), (0, .ref b), (1, .int (iI r)), (2, .int (iI k))]) dX12_behindItem_76 rfl (by decide) rfl ?_
  refine tm_aload_n dX12_behindItem_77 rfl 1 rfl ?_
  refine tm_get (k := 3) (v := .ref (b + 1 + 1)) lay_12 dX12_behindItem_78 (by decide) fl12_13 rfl ?_
  refine tm_iload_n dX12_behindItem_81 rfl 0 rfl ?_
  refine tm_iald (z := 220 * r + k) (v := σ.2.1 3 (220 * r + k)) dX12_behindItem_82 (show mT[1]? = some (3, 0, 2860) from rfl) (by omega) (by omega) (by decide) (ra_F F3 (by decide) (rfl)) ?_
  have g12 := RG.a hR 3 (220 * r + k)
  refine tm_bipush dX12_behindItem_83 (by decide) ?_
  refine tm_icmp_ne (tgt := 195) dX12_behindItem_85 (by decide) ⟨by omega, by omega⟩ ⟨by decide, by decide⟩ (fun h13 => ?_) (fun h13 => ?_)
  · refine tm_aload_n dX12_behindItem_195 rfl 1 rfl ?_
    refine tm_get (k := 3) (v := .ref (b + 1 + 1)) lay_12 dX12_behindItem_196 (by decide) fl12_13 rfl ?_
    refine tm_iload_n dX12_behindItem_199 rfl 0 rfl ?_
    refine tm_iald (z := 220 * r + k) (v := σ.2.1 3 (220 * r + k)) dX12_behindItem_200 (show mT[1]? = some (3, 0, 2860) from rfl) (by omega) (by omega) (by decide) (ra_F F3 (by decide) (rfl)) ?_
    have g14 := RG.a hR 3 (220 * r + k)
    refine tm_bipush dX12_behindItem_201 (by decide) ?_
    refine tm_icmp_ne (tgt := 244) dX12_behindItem_203 (by decide) ⟨by omega, by omega⟩ ⟨by decide, by decide⟩ (fun h15 => ?_) (fun h15 => ?_)
    · refine tm_iconst dX12_behindItem_244 ?_
      refine tm_istore (L' := [(4, .int (iI 0)), (3, .int (iI (220 * r + k))), (0, .ref b), (1, .int (iI r)), (2, .int (iI k))]) dX12_behindItem_245 (by decide) rfl ?_
      refine tm_sub [0, 1, 2, 3, 4] rfl (l_behind3 (d + 2) (σ0 := σ7) (r := r) (k := k) (by omega) R4 (by omega) (fun n121 σ22 F18 R19 f20 => ?_) _ (0) σ7 Fr.rfl R4 (by omega) (by first | assumption | exact SCA.put (by assumption) (by omega) (by omega)) rfl)
      show Tm _ _ 339 b σ22 [(4, .int (iI n121)), (3, .int (iI (220 * r + k))), (0, .ref b), (1, .int (iI r)), (2, .int (iI k))] [] _
      exact tm_vret rfl dX12_behindItem_339 (⟨rfl, ((Fr.rfl.trans (Fr.sub F3 (by decide) (by decide) (by decide))).trans (Fr.sub F18 (by decide) (by decide) (by decide))), R19, f20⟩)
    · refine tm_iconst dX12_behindItem_206 ?_
      refine tm_istore (L' := [(4, .int (iI 0)), (3, .int (iI (220 * r + k))), (0, .ref b), (1, .int (iI r)), (2, .int (iI k))]) dX12_behindItem_207 (by decide) rfl ?_
      refine tm_sub [0, 1, 2, 3, 4] rfl (l_behind2 (d + 2) (σ0 := σ7) (r := r) (k := k) (by omega) R4 (by omega) (by rw [((show Fr [] [54, 55, 56, 57, 58] [] σ σ7 from (Fr.rfl.trans (Fr.sub F3 (by decide) (by decide) (by decide))))).2.1 4 (by decide)]; omega) (fun n128 σ29 F25 R26 f27 => ?_) _ (0) σ7 Fr.rfl R4 (by omega) (by first | assumption | exact SCA.put (by assumption) (by omega) (by omega)) rfl)
      show Tm _ _ 244 b σ29 [(4, .int (iI n128)), (3, .int (iI (220 * r + k))), (0, .ref b), (1, .int (iI r)), (2, .int (iI k))] [] _
      refine tm_iconst dX12_behindItem_244 ?_
      refine tm_istore (L' := [(4, .int (iI 0)), (3, .int (iI (220 * r + k))), (0, .ref b), (1, .int (iI r)), (2, .int (iI k))]) dX12_behindItem_245 (by decide) rfl ?_
      refine tm_sub [0, 1, 2, 3, 4] rfl (l_behind3 (d + 2) (σ0 := σ29) (r := r) (k := k) (by omega) R26 (by omega) (fun n135 σ36 F32 R33 f34 => ?_) _ (0) σ29 Fr.rfl R26 (by omega) (by first | assumption | exact SCA.put (by assumption) (by omega) (by omega)) rfl)
      show Tm _ _ 339 b σ36 [(4, .int (iI n135)), (3, .int (iI (220 * r + k))), (0, .ref b), (1, .int (iI r)), (2, .int (iI k))] [] _
      exact tm_vret rfl dX12_behindItem_339 (⟨rfl, (((Fr.rfl.trans (Fr.sub F3 (by decide) (by decide) (by decide))).trans (Fr.sub F25 (by decide) (by decide) (by decide))).trans (Fr.sub F32 (by decide) (by decide) (by decide))), R33, f34⟩)
  · refine tm_aload_n dX12_behindItem_88 rfl 1 rfl ?_
    refine tm_iload_n dX12_behindItem_89 rfl 0 rfl ?_
    refine tm_callV (M := m_X12_behindItem) (pc := 90) (ix := 199) (M' := m_X12_args) (As := [.int (iI (220 * r + k))]) (rest := []) dX12_behindItem_90 ok_X12_args im_X12_args se_X12_args ml12_199 np_X12_args rfl rfl (Nat.le_of_ble_eq_true rfl) (Nat.le_of_ble_eq_true rfl) rfl (c_X12_args (d) (σ := σ7) (x := 220 * r + k) (by omega) R4 (OKS.of (hok.fr (show Fr [] [54, 55, 56, 57, 58] [] σ σ7 from (Fr.rfl.trans (Fr.sub F3 (by decide) (by decide) (by decide)))) (by decide)) (by omega) (by rw [((show Fr [] [54, 55, 56, 57, 58] [] σ σ7 from (Fr.rfl.trans (Fr.sub F3 (by decide) (by decide) (by decide))))).2.1 9 (by decide)]; omega)) (hpar.fr (show Fr [] [54, 55, 56, 57, 58] [] σ σ7 from (Fr.rfl.trans (Fr.sub F3 (by decide) (by decide) (by decide)))) (by decide))) (fun r37 σ38 hp => ?_)
    obtain ⟨v39, rfl, rfl, f40, f41⟩ := hp
    show Tm _ _ 93 b σ7 [(3, .int (iI (220 * r + k))), (0, .ref b), (1, .int (iI r)), (2, .int (iI k))] [.int (iI v39)] _
    refine tm_istore (L' := [(4, .int (iI v39)), (3, .int (iI (220 * r + k))), (0, .ref b), (1, .int (iI r)), (2, .int (iI k))]) dX12_behindItem_93 (by decide) rfl ?_
    refine tm_aload_n dX12_behindItem_95 rfl 2 rfl ?_
    refine tm_bipush dX12_behindItem_96 (by decide) ?_
    refine tm_aload_n dX12_behindItem_98 rfl 2 rfl ?_
    refine tm_get (k := 5) (v := .ref (b + 1 + 3)) lay_12 dX12_behindItem_99 (by decide) fl12_20 rfl ?_
    refine tm_iload_n dX12_behindItem_102 rfl 1 rfl ?_
    refine tm_iald (z := 220 * r + k) (v := σ.2.1 5 (220 * r + k)) dX12_behindItem_103 (show mT[3]? = some (5, 0, 2860) from rfl) (by omega) (by omega) (by decide) (ra_F F3 (by decide) (rfl)) ?_
    have g42 := RG.a hR 5 (220 * r + k)
    refine tm_imul dX12_behindItem_104 ?_
    refine tm_aload_n dX12_behindItem_105 rfl 2 rfl ?_
    refine tm_get (k := 4) (v := .ref (b + 1 + 2)) lay_12 dX12_behindItem_106 (by decide) fl12_17 rfl ?_
    refine tm_iload_n dX12_behindItem_109 rfl 1 rfl ?_
    refine tm_iald (z := 220 * r + k) (v := σ.2.1 4 (220 * r + k)) dX12_behindItem_110 (show mT[2]? = some (4, 0, 2860) from rfl) (by omega) (by omega) (by decide) (ra_F F3 (by decide) (rfl)) ?_
    have g43 := RG.a hR 4 (220 * r + k)
    refine tm_iadd dX12_behindItem_111 ?_
    refine tm_aload_n dX12_behindItem_112 rfl 2 rfl ?_
    refine tm_get (k := 6) (v := .ref (b + 1 + 4)) lay_12 dX12_behindItem_113 (by decide) fl12_23 rfl ?_
    refine tm_iload_n dX12_behindItem_116 rfl 1 rfl ?_
    refine tm_iald (z := 220 * r + k) (v := σ.2.1 6 (220 * r + k)) dX12_behindItem_117 (show mT[4]? = some (6, 0, 2860) from rfl) (by omega) (by omega) (by decide) (ra_F F3 (by decide) (rfl)) ?_
    have g44 := RG.a hR 6 (220 * r + k)
    refine tm_iload dX12_behindItem_118 0 rfl ?_
    refine tm_if_le (tgt := 134) dX12_behindItem_120 (by decide) ⟨by omega, by omega⟩ (fun h45 => ?_) (fun h45 => ?_)
    · refine tm_iconst dX12_behindItem_134 ?_
      refine tm_iload dX12_behindItem_135 0 rfl ?_
      refine tm_if_le (tgt := 151) dX12_behindItem_137 (by decide) ⟨by omega, by omega⟩ (fun h46 => ?_) (fun h46 => ?_)
      · refine tm_iconst dX12_behindItem_151 ?_
        refine tm_iload dX12_behindItem_152 0 rfl ?_
        refine tm_iconst dX12_behindItem_154 ?_
        refine tm_icmp_le (tgt := 171) dX12_behindItem_155 (by decide) ⟨by omega, by omega⟩ ⟨by decide, by decide⟩ (fun h47 => ?_) (fun h47 => ?_)
        · refine tm_iconst dX12_behindItem_171 ?_
          refine tm_iload dX12_behindItem_172 0 rfl ?_
          refine tm_iconst dX12_behindItem_174 ?_
          refine tm_icmp_le (tgt := 191) dX12_behindItem_175 (by decide) ⟨by omega, by omega⟩ ⟨by decide, by decide⟩ (fun h48 => ?_) (fun h48 => ?_)
          · refine tm_iconst dX12_behindItem_191 ?_
            refine tm_callV (M := m_X12_behindItem) (pc := 192) (ix := 416) (M' := m_X12_setNow) (As := [.int (iI ((12 * (σ.2.1 5 (220 * r + k))) + (σ.2.1 4 (220 * r + k)))), .int (iI (σ.2.1 6 (220 * r + k))), .int (iI 0), .int (iI 0), .int (iI 0), .int (iI 0)]) (rest := []) dX12_behindItem_192 ok_X12_setNow im_X12_setNow se_X12_setNow ml12_416 np_X12_setNow rfl rfl (Nat.le_of_ble_eq_true rfl) (Nat.le_of_ble_eq_true rfl) rfl (c_X12_setNow (d + 2) (σ := σ7) (n := (12 * (σ.2.1 5 (220 * r + k))) + (σ.2.1 4 (220 * r + k))) (w := σ.2.1 6 (220 * r + k)) (ka := 0) (a := 0) (kb := 0) (c := 0) (by omega)) (fun r49 σ50 hp => ?_)
            obtain ⟨rfl, f52⟩ := hp
            subst f52
            show Tm _ _ 195 b (fNow ((12 * (σ.2.1 5 (220 * r + k))) + (σ.2.1 4 (220 * r + k))) (σ.2.1 6 (220 * r + k)) (0) (0) (0) (0) σ7) [(4, .int (iI v39)), (3, .int (iI (220 * r + k))), (0, .ref b), (1, .int (iI r)), (2, .int (iI k))] [] _
            refine tm_aload_n dX12_behindItem_195 rfl 2 rfl ?_
            refine tm_get (k := 3) (v := .ref (b + 1 + 1)) lay_12 dX12_behindItem_196 (by decide) fl12_13 rfl ?_
            refine tm_iload_n dX12_behindItem_199 rfl 1 rfl ?_
            refine tm_iald (z := 220 * r + k) (v := σ.2.1 3 (220 * r + k)) dX12_behindItem_200 (show mT[1]? = some (3, 0, 2860) from rfl) (by omega) (by omega) (by decide) (ra_F fNow_fr (by decide) (ra_F F3 (by decide) (rfl))) ?_
            have g53 := RG.a hR 3 (220 * r + k)
            refine tm_bipush dX12_behindItem_201 (by decide) ?_
            refine tm_icmp_ne (tgt := 244) dX12_behindItem_203 (by decide) ⟨by omega, by omega⟩ ⟨by decide, by decide⟩ (fun h54 => ?_) (fun h54 => ?_)
            · refine tm_iconst dX12_behindItem_244 ?_
              refine tm_istore (L' := [(4, .int (iI 0)), (3, .int (iI (220 * r + k))), (0, .ref b), (1, .int (iI r)), (2, .int (iI k))]) dX12_behindItem_245 (by decide) rfl ?_
              refine tm_sub [0, 1, 2, 3, 4] rfl (l_behind3 (d + 2) (σ0 := (fNow ((12 * (σ.2.1 5 (220 * r + k))) + (σ.2.1 4 (220 * r + k))) (σ.2.1 6 (220 * r + k)) (0) (0) (0) (0) σ7)) (r := r) (k := k) (by omega) (R4.now (by omega)) (by omega) (fun n160 σ61 F57 R58 f59 => ?_) _ (0) (fNow ((12 * (σ.2.1 5 (220 * r + k))) + (σ.2.1 4 (220 * r + k))) (σ.2.1 6 (220 * r + k)) (0) (0) (0) (0) σ7) Fr.rfl (R4.now (by omega)) (by omega) (by first | assumption | exact SCA.put (by assumption) (by omega) (by omega)) rfl)
              show Tm _ _ 339 b σ61 [(4, .int (iI n160)), (3, .int (iI (220 * r + k))), (0, .ref b), (1, .int (iI r)), (2, .int (iI k))] [] _
              exact tm_vret rfl dX12_behindItem_339 (⟨rfl, (((Fr.rfl.trans (Fr.sub F3 (by decide) (by decide) (by decide))).trans (Fr.sub fNow_fr (by decide) (by decide) (by decide))).trans (Fr.sub F57 (by decide) (by decide) (by decide))), R58, f59⟩)
            · refine tm_iconst dX12_behindItem_206 ?_
              refine tm_istore (L' := [(4, .int (iI 0)), (3, .int (iI (220 * r + k))), (0, .ref b), (1, .int (iI r)), (2, .int (iI k))]) dX12_behindItem_207 (by decide) rfl ?_
              refine tm_sub [0, 1, 2, 3, 4] rfl (l_behind2 (d + 2) (σ0 := (fNow ((12 * (σ.2.1 5 (220 * r + k))) + (σ.2.1 4 (220 * r + k))) (σ.2.1 6 (220 * r + k)) (0) (0) (0) (0) σ7)) (r := r) (k := k) (by omega) (R4.now (by omega)) (by omega) (by rw [((show Fr [] [54, 55, 56, 57, 58] [] σ (fNow ((12 * (σ.2.1 5 (220 * r + k))) + (σ.2.1 4 (220 * r + k))) (σ.2.1 6 (220 * r + k)) (0) (0) (0) (0) σ7) from ((Fr.rfl.trans (Fr.sub F3 (by decide) (by decide) (by decide))).trans (Fr.sub fNow_fr (by decide) (by decide) (by decide))))).2.1 4 (by decide)]; omega) (fun n167 σ68 F64 R65 f66 => ?_) _ (0) (fNow ((12 * (σ.2.1 5 (220 * r + k))) + (σ.2.1 4 (220 * r + k))) (σ.2.1 6 (220 * r + k)) (0) (0) (0) (0) σ7) Fr.rfl (R4.now (by omega)) (by omega) (by first | assumption | exact SCA.put (by assumption) (by omega) (by omega)) rfl)
              show Tm _ _ 244 b σ68 [(4, .int (iI n167)), (3, .int (iI (220 * r + k))), (0, .ref b), (1, .int (iI r)), (2, .int (iI k))] [] _
              refine tm_iconst dX12_behindItem_244 ?_
              refine tm_istore (L' := [(4, .int (iI 0)), (3, .int (iI (220 * r + k))), (0, .ref b), (1, .int (iI r)), (2, .int (iI k))]) dX12_behindItem_245 (by decide) rfl ?_
              refine tm_sub [0, 1, 2, 3, 4] rfl (l_behind3 (d + 2) (σ0 := σ68) (r := r) (k := k) (by omega) R65 (by omega) (fun n174 σ75 F71 R72 f73 => ?_) _ (0) σ68 Fr.rfl R65 (by omega) (by first | assumption | exact SCA.put (by assumption) (by omega) (by omega)) rfl)
              show Tm _ _ 339 b σ75 [(4, .int (iI n174)), (3, .int (iI (220 * r + k))), (0, .ref b), (1, .int (iI r)), (2, .int (iI k))] [] _
              exact tm_vret rfl dX12_behindItem_339 (⟨rfl, ((((Fr.rfl.trans (Fr.sub F3 (by decide) (by decide) (by decide))).trans (Fr.sub fNow_fr (by decide) (by decide) (by decide))).trans (Fr.sub F64 (by decide) (by decide) (by decide))).trans (Fr.sub F71 (by decide) (by decide) (by decide))), R72, f73⟩)
          · exact absurd h48 (by omega)
        · refine tm_aload_n dX12_behindItem_158 rfl 2 rfl ?_
          refine tm_get (k := 7) (v := .ref (b + 1 + 5)) lay_12 dX12_behindItem_159 (by decide) fl12_26 rfl ?_
          refine tm_iconst dX12_behindItem_162 ?_
          refine tm_iload_n dX12_behindItem_163 rfl 1 rfl ?_
          refine tm_imul dX12_behindItem_164 ?_
          refine tm_iconst dX12_behindItem_165 ?_
          refine tm_iadd dX12_behindItem_166 ?_
          refine tm_iald (z := (4 * (220 * r + k)) + 1) (v := σ.2.1 7 ((4 * (220 * r + k)) + 1)) dX12_behindItem_167 (show mT[5]? = some (7, 0, 11440) from rfl) (by omega) (by omega) (by decide) (ra_F F3 (by decide) (rfl)) ?_
          have g76 := RG.a hR 7 ((4 * (220 * r + k)) + 1)
          refine tm_goto (tgt := 172) dX12_behindItem_168 (by decide) ?_
          refine tm_iload dX12_behindItem_172 0 rfl ?_
          refine tm_iconst dX12_behindItem_174 ?_
          refine tm_icmp_le (tgt := 191) dX12_behindItem_175 (by decide) ⟨by omega, by omega⟩ ⟨by decide, by decide⟩ (fun h77 => ?_) (fun h77 => ?_)
          · exact absurd h77 (by omega)
          · refine tm_aload_n dX12_behindItem_178 rfl 2 rfl ?_
            refine tm_get (k := 8) (v := .ref (b + 1 + 6)) lay_12 dX12_behindItem_179 (by decide) fl12_29 rfl ?_
            refine tm_iconst dX12_behindItem_182 ?_
            refine tm_iload_n dX12_behindItem_183 rfl 1 rfl ?_
            refine tm_imul dX12_behindItem_184 ?_
            refine tm_iconst dX12_behindItem_185 ?_
            refine tm_iadd dX12_behindItem_186 ?_
            refine tm_iald (z := (4 * (220 * r + k)) + 1) (v := σ.2.1 8 ((4 * (220 * r + k)) + 1)) dX12_behindItem_187 (show mT[6]? = some (8, 0, 11440) from rfl) (by omega) (by omega) (by decide) (ra_F F3 (by decide) (rfl)) ?_
            have g78 := RG.a hR 8 ((4 * (220 * r + k)) + 1)
            refine tm_goto (tgt := 192) dX12_behindItem_188 (by decide) ?_
            refine tm_callV (M := m_X12_behindItem) (pc := 192) (ix := 416) (M' := m_X12_setNow) (As := [.int (iI ((12 * (σ.2.1 5 (220 * r + k))) + (σ.2.1 4 (220 * r + k)))), .int (iI (σ.2.1 6 (220 * r + k))), .int (iI 0), .int (iI 0), .int (iI (σ.2.1 7 ((4 * (220 * r + k)) + 1))), .int (iI (σ.2.1 8 ((4 * (220 * r + k)) + 1)))]) (rest := []) dX12_behindItem_192 ok_X12_setNow im_X12_setNow se_X12_setNow ml12_416 np_X12_setNow rfl rfl (Nat.le_of_ble_eq_true rfl) (Nat.le_of_ble_eq_true rfl) rfl (c_X12_setNow (d + 2) (σ := σ7) (n := (12 * (σ.2.1 5 (220 * r + k))) + (σ.2.1 4 (220 * r + k))) (w := σ.2.1 6 (220 * r + k)) (ka := 0) (a := 0) (kb := σ.2.1 7 ((4 * (220 * r + k)) + 1)) (c := σ.2.1 8 ((4 * (220 * r + k)) + 1)) (by omega)) (fun r79 σ80 hp => ?_)
            obtain ⟨rfl, f82⟩ := hp
            subst f82
            show Tm _ _ 195 b (fNow ((12 * (σ.2.1 5 (220 * r + k))) + (σ.2.1 4 (220 * r + k))) (σ.2.1 6 (220 * r + k)) (0) (0) (σ.2.1 7 ((4 * (220 * r + k)) + 1)) (σ.2.1 8 ((4 * (220 * r + k)) + 1)) σ7) [(4, .int (iI v39)), (3, .int (iI (220 * r + k))), (0, .ref b), (1, .int (iI r)), (2, .int (iI k))] [] _
            refine tm_aload_n dX12_behindItem_195 rfl 2 rfl ?_
            refine tm_get (k := 3) (v := .ref (b + 1 + 1)) lay_12 dX12_behindItem_196 (by decide) fl12_13 rfl ?_
            refine tm_iload_n dX12_behindItem_199 rfl 1 rfl ?_
            refine tm_iald (z := 220 * r + k) (v := σ.2.1 3 (220 * r + k)) dX12_behindItem_200 (show mT[1]? = some (3, 0, 2860) from rfl) (by omega) (by omega) (by decide) (ra_F fNow_fr (by decide) (ra_F F3 (by decide) (rfl))) ?_
            have g83 := RG.a hR 3 (220 * r + k)
            refine tm_bipush dX12_behindItem_201 (by decide) ?_
            refine tm_icmp_ne (tgt := 244) dX12_behindItem_203 (by decide) ⟨by omega, by omega⟩ ⟨by decide, by decide⟩ (fun h84 => ?_) (fun h84 => ?_)
            · refine tm_iconst dX12_behindItem_244 ?_
              refine tm_istore (L' := [(4, .int (iI 0)), (3, .int (iI (220 * r + k))), (0, .ref b), (1, .int (iI r)), (2, .int (iI k))]) dX12_behindItem_245 (by decide) rfl ?_
              refine tm_sub [0, 1, 2, 3, 4] rfl (l_behind3 (d + 2) (σ0 := (fNow ((12 * (σ.2.1 5 (220 * r + k))) + (σ.2.1 4 (220 * r + k))) (σ.2.1 6 (220 * r + k)) (0) (0) (σ.2.1 7 ((4 * (220 * r + k)) + 1)) (σ.2.1 8 ((4 * (220 * r + k)) + 1)) σ7)) (r := r) (k := k) (by omega) (R4.now (by omega)) (by omega) (fun n190 σ91 F87 R88 f89 => ?_) _ (0) (fNow ((12 * (σ.2.1 5 (220 * r + k))) + (σ.2.1 4 (220 * r + k))) (σ.2.1 6 (220 * r + k)) (0) (0) (σ.2.1 7 ((4 * (220 * r + k)) + 1)) (σ.2.1 8 ((4 * (220 * r + k)) + 1)) σ7) Fr.rfl (R4.now (by omega)) (by omega) (by first | assumption | exact SCA.put (by assumption) (by omega) (by omega)) rfl)
              show Tm _ _ 339 b σ91 [(4, .int (iI n190)), (3, .int (iI (220 * r + k))), (0, .ref b), (1, .int (iI r)), (2, .int (iI k))] [] _
              exact tm_vret rfl dX12_behindItem_339 (⟨rfl, (((Fr.rfl.trans (Fr.sub F3 (by decide) (by decide) (by decide))).trans (Fr.sub fNow_fr (by decide) (by decide) (by decide))).trans (Fr.sub F87 (by decide) (by decide) (by decide))), R88, f89⟩)
            · refine tm_iconst dX12_behindItem_206 ?_
              refine tm_istore (L' := [(4, .int (iI 0)), (3, .int (iI (220 * r + k))), (0, .ref b), (1, .int (iI r)), (2, .int (iI k))]) dX12_behindItem_207 (by decide) rfl ?_
              refine tm_sub [0, 1, 2, 3, 4] rfl (l_behind2 (d + 2) (σ0 := (fNow ((12 * (σ.2.1 5 (220 * r + k))) + (σ.2.1 4 (220 * r + k))) (σ.2.1 6 (220 * r + k)) (0) (0) (σ.2.1 7 ((4 * (220 * r + k)) + 1)) (σ.2.1 8 ((4 * (220 * r + k)) + 1)) σ7)) (r := r) (k := k) (by omega) (R4.now (by omega)) (by omega) (by rw [((show Fr [] [54, 55, 56, 57, 58] [] σ (fNow ((12 * (σ.2.1 5 (220 * r + k))) + (σ.2.1 4 (220 * r + k))) (σ.2.1 6 (220 * r + k)) (0) (0) (σ.2.1 7 ((4 * (220 * r + k)) + 1)) (σ.2.1 8 ((4 * (220 * r + k)) + 1)) σ7) from ((Fr.rfl.trans (Fr.sub F3 (by decide) (by decide) (by decide))).trans (Fr.sub fNow_fr (by decide) (by decide) (by decide))))).2.1 4 (by decide)]; omega) (fun n197 σ98 F94 R95 f96 => ?_) _ (0) (fNow ((12 * (σ.2.1 5 (220 * r + k))) + (σ.2.1 4 (220 * r + k))) (σ.2.1 6 (220 * r + k)) (0) (0) (σ.2.1 7 ((4 * (220 * r + k)) + 1)) (σ.2.1 8 ((4 * (220 * r + k)) + 1)) σ7) Fr.rfl (R4.now (by omega)) (by omega) (by first | assumption | exact SCA.put (by assumption) (by omega) (by omega)) rfl)
              show Tm _ _ 244 b σ98 [(4, .int (iI n197)), (3, .int (iI (220 * r + k))), (0, .ref b), (1, .int (iI r)), (2, .int (iI k))] [] _
              refine tm_iconst dX12_behindItem_244 ?_
              refine tm_istore (L' := [(4, .int (iI 0)), (3, .int (iI (220 * r + k))), (0, .ref b), (1, .int (iI r)), (2, .int (iI k))]) dX12_behindItem_245 (by decide) rfl ?_
              refine tm_sub [0, 1, 2, 3, 4] rfl (l_behind3 (d + 2) (σ0 := σ98) (r := r) (k := k) (by omega) R95 (by omega) (fun n1104 σ105 F101 R102 f103 => ?_) _ (0) σ98 Fr.rfl R95 (by omega) (by first | assumption | exact SCA.put (by assumption) (by omega) (by omega)) rfl)
              show Tm _ _ 339 b σ105 [(4, .int (iI n1104)), (3, .int (iI (220 * r + k))), (0, .ref b), (1, .int (iI r)), (2, .int (iI k))] [] _
              exact tm_vret rfl dX12_behindItem_339 (⟨rfl, ((((Fr.rfl.trans (Fr.sub F3 (by decide) (by decide) (by decide))).trans (Fr.sub fNow_fr (by decide) (by decide) (by decide))).trans (Fr.sub F94 (by decide) (by decide) (by decide))).trans (Fr.sub F101 (by decide) (by decide) (by decide))), R102, f103⟩)
      · exact absurd h46 (by omega)
    · refine tm_aload_n dX12_behindItem_123 rfl 2 rfl ?_
      refine tm_get (k := 7) (v := .ref (b + 1 + 5)) lay_12 dX12_behindItem_124 (by decide) fl12_26 rfl ?_
      refine tm_iconst dX12_behindItem_127 ?_
      refine tm_iload_n dX12_behindItem_128 rfl 1 rfl ?_
      refine tm_imul dX12_behindItem_129 ?_
      refine tm_iald (z := 4 * (220 * r + k)) (v := σ.2.1 7 (4 * (220 * r + k))) dX12_behindItem_130 (show mT[5]? = some (7, 0, 11440) from rfl) (by omega) (by omega) (by decide) (ra_F F3 (by decide) (rfl)) ?_
      have g106 := RG.a hR 7 (4 * (220 * r + k))
      refine tm_goto (tgt := 135) dX12_behindItem_131 (by decide) ?_
      refine tm_iload dX12_behindItem_135 0 rfl ?_
      refine tm_if_le (tgt := 151) dX12_behindItem_137 (by decide) ⟨by omega, by omega⟩ (fun h107 => ?_) (fun h107 => ?_)
      · exact absurd h107 (by omega)
      · refine tm_aload_n dX12_behindItem_140 rfl 2 rfl ?_
        refine tm_get (k := 8) (v := .ref (b + 1 + 6)) lay_12 dX12_behindItem_141 (by decide) fl12_29 rfl ?_
        refine tm_iconst dX12_behindItem_144 ?_
        refine tm_iload_n dX12_behindItem_145 rfl 1 rfl ?_
        refine tm_imul dX12_behindItem_146 ?_
        refine tm_iald (z := 4 * (220 * r + k)) (v := σ.2.1 8 (4 * (220 * r + k))) dX12_behindItem_147 (show mT[6]? = some (8, 0, 11440) from rfl) (by omega) (by omega) (by decide) (ra_F F3 (by decide) (rfl)) ?_
        have g108 := RG.a hR 8 (4 * (220 * r + k))
        refine tm_goto (tgt := 152) dX12_behindItem_148 (by decide) ?_
        refine tm_iload dX12_behindItem_152 0 rfl ?_
        refine tm_iconst dX12_behindItem_154 ?_
        refine tm_icmp_le (tgt := 171) dX12_behindItem_155 (by decide) ⟨by omega, by omega⟩ ⟨by decide, by decide⟩ (fun h109 => ?_) (fun h109 => ?_)
        · refine tm_iconst dX12_behindItem_171 ?_
          refine tm_iload dX12_behindItem_172 0 rfl ?_
          refine tm_iconst dX12_behindItem_174 ?_
          refine tm_icmp_le (tgt := 191) dX12_behindItem_175 (by decide) ⟨by omega, by omega⟩ ⟨by decide, by decide⟩ (fun h110 => ?_) (fun h110 => ?_)
          · refine tm_iconst dX12_behindItem_191 ?_
            refine tm_callV (M := m_X12_behindItem) (pc := 192) (ix := 416) (M' := m_X12_setNow) (As := [.int (iI ((12 * (σ.2.1 5 (220 * r + k))) + (σ.2.1 4 (220 * r + k)))), .int (iI (σ.2.1 6 (220 * r + k))), .int (iI (σ.2.1 7 (4 * (220 * r + k)))), .int (iI (σ.2.1 8 (4 * (220 * r + k)))), .int (iI 0), .int (iI 0)]) (rest := []) dX12_behindItem_192 ok_X12_setNow im_X12_setNow se_X12_setNow ml12_416 np_X12_setNow rfl rfl (Nat.le_of_ble_eq_true rfl) (Nat.le_of_ble_eq_true rfl) rfl (c_X12_setNow (d + 2) (σ := σ7) (n := (12 * (σ.2.1 5 (220 * r + k))) + (σ.2.1 4 (220 * r + k))) (w := σ.2.1 6 (220 * r + k)) (ka := σ.2.1 7 (4 * (220 * r + k))) (a := σ.2.1 8 (4 * (220 * r + k))) (kb := 0) (c := 0) (by omega)) (fun r111 σ112 hp => ?_)
            obtain ⟨rfl, f114⟩ := hp
            subst f114
            show Tm _ _ 195 b (fNow ((12 * (σ.2.1 5 (220 * r + k))) + (σ.2.1 4 (220 * r + k))) (σ.2.1 6 (220 * r + k)) (σ.2.1 7 (4 * (220 * r + k))) (σ.2.1 8 (4 * (220 * r + k))) (0) (0) σ7) [(4, .int (iI v39)), (3, .int (iI (220 * r + k))), (0, .ref b), (1, .int (iI r)), (2, .int (iI k))] [] _
            refine tm_aload_n dX12_behindItem_195 rfl 2 rfl ?_
            refine tm_get (k := 3) (v := .ref (b + 1 + 1)) lay_12 dX12_behindItem_196 (by decide) fl12_13 rfl ?_
            refine tm_iload_n dX12_behindItem_199 rfl 1 rfl ?_
            refine tm_iald (z := 220 * r + k) (v := σ.2.1 3 (220 * r + k)) dX12_behindItem_200 (show mT[1]? = some (3, 0, 2860) from rfl) (by omega) (by omega) (by decide) (ra_F fNow_fr (by decide) (ra_F F3 (by decide) (rfl))) ?_
            have g115 := RG.a hR 3 (220 * r + k)
            refine tm_bipush dX12_behindItem_201 (by decide) ?_
            refine tm_icmp_ne (tgt := 244) dX12_behindItem_203 (by decide) ⟨by omega, by omega⟩ ⟨by decide, by decide⟩ (fun h116 => ?_) (fun h116 => ?_)
            · refine tm_iconst dX12_behindItem_244 ?_
              refine tm_istore (L' := [(4, .int (iI 0)), (3, .int (iI (220 * r + k))), (0, .ref b), (1, .int (iI r)), (2, .int (iI k))]) dX12_behindItem_245 (by decide) rfl ?_
              refine tm_sub [0, 1, 2, 3, 4] rfl (l_behind3 (d + 2) (σ0 := (fNow ((12 * (σ.2.1 5 (220 * r + k))) + (σ.2.1 4 (220 * r + k))) (σ.2.1 6 (220 * r + k)) (σ.2.1 7 (4 * (220 * r + k))) (σ.2.1 8 (4 * (220 * r + k))) (0) (0) σ7)) (r := r) (k := k) (by omega) (R4.now (by omega)) (by omega) (fun n1122 σ123 F119 R120 f121 => ?_) _ (0) (fNow ((12 * (σ.2.1 5 (220 * r + k))) + (σ.2.1 4 (220 * r + k))) (σ.2.1 6 (220 * r + k)) (σ.2.1 7 (4 * (220 * r + k))) (σ.2.1 8 (4 * (220 * r + k))) (0) (0) σ7) Fr.rfl (R4.now (by omega)) (by omega) (by first | assumption | exact SCA.put (by assumption) (by omega) (by omega)) rfl)
              show Tm _ _ 339 b σ123 [(4, .int (iI n1122)), (3, .int (iI (220 * r + k))), (0, .ref b), (1, .int (iI r)), (2, .int (iI k))] [] _
              exact tm_vret rfl dX12_behindItem_339 (⟨rfl, (((Fr.rfl.trans (Fr.sub F3 (by decide) (by decide) (by decide))).trans (Fr.sub fNow_fr (by decide) (by decide) (by decide))).trans (Fr.sub F119 (by decide) (by decide) (by decide))), R120, f121⟩)
            · refine tm_iconst dX12_behindItem_206 ?_
              refine tm_istore (L' := [(4, .int (iI 0)), (3, .int (iI (220 * r + k))), (0, .ref b), (1, .int (iI r)), (2, .int (iI k))]) dX12_behindItem_207 (by decide) rfl ?_
              refine tm_sub [0, 1, 2, 3, 4] rfl (l_behind2 (d + 2) (σ0 := (fNow ((12 * (σ.2.1 5 (220 * r + k))) + (σ.2.1 4 (220 * r + k))) (σ.2.1 6 (220 * r + k)) (σ.2.1 7 (4 * (220 * r + k))) (σ.2.1 8 (4 * (220 * r + k))) (0) (0) σ7)) (r := r) (k := k) (by omega) (R4.now (by omega)) (by omega) (by rw [((show Fr [] [54, 55, 56, 57, 58] [] σ (fNow ((12 * (σ.2.1 5 (220 * r + k))) + (σ.2.1 4 (220 * r + k))) (σ.2.1 6 (220 * r + k)) (σ.2.1 7 (4 * (220 * r + k))) (σ.2.1 8 (4 * (220 * r + k))) (0) (0) σ7) from ((Fr.rfl.trans (Fr.sub F3 (by decide) (by decide) (by decide))).trans (Fr.sub fNow_fr (by decide) (by decide) (by decide))))).2.1 4 (by decide)]; omega) (fun n1129 σ130 F126 R127 f128 => ?_) _ (0) (fNow ((12 * (σ.2.1 5 (220 * r + k))) + (σ.2.1 4 (220 * r + k))) (σ.2.1 6 (220 * r + k)) (σ.2.1 7 (4 * (220 * r + k))) (σ.2.1 8 (4 * (220 * r + k))) (0) (0) σ7) Fr.rfl (R4.now (by omega)) (by omega) (by first | assumption | exact SCA.put (by assumption) (by omega) (by omega)) rfl)
              show Tm _ _ 244 b σ130 [(4, .int (iI n1129)), (3, .int (iI (220 * r + k))), (0, .ref b), (1, .int (iI r)), (2, .int (iI k))] [] _
              refine tm_iconst dX12_behindItem_244 ?_
              refine tm_istore (L' := [(4, .int (iI 0)), (3, .int (iI (220 * r + k))), (0, .ref b), (1, .int (iI r)), (2, .int (iI k))]) dX12_behindItem_245 (by decide) rfl ?_
              refine tm_sub [0, 1, 2, 3, 4] rfl (l_behind3 (d + 2) (σ0 := σ130) (r := r) (k := k) (by omega) R127 (by omega) (fun n1136 σ137 F133 R134 f135 => ?_) _ (0) σ130 Fr.rfl R127 (by omega) (by first | assumption | exact SCA.put (by assumption) (by omega) (by omega)) rfl)
              show Tm _ _ 339 b σ137 [(4, .int (iI n1136)), (3, .int (iI (220 * r + k))), (0, .ref b), (1, .int (iI r)), (2, .int (iI k))] [] _
              exact tm_vret rfl dX12_behindItem_339 (⟨rfl, ((((Fr.rfl.trans (Fr.sub F3 (by decide) (by decide) (by decide))).trans (Fr.sub fNow_fr (by decide) (by decide) (by decide))).trans (Fr.sub F126 (by decide) (by decide) (by decide))).trans (Fr.sub F133 (by decide) (by decide) (by decide))), R134, f135⟩)
          · exact absurd h110 (by omega)
        · refine tm_aload_n dX12_behindItem_158 rfl 2 rfl ?_
          refine tm_get (k := 7) (v := .ref (b + 1 + 5)) lay_12 dX12_behindItem_159 (by decide) fl12_26 rfl ?_
          refine tm_iconst dX12_behindItem_162 ?_
          refine tm_iload_n dX12_behindItem_163 rfl 1 rfl ?_
          refine tm_imul dX12_behindItem_164 ?_
          refine tm_iconst dX12_behindItem_165 ?_
          refine tm_iadd dX12_behindItem_166 ?_
          refine tm_iald (z := (4 * (220 * r + k)) + 1) (v := σ.2.1 7 ((4 * (220 * r + k)) + 1)) dX12_behindItem_167 (show mT[5]? = some (7, 0, 11440) from rfl) (by omega) (by omega) (by decide) (ra_F F3 (by decide) (rfl)) ?_
          have g138 := RG.a hR 7 ((4 * (220 * r + k)) + 1)
          refine tm_goto (tgt := 172) dX12_behindItem_168 (by decide) ?_
          refine tm_iload dX12_behindItem_172 0 rfl ?_
          refine tm_iconst dX12_behindItem_174 ?_
          refine tm_icmp_le (tgt := 191) dX12_behindItem_175 (by decide) ⟨by omega, by omega⟩ ⟨by decide, by decide⟩ (fun h139 => ?_) (fun h139 => ?_)
          · exact absurd h139 (by omega)
          · refine tm_aload_n dX12_behindItem_178 rfl 2 rfl ?_
            refine tm_get (k := 8) (v := .ref (b + 1 + 6)) lay_12 dX12_behindItem_179 (by decide) fl12_29 rfl ?_
            refine tm_iconst dX12_behindItem_182 ?_
            refine tm_iload_n dX12_behindItem_183 rfl 1 rfl ?_
            refine tm_imul dX12_behindItem_184 ?_
            refine tm_iconst dX12_behindItem_185 ?_
            refine tm_iadd dX12_behindItem_186 ?_
            refine tm_iald (z := (4 * (220 * r + k)) + 1) (v := σ.2.1 8 ((4 * (220 * r + k)) + 1)) dX12_behindItem_187 (show mT[6]? = some (8, 0, 11440) from rfl) (by omega) (by omega) (by decide) (ra_F F3 (by decide) (rfl)) ?_
            have g140 := RG.a hR 8 ((4 * (220 * r + k)) + 1)
            refine tm_goto (tgt := 192) dX12_behindItem_188 (by decide) ?_
            refine tm_callV (M := m_X12_behindItem) (pc := 192) (ix := 416) (M' := m_X12_setNow) (As := [.int (iI ((12 * (σ.2.1 5 (220 * r + k))) + (σ.2.1 4 (220 * r + k)))), .int (iI (σ.2.1 6 (220 * r + k))), .int (iI (σ.2.1 7 (4 * (220 * r + k)))), .int (iI (σ.2.1 8 (4 * (220 * r + k)))), .int (iI (σ.2.1 7 ((4 * (220 * r + k)) + 1))), .int (iI (σ.2.1 8 ((4 * (220 * r + k)) + 1)))]) (rest := []) dX12_behindItem_192 ok_X12_setNow im_X12_setNow se_X12_setNow ml12_416 np_X12_setNow rfl rfl (Nat.le_of_ble_eq_true rfl) (Nat.le_of_ble_eq_true rfl) rfl (c_X12_setNow (d + 2) (σ := σ7) (n := (12 * (σ.2.1 5 (220 * r + k))) + (σ.2.1 4 (220 * r + k))) (w := σ.2.1 6 (220 * r + k)) (ka := σ.2.1 7 (4 * (220 * r + k))) (a := σ.2.1 8 (4 * (220 * r + k))) (kb := σ.2.1 7 ((4 * (220 * r + k)) + 1)) (c := σ.2.1 8 ((4 * (220 * r + k)) + 1)) (by omega)) (fun r141 σ142 hp => ?_)
            obtain ⟨rfl, f144⟩ := hp
            subst f144
            show Tm _ _ 195 b (fNow ((12 * (σ.2.1 5 (220 * r + k))) + (σ.2.1 4 (220 * r + k))) (σ.2.1 6 (220 * r + k)) (σ.2.1 7 (4 * (220 * r + k))) (σ.2.1 8 (4 * (220 * r + k))) (σ.2.1 7 ((4 * (220 * r + k)) + 1)) (σ.2.1 8 ((4 * (220 * r + k)) + 1)) σ7) [(4, .int (iI v39)), (3, .int (iI (220 * r + k))), (0, .ref b), (1, .int (iI r)), (2, .int (iI k))] [] _
            refine tm_aload_n dX12_behindItem_195 rfl 2 rfl ?_
            refine tm_get (k := 3) (v := .ref (b + 1 + 1)) lay_12 dX12_behindItem_196 (by decide) fl12_13 rfl ?_
            refine tm_iload_n dX12_behindItem_199 rfl 1 rfl ?_
            refine tm_iald (z := 220 * r + k) (v := σ.2.1 3 (220 * r + k)) dX12_behindItem_200 (show mT[1]? = some (3, 0, 2860) from rfl) (by omega) (by omega) (by decide) (ra_F fNow_fr (by decide) (ra_F F3 (by decide) (rfl))) ?_
            have g145 := RG.a hR 3 (220 * r + k)
            refine tm_bipush dX12_behindItem_201 (by decide) ?_
            refine tm_icmp_ne (tgt := 244) dX12_behindItem_203 (by decide) ⟨by omega, by omega⟩ ⟨by decide, by decide⟩ (fun h146 => ?_) (fun h146 => ?_)
            · refine tm_iconst dX12_behindItem_244 ?_
              refine tm_istore (L' := [(4, .int (iI 0)), (3, .int (iI (220 * r + k))), (0, .ref b), (1, .int (iI r)), (2, .int (iI k))]) dX12_behindItem_245 (by decide) rfl ?_
              refine tm_sub [0, 1, 2, 3, 4] rfl (l_behind3 (d + 2) (σ0 := (fNow ((12 * (σ.2.1 5 (220 * r + k))) + (σ.2.1 4 (220 * r + k))) (σ.2.1 6 (220 * r + k)) (σ.2.1 7 (4 * (220 * r + k))) (σ.2.1 8 (4 * (220 * r + k))) (σ.2.1 7 ((4 * (220 * r + k)) + 1)) (σ.2.1 8 ((4 * (220 * r + k)) + 1)) σ7)) (r := r) (k := k) (by omega) (R4.now (by omega)) (by omega) (fun n1152 σ153 F149 R150 f151 => ?_) _ (0) (fNow ((12 * (σ.2.1 5 (220 * r + k))) + (σ.2.1 4 (220 * r + k))) (σ.2.1 6 (220 * r + k)) (σ.2.1 7 (4 * (220 * r + k))) (σ.2.1 8 (4 * (220 * r + k))) (σ.2.1 7 ((4 * (220 * r + k)) + 1)) (σ.2.1 8 ((4 * (220 * r + k)) + 1)) σ7) Fr.rfl (R4.now (by omega)) (by omega) (by first | assumption | exact SCA.put (by assumption) (by omega) (by omega)) rfl)
              show Tm _ _ 339 b σ153 [(4, .int (iI n1152)), (3, .int (iI (220 * r + k))), (0, .ref b), (1, .int (iI r)), (2, .int (iI k))] [] _
              exact tm_vret rfl dX12_behindItem_339 (⟨rfl, (((Fr.rfl.trans (Fr.sub F3 (by decide) (by decide) (by decide))).trans (Fr.sub fNow_fr (by decide) (by decide) (by decide))).trans (Fr.sub F149 (by decide) (by decide) (by decide))), R150, f151⟩)
            · refine tm_iconst dX12_behindItem_206 ?_
              refine tm_istore (L' := [(4, .int (iI 0)), (3, .int (iI (220 * r + k))), (0, .ref b), (1, .int (iI r)), (2, .int (iI k))]) dX12_behindItem_207 (by decide) rfl ?_
              refine tm_sub [0, 1, 2, 3, 4] rfl (l_behind2 (d + 2) (σ0 := (fNow ((12 * (σ.2.1 5 (220 * r + k))) + (σ.2.1 4 (220 * r + k))) (σ.2.1 6 (220 * r + k)) (σ.2.1 7 (4 * (220 * r + k))) (σ.2.1 8 (4 * (220 * r + k))) (σ.2.1 7 ((4 * (220 * r + k)) + 1)) (σ.2.1 8 ((4 * (220 * r + k)) + 1)) σ7)) (r := r) (k := k) (by omega) (R4.now (by omega)) (by omega) (by rw [((show Fr [] [54, 55, 56, 57, 58] [] σ (fNow ((12 * (σ.2.1 5 (220 * r + k))) + (σ.2.1 4 (220 * r + k))) (σ.2.1 6 (220 * r + k)) (σ.2.1 7 (4 * (220 * r + k))) (σ.2.1 8 (4 * (220 * r + k))) (σ.2.1 7 ((4 * (220 * r + k)) + 1)) (σ.2.1 8 ((4 * (220 * r + k)) + 1)) σ7) from ((Fr.rfl.trans (Fr.sub F3 (by decide) (by decide) (by decide))).trans (Fr.sub fNow_fr (by decide) (by decide) (by decide))))).2.1 4 (by decide)]; omega) (fun n1159 σ160 F156 R157 f158 => ?_) _ (0) (fNow ((12 * (σ.2.1 5 (220 * r + k))) + (σ.2.1 4 (220 * r + k))) (σ.2.1 6 (220 * r + k)) (σ.2.1 7 (4 * (220 * r + k))) (σ.2.1 8 (4 * (220 * r + k))) (σ.2.1 7 ((4 * (220 * r + k)) + 1)) (σ.2.1 8 ((4 * (220 * r + k)) + 1)) σ7) Fr.rfl (R4.now (by omega)) (by omega) (by first | assumption | exact SCA.put (by assumption) (by omega) (by omega)) rfl)
              show Tm _ _ 244 b σ160 [(4, .int (iI n1159)), (3, .int (iI (220 * r + k))), (0, .ref b), (1, .int (iI r)), (2, .int (iI k))] [] _
              refine tm_iconst dX12_behindItem_244 ?_
              refine tm_istore (L' := [(4, .int (iI 0)), (3, .int (iI (220 * r + k))), (0, .ref b), (1, .int (iI r)), (2, .int (iI k))]) dX12_behindItem_245 (by decide) rfl ?_
              refine tm_sub [0, 1, 2, 3, 4] rfl (l_behind3 (d + 2) (σ0 := σ160) (r := r) (k := k) (by omega) R157 (by omega) (fun n1166 σ167 F163 R164 f165 => ?_) _ (0) σ160 Fr.rfl R157 (by omega) (by first | assumption | exact SCA.put (by assumption) (by omega) (by omega)) rfl)
              show Tm _ _ 339 b σ167 [(4, .int (iI n1166)), (3, .int (iI (220 * r + k))), (0, .ref b), (1, .int (iI r)), (2, .int (iI k))] [] _
              exact tm_vret rfl dX12_behindItem_339 (⟨rfl, ((((Fr.rfl.trans (Fr.sub F3 (by decide) (by decide) (by decide))).trans (Fr.sub fNow_fr (by decide) (by decide) (by decide))).trans (Fr.sub F156 (by decide) (by decide) (by decide))).trans (Fr.sub F163 (by decide) (by decide) (by decide))), R164, f165⟩)
end
