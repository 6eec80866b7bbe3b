theorem Fr.q {ss ks js : List Nat} {σ τ : MS} (f : Fr ss ks js σ τ) {l : List Nat} (h : ∀ k ∈ l, k ∉ ks) {k : Nat} (hk : k ∈ l) : τ.2.1 k = σ.2.1 k := f.2.1 k (h k hk)
theorem nArgs.fr {ss ks js : List Nat} {σ τ : MS} (f : Fr ss ks js σ τ) (h : ∀ k ∈ [3, 4, 5, 6, 7, 8, 9, 11], k ∉ ks) : nArgs τ = nArgs σ := by
  funext x
  unfold nArgs
  rw [f.q h (k := 3) (by decide), f.q h (k := 5) (by decide), f.q h (k := 6) (by decide), f.q h (k := 11) (by decide)]
theorem OKI.fr {ss ks js : List Nat} {σ τ : MS} (f : Fr ss ks js σ τ) (h : ∀ k ∈ [3, 4, 5, 6, 7, 8, 9, 11], k ∉ ks) : OKI τ = OKI σ := by
  funext F x
  unfold OKI
  rw [nArgs.fr f h, f.q h (k := 3) (by decide), f.q h (k := 4) (by decide), f.q h (k := 5) (by decide), f.q h (k := 6) (by decide), f.q h (k := 7) (by decide), f.q h (k := 8) (by decide)]
theorem OKS.fr {ss ks js : List Nat} {σ τ : MS} {F r : Int} (hok : OKS σ F r) (f : Fr ss ks js σ τ) (h : ∀ k ∈ [3, 4, 5, 6, 7, 8, 9, 11], k ∉ ks) : OKS τ F r := fun k a b => by
  rw [OKI.fr f h]
  exact hok k a (by rw [← f.q h (k := 9) (by decide)]; exact b)
theorem JMP.fr {ss ks js : List Nat} {σ τ : MS} {r : Int} (hok : JMP σ r) (f : Fr ss ks js σ τ) (h : ∀ k ∈ [3, 4, 9], k ∉ ks) : JMP τ r := fun k a b => by
  rw [f.q h (k := 3) (by decide), f.q h (k := 4) (by decide)]
  exact hok k a (by rw [← f.q h (k := 9) (by decide)]; exact b)
theorem LBR.fr {ss ks js : List Nat} {σ τ : MS} {r : Int} (hok : LBR σ r) (f : Fr ss ks js σ τ) (h : ∀ k ∈ [3, 4, 9], k ∉ ks) : LBR τ r := fun k a b => by
  rw [f.q h (k := 3) (by decide), f.q h (k := 4) (by decide)]
  exact hok k a (by rw [← f.q h (k := 9) (by decide)]; exact b)
theorem OKF.fr {ss ks js : List Nat} {σ τ : MS} {r : Int} (hok : OKF σ r) (f : Fr ss ks js σ τ) (h : ∀ k ∈ [12, 14, 15, 18], k ∉ ks) : OKF τ r := by
  unfold OKF
  rw [f.q h (k := 12) (by decide), f.q h (k := 14) (by decide), f.q h (k := 15) (by decide), f.q h (k := 18) (by decide)]
  exact hok

theorem ml12_433 : Cond.methodLink RX12 433 yX12_livesBehind ∈ pWW := pw9 (List.mem_of_getElem? (i := 133) rfl) rfl
theorem dX12_findLives_68 : decode cX12_findLives 68 = .ok (.iload 6, 2) := by decide +kernel
theorem dX12_findLives_70 : decode cX12_findLives 70 = .ok (.sipush 192, 3) := by decide +kernel
theorem dX12_findLives_73 : decode cX12_findLives 73 = .ok (.if_icmp .ge 101, 3) := by decide +kernel
theorem dX12_findLives_76 : decode cX12_findLives 76 = .ok (.aload_n 0, 1) := by decide +kernel
theorem dX12_findLives_77 : decode cX12_findLives 77 = .ok (.iload_n 1, 1) := by decide +kernel
theorem dX12_findLives_78 : decode cX12_findLives 78 = .ok (.iload 4, 2) := by decide +kernel
theorem dX12_findLives_80 : decode cX12_findLives 80 = .ok (.iload 6, 2) := by decide +kernel
theorem dX12_findLives_82 : decode cX12_findLives 82 = .ok (.invokevirtual 433, 3) := by decide +kernel
theorem dX12_findLives_85 : decode cX12_findLives 85 = .ok (.ifCond .eq 14, 3) := by decide +kernel
theorem dX12_findLives_99 : decode cX12_findLives 99 = .ok (.aload_n 0, 1) := by decide +kernel
theorem dX12_findLives_100 : decode cX12_findLives 100 = .ok (.getfield 13, 3) := by decide +kernel
theorem dX12_findLives_103 : decode cX12_findLives 103 = .ok (.iload 5, 2) := by decide +kernel
theorem dX12_findLives_105 : decode cX12_findLives 105 = .ok (.iaload, 1) := by decide +kernel
theorem dX12_findLives_106 : decode cX12_findLives 106 = .ok (.bipush 12, 2) := by decide +kernel
theorem dX12_findLives_108 : decode cX12_findLives 108 = .ok (.if_icmp .eq 18, 3) := by decide +kernel
theorem dX12_findLives_126 : decode cX12_findLives 126 = .ok (.iconst 0, 1) := by decide +kernel
theorem dX12_findLives_127 : decode cX12_findLives 127 = .ok (.istore 7, 2) := by decide +kernel
theorem dX12_findLives_129 : decode cX12_findLives 129 = .ok (.iload 7, 2) := by decide +kernel
theorem dX12_findLives_131 : decode cX12_findLives 131 = .ok (.ifCond .eq 37, 3) := by decide +kernel
theorem dX12_findLives_168 : decode cX12_findLives 168 = .ok (.iinc 6 1, 3) := by decide +kernel
theorem dX12_findLives_171 : decode cX12_findLives 171 = .ok (.goto (-103), 3) := by decide +kernel
theorem dX12_findLives_111 : decode cX12_findLives 111 = .ok (.aload_n 0, 1) := by decide +kernel
theorem dX12_findLives_112 : decode cX12_findLives 112 = .ok (.iload 5, 2) := by decide +kernel
theorem dX12_findLives_114 : decode cX12_findLives 114 = .ok (.iload 6, 2) := by decide +kernel
theorem dX12_findLives_116 : decode cX12_findLives 116 = .ok (.invokevirtual 439, 3) := by decide +kernel
theorem dX12_findLives_119 : decode cX12_findLives 119 = .ok (.ifCond .eq 7, 3) := by decide +kernel
theorem dX12_findLives_122 : decode cX12_findLives 122 = .ok (.iconst 1, 1) := by decide +kernel
theorem dX12_findLives_123 : decode cX12_findLives 123 = .ok (.goto 4, 3) := by decide +kernel
theorem dX12_findLives_134 : decode cX12_findLives 134 = .ok (.aload_n 0, 1) := by decide +kernel
theorem dX12_findLives_135 : decode cX12_findLives 135 = .ok (.getfield 130, 3) := by decide +kernel
theorem dX12_findLives_138 : decode cX12_findLives 138 = .ok (.sipush 192, 3) := by decide +kernel
theorem dX12_findLives_141 : decode cX12_findLives 141 = .ok (.iload 4, 2) := by decide +kernel
theorem dX12_findLives_143 : decode cX12_findLives 143 = .ok (.imul, 1) := by decide +kernel
theorem dX12_findLives_144 : decode cX12_findLives 144 = .ok (.iload 6, 2) := by decide +kernel
theorem dX12_findLives_146 : decode cX12_findLives 146 = .ok (.iadd, 1) := by decide +kernel
theorem dX12_findLives_147 : decode cX12_findLives 147 = .ok (.baload, 1) := by decide +kernel
theorem dX12_findLives_148 : decode cX12_findLives 148 = .ok (.ifCond .ne 20, 3) := by decide +kernel
theorem dX12_findLives_151 : decode cX12_findLives 151 = .ok (.aload_n 0, 1) := by decide +kernel
theorem dX12_findLives_152 : decode cX12_findLives 152 = .ok (.getfield 130, 3) := by decide +kernel
theorem dX12_findLives_155 : decode cX12_findLives 155 = .ok (.sipush 192, 3) := by decide +kernel
theorem dX12_findLives_158 : decode cX12_findLives 158 = .ok (.iload 4, 2) := by decide +kernel
theorem dX12_findLives_160 : decode cX12_findLives 160 = .ok (.imul, 1) := by decide +kernel
theorem dX12_findLives_161 : decode cX12_findLives 161 = .ok (.iload 6, 2) := by decide +kernel
theorem dX12_findLives_163 : decode cX12_findLives 163 = .ok (.iadd, 1) := by decide +kernel
theorem dX12_findLives_164 : decode cX12_findLives 164 = .ok (.iconst 1, 1) := by decide +kernel
theorem dX12_findLives_165 : decode cX12_findLives 165 = .ok (.bastore, 1) := by decide +kernel
theorem dX12_findLives_166 : decode cX12_findLives 166 = .ok (.iconst 1, 1) := by decide +kernel
theorem dX12_findLives_167 : decode cX12_findLives 167 = .ok (.istore_n 3, 1) := by decide +kernel
theorem dX12_findLives_88 : decode cX12_findLives 88 = .ok (.aload_n 0, 1) := by decide +kernel
theorem dX12_findLives_89 : decode cX12_findLives 89 = .ok (.iload 5, 2) := by decide +kernel
theorem dX12_findLives_91 : decode cX12_findLives 91 = .ok (.iload 6, 2) := by decide +kernel
theorem dX12_findLives_93 : decode cX12_findLives 93 = .ok (.invokevirtual 436, 3) := by decide +kernel
theorem dX12_findLives_96 : decode cX12_findLives 96 = .ok (.ifCond .eq 26, 3) := by decide +kernel
set_option maxRecDepth 20000 in
theorem l_lives4 (d : Nat) {b : Nat} {σ0 : MS} {r : Int} {F : Int} {k : Int} {n1 : Int} {C0 : Int} {post : Option Value → MS → Prop} (hr : 0 ≤ r ∧ r < 6) (hR0 : RG σ0) (hit : ITM σ0) (hpar : PAR σ0) (hok : OKS σ0 F r) (hl : LAB σ0) (hk : 0 ≤ k ∧ k < n1 ∧ n1 = σ0.2.1 9 r) (hx_174 : ∀ (w : Int) (g : Int) (σ : MS) , (Fr [] [59] [] σ0 σ) → (RG σ) → (w = 0 ∨ w = 1) → (BO 59 σ) → ((cz (σ.2.1 59) 42432 : Int) + w ≤ C0) → Tm (d + 5) m_X12_findLives 174 b σ [(6, .int (iI g)), (5, .int (iI (220 * r + k))), (4, .int (iI k)), (3, .int (iI w)), (2, .int (iI n1)), (0, .ref b), (1, .int (iI r))] [] post) : ∀ (n : Nat) (w : Int) (g : Int) (σ : MS) , (Fr [] [59] [] σ0 σ) → (RG σ) → ((w = 0 ∨ w = 1) ∧ 0 ≤ g ∧ g ≤ 192) → (BO 59 σ) → ((cz (σ.2.1 59) 42432 : Int) + w ≤ C0) → (192 - g).toNat = n → Tm (d + 5) m_X12_findLives 68 b σ [(6, .int (iI g)), (5, .int (iI (220 * r + k))), (4, .int (iI k)), (3, .int (iI w)), (2, .int (iI n1)), (0, .ref b), (1, .int (iI r))] [] post := by
  intro n
  induction n using Nat.strongRecOn with
  | _ n ih =>
    intro w g σ hF hR h0 hbl hcn hm
    have hit1 := hit.fr hF (by decide)
    have hpar1 := hpar.fr hF (by decide)
    have hok1 := hok.fr hF (by decide)
    have hl1 := hl.fr hF (by decide)
    have q1 := hit r (by omega) (by omega)
    have q9 : σ.2.1 9 r = σ0.2.1 9 r := by rw [hF.2.1 9 (by decide)]
    refine tm_iload dX12_findLives_68 0 rfl ?_
    refine tm_sipush dX12_findLives_70 (by decide) ?_
    refine tm_icmp_ge (tgt := 174) dX12_findLives_73 (by decide) ⟨by omega, by omega⟩ ⟨by decide, by decide⟩ (fun h1 => ?_) (fun h1 => ?_)
    · exact tm_sub [0, 1, 2, 3, 4, 5, 6] rfl (hx_174 (w) (g) σ (Fr.rfl.trans (Fr.sub hF (by decide) (by decide) (by decide))) hR (by omega) hbl hcn)
    · refine tm_aload_n dX12_findLives_76 rfl 5 rfl ?_
      refine tm_iload_n dX12_findLives_77 rfl 6 rfl ?_
      refine tm_iload dX12_findLives_78 2 rfl ?_
      refine tm_iload dX12_findLives_80 0 rfl ?_
      refine tm_callV (M := m_X12_findLives) (pc := 82) (ix := 433) (M' := m_X12_livesBehind) (As := [.int (iI r), .int (iI k), .int (iI g)]) (rest := []) dX12_findLives_82 ok_X12_livesBehind im_X12_livesBehind se_X12_livesBehind ml12_433 np_X12_livesBehind rfl rfl (Nat.le_of_ble_eq_true rfl) (Nat.le_of_ble_eq_true rfl) rfl (c_X12_livesBehind (d + 1) (σ := σ) (r := r) (k := k) (g := g) (by omega) hR hit1 hok1.jmp hbl hl1 (by omega) (by omega)) (fun r2 σ3 hp => ?_)
      obtain ⟨v4, rfl, rfl, f5⟩ := hp
      show Tm _ _ 85 b σ [(6, .int (iI g)), (5, .int (iI (220 * r + k))), (4, .int (iI k)), (3, .int (iI w)), (2, .int (iI n1)), (0, .ref b), (1, .int (iI r))] [.int (iI v4)] _
      refine tm_if_eq (tgt := 99) dX12_findLives_85 (by decide) ⟨by omega, by omega⟩ (fun h6 => ?_) (fun h6 => ?_)
      · refine tm_aload_n dX12_findLives_99 rfl 5 rfl ?_
        refine tm_get (k := 3) (v := .ref (b + 1 + 1)) lay_12 dX12_findLives_100 (by decide) fl12_13 rfl ?_
        refine tm_iload dX12_findLives_103 1 rfl ?_
        refine tm_iald (z := 220 * r + k) (v := σ0.2.1 3 (220 * r + k)) dX12_findLives_105 (show mT[1]? = some (3, 0, 2860) from rfl) (by omega) (by omega) (by decide) (ra_F hF (by decide) (rfl)) ?_
        have g7 := RG.a hR0 3 (220 * r + k)
        refine tm_bipush dX12_findLives_106 (by decide) ?_
        refine tm_icmp_eq (tgt := 126) dX12_findLives_108 (by decide) ⟨by omega, by omega⟩ ⟨by decide, by decide⟩ (fun h8 => ?_) (fun h8 => ?_)
        · refine tm_iconst dX12_findLives_126 ?_
          refine tm_istore (L' := [(7, .int (iI 0)), (6, .int (iI g)), (5, .int (iI (220 * r + k))), (4, .int (iI k)), (3, .int (iI w)), (2, .int (iI n1)), (0, .ref b), (1, .int (iI r))]) dX12_findLives_127 (by decide) rfl ?_
          refine tm_iload dX12_findLives_129 0 rfl ?_
          refine tm_if_eq (tgt := 168) dX12_findLives_131 (by decide) ⟨by decide, by decide⟩ (fun _ => ?_) (fun h => absurd h (by decide))
          refine tm_iinc (q0 := 1) (L' := [(6, .int (iI (g + 1))), (7, .int (iI 0)), (5, .int (iI (220 * r + k))), (4, .int (iI k)), (3, .int (iI w)), (2, .int (iI n1)), (0, .ref b), (1, .int (iI r))]) dX12_findLives_168 rfl (by decide) rfl ?_
          refine tm_goto (tgt := 68) dX12_findLives_171 (by decide) ?_
          exact tm_sub [0, 2, 3, 4, 5, 6, 7] rfl (ih _ (by omega) (w) (g + 1) σ (Fr.rfl.trans (Fr.sub hF (by decide) (by decide) (by decide))) hR (by omega) (by first | exact hbl | exact hbl.A (by omega)) (by first | omega | (have hcz := cz_sA (σ := σ) (k := 59) (n := 42432) (z := 192 * k + g) (v := 1) (by omega) (by omega) (by omega) (by decide); omega)) rfl)
        · refine tm_aload_n dX12_findLives_111 rfl 5 rfl ?_
          refine tm_iload dX12_findLives_112 1 rfl ?_
          refine tm_iload dX12_findLives_114 0 rfl ?_
          refine tm_callV (M := m_X12_findLives) (pc := 116) (ix := 439) (M' := m_X12_leansOn) (As := [.int (iI (220 * r + k)), .int (iI g)]) (rest := []) dX12_findLives_116 ok_X12_leansOn im_X12_leansOn se_X12_leansOn ml12_439 np_X12_leansOn rfl rfl (Nat.le_of_ble_eq_true rfl) (Nat.le_of_ble_eq_true rfl) rfl (c_X12_leansOn (d) (σ := σ) (x := 220 * r + k) (g := g) (by omega) hR (hok1.of (by omega) (by omega)) hpar1 (by omega)) (fun r10 σ11 hp => ?_)
          obtain ⟨v12, rfl, rfl, f13, f14⟩ := hp
          show Tm _ _ 119 b σ [(6, .int (iI g)), (5, .int (iI (220 * r + k))), (4, .int (iI k)), (3, .int (iI w)), (2, .int (iI n1)), (0, .ref b), (1, .int (iI r))] [.int (iI v12)] _
          refine tm_if_eq (tgt := 126) dX12_findLives_119 (by decide) ⟨by omega, by omega⟩ (fun h15 => ?_) (fun h15 => ?_)
          · refine tm_iconst dX12_findLives_126 ?_
            refine tm_istore (L' := [(7, .int (iI 0)), (6, .int (iI g)), (5, .int (iI (220 * r + k))), (4, .int (iI k)), (3, .int (iI w)), (2, .int (iI n1)), (0, .ref b), (1, .int (iI r))]) dX12_findLives_127 (by decide) rfl ?_
            refine tm_iload dX12_findLives_129 0 rfl ?_
            refine tm_if_eq (tgt := 168) dX12_findLives_131 (by decide) ⟨by decide, by decide⟩ (fun _ => ?_) (fun h => absurd h (by decide))
            refine tm_iinc (q0 := 1) (L' := [(6, .int (iI (g + 1))), (7, .int (iI 0)), (5, .int (iI (220 * r + k))), (4, .int (iI k)), (3, .int (iI w)), (2, .int (iI n1)), (0, .ref b), (1, .int (iI r))]) dX12_findLives_168 rfl (by decide) rfl ?_
            refine tm_goto (tgt := 68) dX12_findLives_171 (by decide) ?_
            exact tm_sub [0, 2, 3, 4, 5, 6, 7] rfl (ih _ (by omega) (w) (g + 1) σ (Fr.rfl.trans (Fr.sub hF (by decide) (by decide) (by decide))) hR (by omega) (by first | exact hbl | exact hbl.A (by omega)) (by first | omega | (have hcz := cz_sA (σ := σ) (k := 59) (n := 42432) (z := 192 * k + g) (v := 1) (by omega) (by omega) (by omega) (by decide); omega)) rfl)
          · refine tm_iconst dX12_findLives_122 ?_
            refine tm_goto (tgt := 127) dX12_findLives_123 (by decide) ?_
            refine tm_istore (L' := [(7, .int (iI 1)), (6, .int (iI g)), (5, .int (iI (220 * r + k))), (4, .int (iI k)), (3, .int (iI w)), (2, .int (iI n1)), (0, .ref b), (1, .int (iI r))]) dX12_findLives_127 (by decide) rfl ?_
            refine tm_iload dX12_findLives_129 0 rfl ?_
            refine tm_if_eq (tgt := 168) dX12_findLives_131 (by decide) ⟨by decide, by decide⟩ (fun h => absurd h (by decide)) (fun _ => ?_)
            refine tm_aload_n dX12_findLives_134 rfl 6 rfl ?_
            refine tm_get (k := 59) (v := .ref (b + 1 + 37)) lay_12 dX12_findLives_135 (by decide) fl12_130 rfl ?_
            refine tm_sipush dX12_findLives_138 (by decide) ?_
            refine tm_iload dX12_findLives_141 3 rfl ?_
            refine tm_imul dX12_findLives_143 ?_
            refine tm_iload dX12_findLives_144 1 rfl ?_
            refine tm_iadd dX12_findLives_146 ?_
            refine tm_zald (z := (192 * k) + g) (v := σ.2.1 59 ((192 * k) + g)) dX12_findLives_147 (show mT[37]? = some (59, 2, 42432) from rfl) (by omega) (by omega) (by decide) (rfl) ?_
            have g18 := RG.a hR 59 ((192 * k) + g)
            have := hbl ((192 * k) + g)
            refine tm_if_ne (tgt := 168) dX12_findLives_148 (by decide) ⟨by omega, by omega⟩ (fun h19 => ?_) (fun h19 => ?_)
            · refine tm_iinc (q0 := 1) (L' := [(6, .int (iI (g + 1))), (7, .int (iI 1)), (5, .int (iI (220 * r + k))), (4, .int (iI k)), (3, .int (iI w)), (2, .int (iI n1)), (0, .ref b), (1, .int (iI r))]) dX12_findLives_168 rfl (by decide) rfl ?_
              refine tm_goto (tgt := 68) dX12_findLives_171 (by decide) ?_
              exact tm_sub [0, 2, 3, 4, 5, 6, 7] rfl (ih _ (by omega) (w) (g + 1) σ (Fr.rfl.trans (Fr.sub hF (by decide) (by decide) (by decide))) hR (by omega) (by first | exact hbl | exact hbl.A (by omega)) (by first | omega | (have hcz := cz_sA (σ := σ) (k := 59) (n := 42432) (z := 192 * k + g) (v := 1) (by omega) (by omega) (by omega) (by decide); omega)) rfl)
            · refine tm_aload_n dX12_findLives_151 rfl 6 rfl ?_
              refine tm_get (k := 59) (v := .ref (b + 1 + 37)) lay_12 dX12_findLives_152 (by decide) fl12_130 rfl ?_
              refine tm_sipush dX12_findLives_155 (by decide) ?_
              refine tm_iload dX12_findLives_158 3 rfl ?_
              refine tm_imul dX12_findLives_160 ?_
              refine tm_iload dX12_findLives_161 1 rfl ?_
              refine tm_iadd dX12_findLives_163 ?_
              refine tm_iconst dX12_findLives_164 ?_
              refine tm_zast (z := (192 * k) + g) (v := 1) dX12_findLives_165 (show mT[37]? = some (59, 2, 42432) from rfl) (by omega) (by omega) (by decide) (by omega) ?_
              refine tm_iconst dX12_findLives_166 ?_
              refine tm_istore_n (L' := [(3, .int (iI 1)), (7, .int (iI 1)), (6, .int (iI g)), (5, .int (iI (220 * r + k))), (4, .int (iI k)), (2, .int (iI n1)), (0, .ref b), (1, .int (iI r))]) dX12_findLives_167 rfl (by decide) rfl ?_
              refine tm_iinc (q0 := 2) (L' := [(6, .int (iI (g + 1))), (3, .int (iI 1)), (7, .int (iI 1)), (5, .int (iI (220 * r + k))), (4, .int (iI k)), (2, .int (iI n1)), (0, .ref b), (1, .int (iI r))]) dX12_findLives_168 rfl (by decide) rfl ?_
              refine tm_goto (tgt := 68) dX12_findLives_171 (by decide) ?_
              exact tm_sub [0, 3, 4, 1, 5, 6, 7] rfl (ih _ (by omega) (1) (g + 1) (sA 59 ((192 * k) + g) (1) σ) ((Fr.rfl.trans (Fr.sub hF (by decide) (by decide) (by decide))).A (by decide)) (hR.A (by omega)) (by omega) (by first | exact hbl | exact hbl.A (by omega)) (by first | omega | (have hcz := cz_sA (σ := σ) (k := 59) (n := 42432) (z := 192 * k + g) (v := 1) (by omega) (by omega) (by omega) (by decide); omega)) rfl)
      · refine tm_aload_n dX12_findLives_88 rfl 5 rfl ?_
        refine tm_iload dX12_findLives_89 1 rfl ?_
        refine tm_iload dX12_findLives_91 0 rfl ?_
        refine tm_callV (M := m_X12_findLives) (pc := 93) (ix := 436) (M' := m_X12_writesTo) (As := [.int (iI (220 * r + k)), .int (iI g)]) (rest := []) dX12_findLives_93 ok_X12_writesTo im_X12_writesTo se_X12_writesTo ml12_436 np_X12_writesTo rfl rfl (Nat.le_of_ble_eq_true rfl) (Nat.le_of_ble_eq_true rfl) rfl (c_X12_writesTo (d + 2) (σ := σ) (x := 220 * r + k) (g := g) (by omega) hR (by omega)) (fun r20 σ21 hp => ?_)
        obtain ⟨v22, rfl, rfl, f23, f24⟩ := hp
        show Tm _ _ 96 b σ [(6, .int (iI g)), (5, .int (iI (220 * r + k))), (4, .int (iI k)), (3, .int (iI w)), (2, .int (iI n1)), (0, .ref b), (1, .int (iI r))] [.int (iI v22)] _
        refine tm_if_eq (tgt := 122) dX12_findLives_96 (by decide) ⟨by omega, by omega⟩ (fun h25 => ?_) (fun h25 => ?_)
        · refine tm_iconst dX12_findLives_122 ?_
          refine tm_goto (tgt := 127) dX12_findLives_123 (by decide) ?_
          refine tm_istore (L' := [(7, .int (iI 1)), (6, .int (iI g)), (5, .int (iI (220 * r + k))), (4, .int (iI k)), (3, .int (iI w)), (2, .int (iI n1)), (0, .ref b), (1, .int (iI r))]) dX12_findLives_127 (by decide) rfl ?_
          refine tm_iload dX12_findLives_129 0 rfl ?_
          refine tm_if_eq (tgt := 168) dX12_findLives_131 (by decide) ⟨by decide, by decide⟩ (fun h => absurd h (by decide)) (fun _ => ?_)
          refine tm_aload_n dX12_findLives_134 rfl 6 rfl ?_
          refine tm_get (k := 59) (v := .ref (b + 1 + 37)) lay_12 dX12_findLives_135 (by decide) fl12_130 rfl ?_
          refine tm_sipush dX12_findLives_138 (by decide) ?_
          refine tm_iload dX12_findLives_141 3 rfl ?_
          refine tm_imul dX12_findLives_143 ?_
          refine tm_iload dX12_findLives_144 1 rfl ?_
          refine tm_iadd dX12_findLives_146 ?_
          refine tm_zald (z := (192 * k) + g) (v := σ.2.1 59 ((192 * k) + g)) dX12_findLives_147 (show mT[37]? = some (59, 2, 42432) from rfl) (by omega) (by omega) (by decide) (rfl) ?_
          have g27 := RG.a hR 59 ((192 * k) + g)
          have := hbl ((192 * k) + g)
          refine tm_if_ne (tgt := 168) dX12_findLives_148 (by decide) ⟨by omega, by omega⟩ (fun h28 => ?_) (fun h28 => ?_)
          · refine tm_iinc (q0 := 1) (L' := [(6, .int (iI (g + 1))), (7, .int (iI 1)), (5, .int (iI (220 * r + k))), (4, .int (iI k)), (3, .int (iI w)), (2, .int (iI n1)), (0, .ref b), (1, .int (iI r))]) dX12_findLives_168 rfl (by decide) rfl ?_
            refine tm_goto (tgt := 68) dX12_findLives_171 (by decide) ?_
            exact tm_sub [0, 2, 3, 4, 5, 6, 7] rfl (ih _ (by omega) (w) (g + 1) σ (Fr.rfl.trans (Fr.sub hF (by decide) (by decide) (by decide))) hR (by omega) (by first | exact hbl | exact hbl.A (by omega)) (by first | omega | (have hcz := cz_sA (σ := σ) (k := 59) (n := 42432) (z := 192 * k + g) (v := 1) (by omega) (by omega) (by omega) (by decide); omega)) rfl)
          · refine tm_aload_n dX12_findLives_151 rfl 6 rfl ?_
            refine tm_get (k := 59) (v := .ref (b + 1 + 37)) lay_12 dX12_findLives_152 (by decide) fl12_130 rfl ?_
            refine tm_sipush dX12_findLives_155 (by decide) ?_
            refine tm_iload dX12_findLives_158 3 rfl ?_
            refine tm_imul dX12_findLives_160 ?_
            refine tm_iload dX12_findLives_161 1 rfl ?_
            refine tm_iadd dX12_findLives_163 ?_
            refine tm_iconst dX12_findLives_164 ?_
            refine tm_zast (z := (192 * k) + g) (v := 1) dX12_findLives_165 (show mT[37]? = some (59, 2, 42432) from rfl) (by omega) (by omega) (by decide) (by omega) ?_
            refine tm_iconst dX12_findLives_166 ?_
            refine tm_istore_n (L' := [(3, .int (iI 1)), (7, .int (iI 1)), (6, .int (iI g)), (5, .int (iI (220 * r + k))), (4, .int (iI k)), (2, .int (iI n1)), (0, .ref b), (1, .int (iI r))]) dX12_findLives_167 rfl (by decide) rfl ?_
            refine tm_iinc (q0 := 2) (L' := [(6, .int (iI (g + 1))), (3, .int (iI 1)), (7, .int (iI 1)), (5, .int (iI (220 * r + k))), (4, .int (iI k)), (2, .int (iI n1)), (0, .ref b), (1, .int (iI r))]) dX12_findLives_168 rfl (by decide) rfl ?_
            refine tm_goto (tgt := 68) dX12_findLives_171 (by decide) ?_
            exact tm_sub [0, 3, 4, 1, 5, 6, 7] rfl (ih _ (by omega) (1) (g + 1) (sA 59 ((192 * k) + g) (1) σ) ((Fr.rfl.trans (Fr.sub hF (by decide) (by decide) (by decide))).A (by decide)) (hR.A (by omega)) (by omega) (by first | exact hbl | exact hbl.A (by omega)) (by first | omega | (have hcz := cz_sA (σ := σ) (k := 59) (n := 42432) (z := 192 * k + g) (v := 1) (by omega) (by omega) (by omega) (by decide); omega)) rfl)
        · refine tm_aload_n dX12_findLives_99 rfl 5 rfl ?_
          refine tm_get (k := 3) (v := .ref (b + 1 + 1)) lay_12 dX12_findLives_100 (by decide) fl12_13 rfl ?_
          refine tm_iload dX12_findLives_103 1 rfl ?_
          refine tm_iald (z := 220 * r + k) (v := σ0.2.1 3 (220 * r + k)) dX12_findLives_105 (show mT[1]? = some (3, 0, 2860) from rfl) (by omega) (by omega) (by decide) (ra_F hF (by decide) (rfl)) ?_
          have g29 := RG.a hR0 3 (220 * r + k)
          refine tm_bipush dX12_findLives_106 (by decide) ?_
          refine tm_icmp_eq (tgt := 126) dX12_findLives_108 (by decide) ⟨by omega, by omega⟩ ⟨by decide, by decide⟩ (fun h30 => ?_) (fun h30 => ?_)
          · refine tm_iconst dX12_findLives_126 ?_
            refine tm_istore (L' := [(7, .int (iI 0)), (6, .int (iI g)), (5, .int (iI (220 * r + k))), (4, .int (iI k)), (3, .int (iI w)), (2, .int (iI n1)), (0, .ref b), (1, .int (iI r))]) dX12_findLives_127 (by decide) rfl ?_
            refine tm_iload dX12_findLives_129 0 rfl ?_
            refine tm_if_eq (tgt := 168) dX12_findLives_131 (by decide) ⟨by decide, by decide⟩ (fun _ => ?_) (fun h => absurd h (by decide))
            refine tm_iinc (q0 := 1) (L' := [(6, .int (iI (g + 1))), (7, .int (iI 0)), (5, .int (iI (220 * r + k))), (4, .int (iI k)), (3, .int (iI w)), (2, .int (iI n1)), (0, .ref b), (1, .int (iI r))]) dX12_findLives_168 rfl (by decide) rfl ?_
            refine tm_goto (tgt := 68) dX12_findLives_171 (by decide) ?_
            exact tm_sub [0, 2, 3, 4, 5, 6, 7] rfl (ih _ (by omega) (w) (g + 1) σ (Fr.rfl.trans (Fr.sub hF (by decide) (by decide) (by decide))) hR (by omega) (by first | exact hbl | exact hbl.A (by omega)) (by first | omega | (have hcz := cz_sA (σ := σ) (k := 59) (n := 42432) (z := 192 * k + g) (v := 1) (by omega) (by omega) (by omega) (by decide); omega)) rfl)
          · refine tm_aload_n dX12_findLives_111 rfl 5 rfl ?_
            refine tm_iload dX12_findLives_112 1 rfl ?_
            refine tm_iload dX12_findLives_114 0 rfl ?_
            refine tm_callV (M := m_X12_findLives) (pc := 116) (ix := 439) (M' := m_X12_leansOn) (As := [.int (iI (220 * r + k)), .int (iI g)]) (rest := []) dX12_findLives_116 ok_X12_leansOn im_X12_leansOn se_X12_leansOn ml12_439 np_X12_leansOn rfl rfl (Nat.le_of_ble_eq_true rfl) (Nat.le_of_ble_eq_true rfl) rfl (c_X12_leansOn (d) (σ := σ) (x := 220 * r + k) (g := g) (by omega) hR (hok1.of (by omega) (by omega)) hpar1 (by omega)) (fun r32 σ33 hp => ?_)
            obtain ⟨v34, rfl, rfl, f35, f36⟩ := hp
            show Tm _ _ 119 b σ [(6, .int (iI g)), (5, .int (iI (220 * r + k))), (4, .int (iI k)), (3, .int (iI w)), (2, .int (iI n1)), (0, .ref b), (1, .int (iI r))] [.int (iI v34)] _
            refine tm_if_eq (tgt := 126) dX12_findLives_119 (by decide) ⟨by omega, by omega⟩ (fun h37 => ?_) (fun h37 => ?_)
            · refine tm_iconst dX12_findLives_126 ?_
              refine tm_istore (L' := [(7, .int (iI 0)), (6, .int (iI g)), (5, .int (iI (220 * r + k))), (4, .int (iI k)), (3, .int (iI w)), (2, .int (iI n1)), (0, .ref b), (1, .int (iI r))]) dX12_findLives_127 (by decide) rfl ?_
              refine tm_iload dX12_findLives_129 0 rfl ?_
              refine tm_if_eq (tgt := 168) dX12_findLives_131 (by decide) ⟨by decide, by decide⟩ (fun _ => ?_) (fun h => absurd h (by decide))
              refine tm_iinc (q0 := 1) (L' := [(6, .int (iI (g + 1))), (7, .int (iI 0)), (5, .int (iI (220 * r + k))), (4, .int (iI k)), (3, .int (iI w)), (2, .int (iI n1)), (0, .ref b), (1, .int (iI r))]) dX12_findLives_168 rfl (by decide) rfl ?_
              refine tm_goto (tgt := 68) dX12_findLives_171 (by decide) ?_
              exact tm_sub [0, 2, 3, 4, 5, 6, 7] rfl (ih _ (by omega) (w) (g + 1) σ (Fr.rfl.trans (Fr.sub hF (by decide) (by decide) (by decide))) hR (by omega) (by first | exact hbl | exact hbl.A (by omega)) (by first | omega | (have hcz := cz_sA (σ := σ) (k := 59) (n := 42432) (z := 192 * k + g) (v := 1) (by omega) (by omega) (by omega) (by decide); omega)) rfl)
            · refine tm_iconst dX12_findLives_122 ?_
              refine tm_goto (tgt := 127) dX12_findLives_123 (by decide) ?_
              refine tm_istore (L' := [(7, .int (iI 1)), (6, .int (iI g)), (5, .int (iI (220 * r + k))), (4, .int (iI k)), (3, .int (iI w)), (2, .int (iI n1)), (0, .ref b), (1, .int (iI r))]) dX12_findLives_127 (by decide) rfl ?_
              refine tm_iload dX12_findLives_129 0 rfl ?_
              refine tm_if_eq (tgt := 168) dX12_findLives_131 (by decide) ⟨by decide, by decide⟩ (fun h => absurd h (by decide)) (fun _ => ?_)
              refine tm_aload_n dX12_findLives_134 rfl 6 rfl ?_
              refine tm_get (k := 59) (v := .ref (b + 1 + 37)) lay_12 dX12_findLives_135 (by decide) fl12_130 rfl ?_
              refine tm_sipush dX12_findLives_138 (by decide) ?_
              refine tm_iload dX12_findLives_141 3 rfl ?_
              refine tm_imul dX12_findLives_143 ?_
              refine tm_iload dX12_findLives_144 1 rfl ?_
              refine tm_iadd dX12_findLives_146 ?_
              refine tm_zald (z := (192 * k) + g) (v := σ.2.1 59 ((192 * k) + g)) dX12_findLives_147 (show mT[37]? = some (59, 2, 42432) from rfl) (by omega) (by omega) (by decide) (rfl) ?_
              have g40 := RG.a hR 59 ((192 * k) + g)
              have := hbl ((192 * k) + g)
              refine tm_if_ne (tgt := 168) dX12_findLives_148 (by decide) ⟨by omega, by omega⟩ (fun h41 => ?_) (fun h41 => ?_)
              · refine tm_iinc (q0 := 1) (L' := [(6, .int (iI (g + 1))), (7, .int (iI 1)), (5, .int (iI (220 * r + k))), (4, .int (iI k)), (3, .int (iI w)), (2, .int (iI n1)), (0, .ref b), (1, .int (iI r))]) dX12_findLives_168 rfl (by decide) rfl ?_
                refine tm_goto (tgt := 68) dX12_findLives_171 (by decide) ?_
                exact tm_sub [0, 2, 3, 4, 5, 6, 7] rfl (ih _ (by omega) (w) (g + 1) σ (Fr.rfl.trans (Fr.sub hF (by decide) (by decide) (by decide))) hR (by omega) (by first | exact hbl | exact hbl.A (by omega)) (by first | omega | (have hcz := cz_sA (σ := σ) (k := 59) (n := 42432) (z := 192 * k + g) (v := 1) (by omega) (by omega) (by omega) (by decide); omega)) rfl)
              · refine tm_aload_n dX12_findLives_151 rfl 6 rfl ?_
                refine tm_get (k := 59) (v := .ref (b + 1 + 37)) lay_12 dX12_findLives_152 (by decide) fl12_130 rfl ?_
                refine tm_sipush dX12_findLives_155 (by decide) ?_
                refine tm_iload dX12_findLives_158 3 rfl ?_
                refine tm_imul dX12_findLives_160 ?_
                refine tm_iload dX12_findLives_161 1 rfl ?_
                refine tm_iadd dX12_findLives_163 ?_
                refine tm_iconst dX12_findLives_164 ?_
                refine tm_zast (z := (192 * k) + g) (v := 1) dX12_findLives_165 (show mT[37]? = some (59, 2, 42432) from rfl) (by omega) (by omega) (by decide) (by omega) ?_
                refine tm_iconst dX12_findLives_166 ?_
                refine tm_istore_n (L' := [(3, .int (iI 1)), (7, .int (iI 1)), (6, .int (iI g)), (5, .int (iI (220 * r + k))), (4, .int (iI k)), (2, .int (iI n1)), (0, .ref b), (1, .int (iI r))]) dX12_findLives_167 rfl (by decide) rfl ?_
                refine tm_iinc (q0 := 2) (L' := [(6, .int (iI (g + 1))), (3, .int (iI 1)), (7, .int (iI 1)), (5, .int (iI (220 * r + k))), (4, .int (iI k)), (2, .int (iI n1)), (0, .ref b), (1, .int (iI r))]) dX12_findLives_168 rfl (by decide) rfl ?_
                refine tm_goto (tgt := 68) dX12_findLives_171 (by decide) ?_
                exact tm_sub [0, 3, 4, 1, 5, 6, 7] rfl (ih _ (by omega) (1) (g + 1) (sA 59 ((192 * k) + g) (1) σ) ((Fr.rfl.trans (Fr.sub hF (by decide) (by decide) (by decide))).A (by decide)) (hR.A (by omega)) (by omega) (by first | exact hbl | exact hbl.A (by omega)) (by first | omega | (have hcz := cz_sA (σ := σ) (k := 59) (n := 42432) (z := 192 * k + g) (v := 1) (by omega) (by omega) (by omega) (by decide); omega)) rfl)
theorem dX12_findLives_51 : decode cX12_findLives 51 = .ok (.iload 4, 2) := by decide +kernel
theorem dX12_findLives_53 : decode cX12_findLives 53 = .ok (.ifCond .lt 127, 3) := by decide +kernel
theorem dX12_findLives_56 : decode cX12_findLives 56 = .ok (.aload_n 0, 1) := by decide +kernel
theorem dX12_findLives_57 : decode cX12_findLives 57 = .ok (.iload_n 1, 1) := by decide +kernel
theorem dX12_findLives_58 : decode cX12_findLives 58 = .ok (.iload 4, 2) := by decide +kernel
theorem dX12_findLives_60 : decode cX12_findLives 60 = .ok (.invokevirtual 203, 3) := by decide +kernel
theorem dX12_findLives_63 : decode cX12_findLives 63 = .ok (.istore 5, 2) := by decide +kernel
theorem dX12_findLives_65 : decode cX12_findLives 65 = .ok (.iconst 0, 1) := by decide +kernel
theorem dX12_findLives_66 : decode cX12_findLives 66 = .ok (.istore 6, 2) := by decide +kernel
theorem dX12_findLives_174 : decode cX12_findLives 174 = .ok (.iinc 4 (-1), 3) := by decide +kernel
theorem dX12_findLives_177 : decode cX12_findLives 177 = .ok (.goto (-126), 3) := by decide +kernel
set_option maxRecDepth 20000 in
theorem l_lives3 (d : Nat) {b : Nat} {σ0 : MS} {r : Int} {F : Int} {n1 : Int} {C0 : Int} {post : Option Value → MS → Prop} (hr : 0 ≤ r ∧ r < 6) (hR0 : RG σ0) (hit : ITM σ0) (hpar : PAR σ0) (hok : OKS σ0 F r) (hl : LAB σ0) (hk : n1 = σ0.2.1 9 r) (hx_180 : ∀ (w : Int) (k : Int) (σ : MS) , (Fr [] [59] [] σ0 σ) → (RG σ) → (w = 0 ∨ w = 1) → (BO 59 σ) → ((cz (σ.2.1 59) 42432 : Int) + w ≤ C0) → Tm (d + 5) m_X12_findLives 180 b σ [(4, .int (iI k)), (3, .int (iI w)), (2, .int (iI n1)), (0, .ref b), (1, .int (iI r))] [] post) : ∀ (n : Nat) (w : Int) (k : Int) (σ : MS) , (Fr [] [59] [] σ0 σ) → (RG σ) → ((w = 0 ∨ w = 1) ∧ -1 ≤ k ∧ k < n1) → (BO 59 σ) → ((cz (σ.2.1 59) 42432 : Int) + w ≤ C0) → (k + 1).toNat = n → Tm (d + 5) m_X12_findLives 51 b σ [(4, .int (iI k)), (3, .int (iI w)), (2, .int (iI n1)), (0, .ref b), (1, .int (iI r))] [] post := by
  intro n
  induction n using Nat.strongRecOn with
  | _ n ih =>
    intro w k σ hF hR h0 hbl hcn hm
    have hit1 := hit.fr hF (by decide)
    have hpar1 := hpar.fr hF (by decide)
    have hok1 := hok.fr hF (by decide)
    have hl1 := hl.fr hF (by decide)
    have q1 := hit r (by omega) (by omega)
    have q9 : σ.2.1 9 r = σ0.2.1 9 r := by rw [hF.2.1 9 (by decide)]
    refine tm_iload dX12_findLives_51 0 rfl ?_
    refine tm_if_lt (tgt := 180) dX12_findLives_53 (by decide) ⟨by omega, by omega⟩ (fun h1 => ?_) (fun h1 => ?_)
    · exact tm_sub [0, 1, 2, 3, 4] rfl (hx_180 (w) (k) σ (Fr.rfl.trans (Fr.sub hF (by decide) (by decide) (by decide))) hR (by omega) hbl hcn)
    · refine tm_aload_n dX12_findLives_56 rfl 3 rfl ?_
      refine tm_iload_n dX12_findLives_57 rfl 4 rfl ?_
      refine tm_iload dX12_findLives_58 0 rfl ?_
      refine tm_callV (M := m_X12_findLives) (pc := 60) (ix := 203) (M' := m_X12_at) (As := [.int (iI r), .int (iI k)]) (rest := []) dX12_findLives_60 ok_X12_at im_X12_at se_X12_at ml12_203 np_X12_at rfl rfl (Nat.le_of_ble_eq_true rfl) (Nat.le_of_ble_eq_true rfl) rfl (c_X12_at (d + 3) (σ := σ) (x := r) (k := k) ) (fun r2 σ3 hp => ?_)
      obtain ⟨v4, rfl, rfl, f5⟩ := hp
      subst f5
      show Tm _ _ 63 b σ [(4, .int (iI k)), (3, .int (iI w)), (2, .int (iI n1)), (0, .ref b), (1, .int (iI r))] [.int (iI (220 * r + k))] _
      refine tm_istore (L' := [(5, .int (iI (220 * r + k))), (4, .int (iI k)), (3, .int (iI w)), (2, .int (iI n1)), (0, .ref b), (1, .int (iI r))]) dX12_findLives_63 (by decide) rfl ?_
      refine tm_iconst dX12_findLives_65 ?_
      refine tm_istore (L' := [(6, .int (iI 0)), (5, .int (iI (220 * r + k))), (4, .int (iI k)), (3, .int (iI w)), (2, .int (iI n1)), (0, .ref b), (1, .int (iI r))]) dX12_findLives_66 (by decide) rfl ?_
      refine tm_sub [0, 1, 2, 3, 4, 5, 6] rfl (l_lives4 (d) (σ0 := σ) (r := r) (k := k) (n1 := n1) (F := F) (C0 := C0) hr hR hit1 hpar1 hok1 hl1 (by omega) (fun w14 g15 σ16 F9 R10 f11 f12 f13 => ?_) _ (w) (0) σ Fr.rfl hR (by omega) hbl (by omega) rfl)
      show Tm _ _ 174 b σ16 [(6, .int (iI g15)), (5, .int (iI (220 * r + k))), (4, .int (iI k)), (3, .int (iI w14)), (2, .int (iI n1)), (0, .ref b), (1, .int (iI r))] [] _
      refine tm_iinc (q0 := 2) (L' := [(4, .int (iI (k + (-1)))), (6, .int (iI g15)), (5, .int (iI (220 * r + k))), (3, .int (iI w14)), (2, .int (iI n1)), (0, .ref b), (1, .int (iI r))]) dX12_findLives_174 rfl (by decide) rfl ?_
      refine tm_goto (tgt := 51) dX12_findLives_177 (by decide) ?_
      exact tm_sub [0, 3, 4, 5, 6] rfl (ih _ (by omega) (w14) (k + (-1)) σ16 ((Fr.rfl.trans (Fr.sub hF (by decide) (by decide) (by decide))).trans (Fr.sub F9 (by decide) (by decide) (by decide))) R10 (by omega) (by assumption) (by omega) rfl)
theorem dX12_findLives_40 : decode cX12_findLives 40 = .ok (.iload_n 3, 1) := by decide +kernel
theorem dX12_findLives_41 : decode cX12_findLives 41 = .ok (.ifCond .eq 142, 3) := by decide +kernel
theorem dX12_findLives_44 : decode cX12_findLives 44 = .ok (.iconst 0, 1) := by decide +kernel
theorem dX12_findLives_45 : decode cX12_findLives 45 = .ok (.istore_n 3, 1) := by decide +kernel
theorem dX12_findLives_46 : decode cX12_findLives 46 = .ok (.iload_n 2, 1) := by decide +kernel
theorem dX12_findLives_47 : decode cX12_findLives 47 = .ok (.iconst 1, 1) := by decide +kernel
theorem dX12_findLives_48 : decode cX12_findLives 48 = .ok (.isub, 1) := by decide +kernel
theorem dX12_findLives_49 : decode cX12_findLives 49 = .ok (.istore 4, 2) := by decide +kernel
theorem dX12_findLives_180 : decode cX12_findLives 180 = .ok (.goto (-140), 3) := by decide +kernel
set_option maxRecDepth 20000 in
theorem l_lives2 (d : Nat) {b : Nat} {σ0 : MS} {r : Int} {F : Int} {n1 : Int} {post : Option Value → MS → Prop} (hr : 0 ≤ r ∧ r < 6) (hR0 : RG σ0) (hit : ITM σ0) (hpar : PAR σ0) (hok : OKS σ0 F r) (hl : LAB σ0) (hk : n1 = σ0.2.1 9 r) (hx_183 : ∀ (w : Int) (σ : MS) , (Fr [] [59] [] σ0 σ) → (RG σ) → (BO 59 σ) → Tm (d + 5) m_X12_findLives 183 b σ [(3, .int (iI w)), (2, .int (iI n1)), (0, .ref b), (1, .int (iI r))] [] post) : ∀ (n : Nat) (w : Int) (σ : MS) , (Fr [] [59] [] σ0 σ) → (RG σ) → (w = 0 ∨ w = 1) → (BO 59 σ) → ((cz (σ.2.1 59) 42432 : Int) + w).toNat = n → Tm (d + 5) m_X12_findLives 40 b σ [(3, .int (iI w)), (2, .int (iI n1)), (0, .ref b), (1, .int (iI r))] [] post := by
  intro n
  induction n using Nat.strongRecOn with
  | _ n ih =>
    intro w σ hF hR h0 hbl hm
    have hit1 := hit.fr hF (by decide)
    have hpar1 := hpar.fr hF (by decide)
    have hok1 := hok.fr hF (by decide)
    have hl1 := hl.fr hF (by decide)
    have q1 := hit r (by omega) (by omega)
    have q9 : σ.2.1 9 r = σ0.2.1 9 r := by rw [hF.2.1 9 (by decide)]
    refine tm_iload_n dX12_findLives_40 rfl 0 rfl ?_
    refine tm_if_eq (tgt := 183) dX12_findLives_41 (by decide) ⟨by omega, by omega⟩ (fun h1 => ?_) (fun h1 => ?_)
    · exact tm_sub [0, 1, 2, 3] rfl (hx_183 (w) σ (Fr.rfl.trans (Fr.sub hF (by decide) (by decide) (by decide))) hR hbl)
    · refine tm_iconst dX12_findLives_44 ?_
      refine tm_istore_n (L' := [(3, .int (iI 0)), (2, .int (iI n1)), (0, .ref b), (1, .int (iI r))]) dX12_findLives_45 rfl (by decide) rfl ?_
      refine tm_iload_n dX12_findLives_46 rfl 1 rfl ?_
      refine tm_iconst dX12_findLives_47 ?_
      refine tm_isub dX12_findLives_48 ?_
      refine tm_istore (L' := [(4, .int (iI (n1 - 1))), (3, .int (iI 0)), (2, .int (iI n1)), (0, .ref b), (1, .int (iI r))]) dX12_findLives_49 (by decide) rfl ?_
      refine tm_sub [0, 1, 2, 3, 4] rfl (l_lives3 (d) (σ0 := σ) (r := r) (n1 := n1) (F := F) (C0 := (cz (σ.2.1 59) 42432 : Int)) hr hR hit1 hpar1 hok1 hl1 (by omega) (fun w10 k11 σ12 F5 R6 f7 f8 f9 => ?_) _ (0) (n1 - 1) σ Fr.rfl hR (by omega) hbl (by omega) rfl)
      show Tm _ _ 180 b σ12 [(4, .int (iI k11)), (3, .int (iI w10)), (2, .int (iI n1)), (0, .ref b), (1, .int (iI r))] [] _
      refine tm_goto (tgt := 40) dX12_findLives_180 (by decide) ?_
      exact tm_sub [1, 2, 3, 4] rfl (ih _ (by omega) (w10) σ12 ((Fr.rfl.trans (Fr.sub hF (by decide) (by decide) (by decide))).trans (Fr.sub F5 (by decide) (by decide) (by decide))) R6 (by omega) (by assumption) rfl)
theorem dX12_findLives_14 : decode cX12_findLives 14 = .ok (.iload_n 3, 1) := by decide +kernel
theorem dX12_findLives_15 : decode cX12_findLives 15 = .ok (.sipush 192, 3) := by decide +kernel
theorem dX12_findLives_18 : decode cX12_findLives 18 = .ok (.iload_n 2, 1) := by decide +kernel
theorem dX12_findLives_19 : decode cX12_findLives 19 = .ok (.iconst 1, 1) := by decide +kernel
theorem dX12_findLives_20 : decode cX12_findLives 20 = .ok (.iadd, 1) := by decide +kernel
theorem dX12_findLives_21 : decode cX12_findLives 21 = .ok (.imul, 1) := by decide +kernel
theorem dX12_findLives_22 : decode cX12_findLives 22 = .ok (.if_icmp .ge 16, 3) := by decide +kernel
theorem dX12_findLives_25 : decode cX12_findLives 25 = .ok (.aload_n 0, 1) := by decide +kernel
theorem dX12_findLives_26 : decode cX12_findLives 26 = .ok (.getfield 130, 3) := by decide +kernel
theorem dX12_findLives_29 : decode cX12_findLives 29 = .ok (.iload_n 3, 1) := by decide +kernel
theorem dX12_findLives_30 : decode cX12_findLives 30 = .ok (.iconst 0, 1) := by decide +kernel
theorem dX12_findLives_31 : decode cX12_findLives 31 = .ok (.bastore, 1) := by decide +kernel
theorem dX12_findLives_32 : decode cX12_findLives 32 = .ok (.iinc 3 1, 3) := by decide +kernel
theorem dX12_findLives_35 : decode cX12_findLives 35 = .ok (.goto (-21), 3) := by decide +kernel
set_option maxRecDepth 20000 in
theorem l_lives1 (d : Nat) {b : Nat} {σ0 : MS} {r : Int} {n1 : Int} {post : Option Value → MS → Prop} (hk : 0 ≤ n1 ∧ n1 ≤ 220) (hx_38 : ∀ (k : Int) (σ : MS) , (Fr [] [59] [] σ0 σ) → (RG σ) → (BO 59 σ) → Tm (d + 1) m_X12_findLives 38 b σ [(3, .int (iI k)), (2, .int (iI n1)), (0, .ref b), (1, .int (iI r))] [] post) : ∀ (n : Nat) (k : Int) (σ : MS) , (Fr [] [59] [] σ0 σ) → (RG σ) → (0 ≤ k ∧ k ≤ 192 * (n1 + 1)) → (BO 59 σ) → (192 * (n1 + 1) - k).toNat = n → Tm (d + 1) m_X12_findLives 14 b σ [(3, .int (iI k)), (2, .int (iI n1)), (0, .ref b), (1, .int (iI r))] [] post := by
  intro n
  induction n using Nat.strongRecOn with
  | _ n ih =>
    intro k σ hF hR h0 hbl hm
    refine tm_iload_n dX12_findLives_14 rfl 0 rfl ?_
    refine tm_sipush dX12_findLives_15 (by decide) ?_
    refine tm_iload_n dX12_findLives_18 rfl 1 rfl ?_
    refine tm_iconst dX12_findLives_19 ?_
    refine tm_iadd dX12_findLives_20 ?_
    refine tm_imul dX12_findLives_21 ?_
    refine tm_icmp_ge (tgt := 38) dX12_findLives_22 (by decide) ⟨by omega, by omega⟩ ⟨by omega, by omega⟩ (fun h1 => ?_) (fun h1 => ?_)
    · exact tm_sub [0, 1, 2, 3] rfl (hx_38 (k) σ (Fr.rfl.trans (Fr.sub hF (by decide) (by decide) (by decide))) hR hbl)
    · refine tm_aload_n dX12_findLives_25 rfl 2 rfl ?_
      refine tm_get (k := 59) (v := .ref (b + 1 + 37)) lay_12 dX12_findLives_26 (by decide) fl12_130 rfl ?_
      refine tm_iload_n dX12_findLives_29 rfl 0 rfl ?_
      refine tm_iconst dX12_findLives_30 ?_
      refine tm_zast (z := k) (v := 0) dX12_findLives_31 (show mT[37]? = some (59, 2, 42432) from rfl) (by omega) (by omega) (by decide) (by omega) ?_
      refine tm_iinc (q0 := 0) (L' := [(3, .int (iI (k + 1))), (2, .int (iI n1)), (0, .ref b), (1, .int (iI r))]) dX12_findLives_32 rfl (by decide) rfl ?_
      refine tm_goto (tgt := 14) dX12_findLives_35 (by decide) ?_
      exact tm_sub [0, 1, 2, 3] rfl (ih _ (by omega) (k + 1) (sA 59 (k) (0) σ) ((Fr.rfl.trans (Fr.sub hF (by decide) (by decide) (by decide))).A (by decide)) (hR.A (by omega)) (by omega) (hbl.A (by omega)) rfl)
theorem ml12_420 : Cond.methodLink RX12 420 yX12_findLabels ∈ pWW := pw9 (List.mem_of_getElem? (i := 78) rfl) rfl
theorem dX12_findLives_0 : decode cX12_findLives 0 = .ok (.aload_n 0, 1) := by decide +kernel
theorem dX12_findLives_1 : decode cX12_findLives 1 = .ok (.iload_n 1, 1) := by decide +kernel
theorem dX12_findLives_2 : decode cX12_findLives 2 = .ok (.invokevirtual 420, 3) := by decide +kernel
theorem dX12_findLives_5 : decode cX12_findLives 5 = .ok (.aload_n 0, 1) := by decide +kernel
theorem dX12_findLives_6 : decode cX12_findLives 6 = .ok (.getfield 32, 3) := by decide +kernel
theorem dX12_findLives_9 : decode cX12_findLives 9 = .ok (.iload_n 1, 1) := by decide +kernel
theorem dX12_findLives_10 : decode cX12_findLives 10 = .ok (.iaload, 1) := by decide +kernel
theorem dX12_findLives_11 : decode cX12_findLives 11 = .ok (.istore_n 2, 1) := by decide +kernel
theorem dX12_findLives_12 : decode cX12_findLives 12 = .ok (.iconst 0, 1) := by decide +kernel
theorem dX12_findLives_13 : decode cX12_findLives 13 = .ok (.istore_n 3, 1) := by decide +kernel
theorem dX12_findLives_38 : decode cX12_findLives 38 = .ok (.iconst 1, 1) := by decide +kernel
theorem dX12_findLives_39 : decode cX12_findLives 39 = .ok (.istore_n 3, 1) := by decide +kernel
theorem dX12_findLives_183 : decode cX12_findLives 183 = .ok (.return_, 1) := by decide +kernel
set_option maxRecDepth 20000 in
theorem c_X12_findLives (d : Nat) {b : Nat} {σ : MS} {r : Int} {F : Int} (hr : 0 ≤ r ∧ r < 6) (hR : RG σ) (hit : ITM σ) (hpar : PAR σ) (hok : OKS σ F r) (hl : LAB σ) (hbl : BO 59 σ) : Tm (d + 5) m_X12_findLives 0 b σ [(0, .ref b), (1, .int (iI r))] [] (fun ro σ2 => ro = none ∧ (Fr [] [46, 59] [] σ σ2) ∧ (RG σ2) ∧ (LAB σ2) ∧ (BO 59 σ2)) := by
  have q1 := hit r (by omega) (by omega)
  refine tm_aload_n dX12_findLives_0 rfl 0 rfl ?_
  refine tm_iload_n dX12_findLives_1 rfl 1 rfl ?_
  refine tm_callV (M := m_X12_findLives) (pc := 2) (ix := 420) (M' := m_X12_findLabels) (As := [.int (iI r)]) (rest := []) dX12_findLives_2 ok_X12_findLabels im_X12_findLabels se_X12_findLabels ml12_420 np_X12_findLabels rfl rfl (Nat.le_of_ble_eq_true rfl) (Nat.le_of_ble_eq_true rfl) rfl (c_X12_findLabels (d + 2) (σ := σ) (r := r) (by omega) hR hit hok.jmp.lbr hl) (fun r1 σ2 hp => ?_)
  obtain ⟨rfl, f4, f5, f6, f7⟩ := hp
  show Tm _ _ 5 b σ2 [(0, .ref b), (1, .int (iI r))] [] _
  refine tm_aload_n dX12_findLives_5 rfl 0 rfl ?_
  refine tm_get (k := 9) (v := .ref (b + 1 + 7)) lay_12 dX12_findLives_6 (by decide) fl12_32 rfl ?_
  refine tm_iload_n dX12_findLives_9 rfl 1 rfl ?_
  refine tm_iald (z := r) (v := σ.2.1 9 r) dX12_findLives_10 (show mT[7]? = some (9, 0, 13) from rfl) (by omega) (by omega) (by decide) (ra_F f4 (by decide) (rfl)) ?_
  have g8 := RG.a hR 9 (r)
  refine tm_istore_n (L' := [(2, .int (iI (σ.2.1 9 r))), (0, .ref b), (1, .int (iI r))]) dX12_findLives_11 rfl (by decide) rfl ?_
  refine tm_iconst dX12_findLives_12 ?_
  refine tm_istore_n (L' := [(3, .int (iI 0)), (2, .int (iI (σ.2.1 9 r))), (0, .ref b), (1, .int (iI r))]) dX12_findLives_13 rfl (by decide) rfl ?_
  refine tm_sub [0, 1, 2, 3] rfl (l_lives1 (d + 4) (σ0 := σ2) (r := r) (n1 := σ.2.1 9 r) (by omega) (fun k14 σ15 F11 R12 f13 => ?_) _ (0) σ2 Fr.rfl f5 (by omega) (hbl.fr (by assumption) (by decide)) rfl)
  show Tm _ _ 38 b σ15 [(3, .int (iI k14)), (2, .int (iI (σ.2.1 9 r))), (0, .ref b), (1, .int (iI r))] [] _
  refine tm_iconst dX12_findLives_38 ?_
  refine tm_istore_n (L' := [(3, .int (iI 1)), (2, .int (iI (σ.2.1 9 r))), (0, .ref b), (1, .int (iI r))]) dX12_findLives_39 rfl (by decide) rfl ?_
  refine tm_sub [0, 1, 2, 3] rfl (l_lives2 (d) (σ0 := σ15) (r := r) (n1 := σ.2.1 9 r) (F := F) hr R12 (hit.fr (show Fr [] [46, 59] [] σ σ15 from ((Fr.rfl.trans (Fr.sub f4 (by decide) (by decide) (by decide))).trans (Fr.sub F11 (by decide) (by decide) (by decide)))) (by decide)) (hpar.fr (show Fr [] [46, 59] [] σ σ15 from ((Fr.rfl.trans (Fr.sub f4 (by decide) (by decide) (by decide))).trans (Fr.sub F11 (by decide) (by decide) (by decide)))) (by decide)) (hok.fr (show Fr [] [46, 59] [] σ σ15 from ((Fr.rfl.trans (Fr.sub f4 (by decide) (by decide) (by decide))).trans (Fr.sub F11 (by decide) (by decide) (by decide)))) (by decide)) (LAB.fr (by assumption) F11 (by decide)) (by rw [((show Fr [] [46, 59] [] σ σ15 from ((Fr.rfl.trans (Fr.sub f4 (by decide) (by decide) (by decide))).trans (Fr.sub F11 (by decide) (by decide) (by decide))))).2.1 9 (by decide)]) (fun w21 σ22 F18 R19 f20 => ?_) _ (1) σ15 Fr.rfl R12 (by omega) (by assumption) rfl)
  show Tm _ _ 183 b σ22 [(3, .int (iI w21)), (2, .int (iI (σ.2.1 9 r))), (0, .ref b), (1, .int (iI r))] [] _
  exact tm_vret rfl dX12_findLives_183 (⟨rfl, (((Fr.rfl.trans (Fr.sub f4 (by decide) (by decide) (by decide))).trans (Fr.sub F11 (by decide) (by decide) (by decide))).trans (Fr.sub F18 (by decide) (by decide) (by decide))), R19, LAB.fr (LAB.fr (by assumption) F11 (by decide)) F18 (by decide), f20⟩)
