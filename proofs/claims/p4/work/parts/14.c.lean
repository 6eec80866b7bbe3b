theorem GDA.step {ss ks js : List Nat} {σ τ : MS} {r : Int} (h : GDA σ) (hr : 0 ≤ r ∧ r < σ.1 10) (hn : NAM σ) (f : Fr ss ks js σ τ) (hs : 10 ∉ ss) (hk : ∀ k ∈ [11, 12, 14, 15, 16], k ∉ ks) (xr : XR r σ τ) (xn : XN r σ τ) (h9 : ∀ j, j ≠ r → τ.2.1 9 j = σ.2.1 9 j) (b9 : 1 ≤ τ.2.1 9 r ∧ τ.2.1 9 r ≤ σ.2.1 9 r) (of_ : OKF τ r) (ok : OKS τ (σ.2.1 14 r) r) (cd : CODE τ r) (lx : LEX τ r) (lm : LBM τ r) : GDA τ := by
  have g := h.2 r hr.1 hr.2
  have e14 : τ.2.1 14 = σ.2.1 14 := f.q hk (k := 14) (by decide)
  have e15 : τ.2.1 15 = σ.2.1 15 := f.q hk (k := 15) (by decide)
  have e16 : τ.2.1 16 = σ.2.1 16 := f.q hk (k := 16) (by decide)
  have e11 : τ.2.1 11 = σ.2.1 11 := f.q hk (k := 11) (by decide)
  have e12 : τ.2.1 12 = σ.2.1 12 := f.q hk (k := 12) (by decide)
  have g1 := g.1
  refine h.of hr hn xr h9 (fun j _ => by rw [e14]) e11 e12 (f.1 10 hs) (fun y _ => by rw [e15, e16]; exact ⟨rfl, rfl⟩) xn ⟨⟨b9.1, by omega⟩, of_, by rw [e14]; exact ok, ?_, lx, cd, ?_, lm, by rw [e11, e12]; exact g.2.2.2.2.2.2.2.2⟩
  · unfold FR0; rw [e15]; exact g.2.2.2.1
  · unfold FRI; rw [e14, e16]; exact g.2.2.2.2.2.2.1
theorem XN.fr {ss ks js : List Nat} {r : Int} {σ τ : MS} (f : Fr ss ks js σ τ) (hk : 18 ∉ ks) : XN r σ τ := fun z _ => by rw [f.2.1 18 hk]
theorem ITM.of {σ τ : MS} {r : Int} (h : ITM σ) (h9 : ∀ j, j ≠ r → τ.2.1 9 j = σ.2.1 9 j) (g : GDA τ) (hr : 0 ≤ r ∧ r < τ.1 10) : ITM τ := fun j a b => by
  by_cases e : j = r
  · have := (g.2 r hr.1 hr.2).1; rw [e]; omega
  · rw [h9 j e]; exact h j a b
/-- the plain codes stay -/
def XP (σ τ : MS) : Prop := (∀ y, 1320 ≤ y → y < 2640 → IEQ σ y τ y) ∧ ∀ j, 6 ≤ j → τ.2.1 9 j = σ.2.1 9 j
theorem XP.of {σ τ : MS} {r : Int} (h : XR r σ τ) (hr : 0 ≤ r ∧ r < 6) (h9 : ∀ j, j ≠ r → τ.2.1 9 j = σ.2.1 9 j) : XP σ τ := ⟨fun y a b => h.ieq (by omega) b, fun j a => h9 j (by omega)⟩
theorem XP.s {ss ks js : List Nat} {σ τ υ : MS} (h : XP τ υ) (f : Fr ss ks js σ τ) (hk : ∀ k ∈ [3, 4, 5, 6, 7, 8, 9], k ∉ ks) : XP σ υ := by
  have sub : ∀ k ∈ [3, 4, 5, 6, 7, 8], k ∉ ks := fun k q => hk k ((by decide : ∀ k ∈ [3, 4, 5, 6, 7, 8], k ∈ [3, 4, 5, 6, 7, 8, 9]) k q)
  exact ⟨fun y a b => (IEQ.fr f sub).trans (h.1 y a b), fun j a => by rw [h.2 j a, f.2.1 9 (hk 9 (by decide))]⟩

theorem ml12_457 : Cond.methodLink RX12 457 yX12_share ∈ pWW := pw9 (List.mem_of_getElem? (i := 209) rfl) rfl
theorem ml12_442 : Cond.methodLink RX12 442 yX12_fold ∈ pWW := pw9 (List.mem_of_getElem? (i := 102) rfl) rfl
theorem ml12_445 : Cond.methodLink RX12 445 yX12_dropAll ∈ pWW := pw9 (List.mem_of_getElem? (i := 121) rfl) rfl
theorem ml12_448 : Cond.methodLink RX12 448 yX12_moveAll ∈ pWW := pw9 (List.mem_of_getElem? (i := 153) rfl) rfl
theorem ml12_451 : Cond.methodLink RX12 451 yX12_alike ∈ pWW := pw9 (List.mem_of_getElem? (i := 169) rfl) rfl
theorem ml12_454 : Cond.methodLink RX12 454 yX12_melt ∈ pWW := pw9 (List.mem_of_getElem? (i := 181) rfl) rfl
theorem dX12_pass_0 : decode cX12_pass 0 = .ok (.aload_n 0, 1) := by decide +kernel
theorem dX12_pass_1 : decode cX12_pass 1 = .ok (.iconst 0, 1) := by decide +kernel
theorem dX12_pass_2 : decode cX12_pass 2 = .ok (.putfield 185, 3) := by decide +kernel
theorem dX12_pass_5 : decode cX12_pass 5 = .ok (.iload_n 1, 1) := by decide +kernel
theorem dX12_pass_6 : decode cX12_pass 6 = .ok (.iconst 0, 1) := by decide +kernel
theorem dX12_pass_7 : decode cX12_pass 7 = .ok (.iconst 5, 1) := by decide +kernel
theorem dX12_pass_8 : decode cX12_pass 8 = .ok (.invokestatic 188, 3) := by decide +kernel
theorem dX12_pass_11 : decode cX12_pass 11 = .ok (.ifCond .eq 11, 3) := by decide +kernel
theorem dX12_pass_22 : decode cX12_pass 22 = .ok (.iconst (-1), 1) := by decide +kernel
theorem dX12_pass_23 : decode cX12_pass 23 = .ok (.ireturn, 1) := by decide +kernel
theorem dX12_pass_14 : decode cX12_pass 14 = .ok (.aload_n 0, 1) := by decide +kernel
theorem dX12_pass_15 : decode cX12_pass 15 = .ok (.iload_n 2, 1) := by decide +kernel
theorem dX12_pass_16 : decode cX12_pass 16 = .ok (.invokevirtual 404, 3) := by decide +kernel
theorem dX12_pass_19 : decode cX12_pass 19 = .ok (.ifCond .ne 5, 3) := by decide +kernel
theorem dX12_pass_24 : decode cX12_pass 24 = .ok (.aload_n 0, 1) := by decide +kernel
theorem dX12_pass_25 : decode cX12_pass 25 = .ok (.getfield 95, 3) := by decide +kernel
theorem dX12_pass_28 : decode cX12_pass 28 = .ok (.iload_n 2, 1) := by decide +kernel
theorem dX12_pass_29 : decode cX12_pass 29 = .ok (.iconst 0, 1) := by decide +kernel
theorem dX12_pass_30 : decode cX12_pass 30 = .ok (.bastore, 1) := by decide +kernel
theorem dX12_pass_31 : decode cX12_pass 31 = .ok (.aload_n 0, 1) := by decide +kernel
theorem dX12_pass_32 : decode cX12_pass 32 = .ok (.iconst 0, 1) := by decide +kernel
theorem dX12_pass_33 : decode cX12_pass 33 = .ok (.putfield 397, 3) := by decide +kernel
theorem dX12_pass_36 : decode cX12_pass 36 = .ok (.iload_n 1, 1) := by decide +kernel
theorem dX12_pass_37 : decode cX12_pass 37 = .ok (.tableswitch 65 0 4 #[35, 41, 47, 53, 59], 35) := by decide +kernel
theorem dX12_pass_102 : decode cX12_pass 102 = .ok (.aload_n 0, 1) := by decide +kernel
theorem dX12_pass_103 : decode cX12_pass 103 = .ok (.iload_n 2, 1) := by decide +kernel
theorem dX12_pass_104 : decode cX12_pass 104 = .ok (.invokevirtual 457, 3) := by decide +kernel
theorem dX12_pass_107 : decode cX12_pass 107 = .ok (.ireturn, 1) := by decide +kernel
theorem dX12_pass_72 : decode cX12_pass 72 = .ok (.aload_n 0, 1) := by decide +kernel
theorem dX12_pass_73 : decode cX12_pass 73 = .ok (.iload_n 2, 1) := by decide +kernel
theorem dX12_pass_74 : decode cX12_pass 74 = .ok (.invokevirtual 442, 3) := by decide +kernel
theorem dX12_pass_77 : decode cX12_pass 77 = .ok (.ireturn, 1) := by decide +kernel
theorem dX12_pass_78 : decode cX12_pass 78 = .ok (.aload_n 0, 1) := by decide +kernel
theorem dX12_pass_79 : decode cX12_pass 79 = .ok (.iload_n 2, 1) := by decide +kernel
theorem dX12_pass_80 : decode cX12_pass 80 = .ok (.invokevirtual 445, 3) := by decide +kernel
theorem dX12_pass_83 : decode cX12_pass 83 = .ok (.ireturn, 1) := by decide +kernel
theorem dX12_pass_84 : decode cX12_pass 84 = .ok (.aload_n 0, 1) := by decide +kernel
theorem dX12_pass_85 : decode cX12_pass 85 = .ok (.iload_n 2, 1) := by decide +kernel
theorem dX12_pass_86 : decode cX12_pass 86 = .ok (.invokevirtual 448, 3) := by decide +kernel
theorem dX12_pass_89 : decode cX12_pass 89 = .ok (.ireturn, 1) := by decide +kernel
theorem dX12_pass_90 : decode cX12_pass 90 = .ok (.aload_n 0, 1) := by decide +kernel
theorem dX12_pass_91 : decode cX12_pass 91 = .ok (.iload_n 2, 1) := by decide +kernel
theorem dX12_pass_92 : decode cX12_pass 92 = .ok (.invokevirtual 451, 3) := by decide +kernel
theorem dX12_pass_95 : decode cX12_pass 95 = .ok (.ireturn, 1) := by decide +kernel
theorem dX12_pass_96 : decode cX12_pass 96 = .ok (.aload_n 0, 1) := by decide +kernel
theorem dX12_pass_97 : decode cX12_pass 97 = .ok (.iload_n 2, 1) := by decide +kernel
theorem dX12_pass_98 : decode cX12_pass 98 = .ok (.invokevirtual 454, 3) := by decide +kernel
theorem dX12_pass_101 : decode cX12_pass 101 = .ok (.ireturn, 1) := by decide +kernel
set_option maxHeartbeats 2000000 in
set_option maxRecDepth 20000 in
theorem c_X12_pass (d : Nat) {b : Nat} {σ : MS} {w : Int} {r : Int} (hR : RG σ) (hit : ITM σ) (hpar : PAR σ) (hnam : NAM σ) (hgd : GDA σ) (hl : LAB σ) (hbo : BO 47 σ) (hbh : BO 48 σ) (hbl : BO 59 σ) (hbd : BO 63 σ) (hnl : NUL σ) (hkn : KNW σ) (h_w : -2147483648 ≤ w ∧ w ≤ 2147483647) (h_r : -2147483648 ≤ r ∧ r ≤ 2147483647) : Tm (d + 8) m_X12_pass 0 b σ [(0, .ref b), (1, .int (iI w)), (2, .int (iI r))] [] (fun ro σ2 => ∃ v : Int, ro = some (.int (iI v)) ∧ (Fr [0, 62, 67] [3, 4, 5, 6, 7, 8, 9, 14, 15, 16, 17, 18, 46, 47, 48, 59, 60, 61, 63, 64, 65, 66] [] σ σ2) ∧ (RG σ2) ∧ (GDA σ2) ∧ (ITM σ2) ∧ (LAB σ2) ∧ (BO 47 σ2) ∧ (BO 48 σ2) ∧ (BO 59 σ2) ∧ (BO 63 σ2) ∧ (NUL σ2) ∧ (KNW σ2) ∧ (XP σ σ2) ∧ ((v = -1 ∧ σ2 = sS 0 0 σ) ∨ σ2.1 67 = 0)) := by
  have hr6 := hgd.1
  have e10 : (sS 0 0 σ).1 10 = σ.1 10 := rfl
  refine tm_aload_n dX12_pass_0 rfl 0 rfl ?_
  refine tm_iconst dX12_pass_1 ?_
  refine tm_putS (k := 0) (v := 0) lay_12 dX12_pass_2 (by decide) fl12_185 rfl (tyX12_ok 0 (by decide)) rfl rfl rfl ?_
  refine tm_iload_n dX12_pass_5 rfl 1 rfl ?_
  refine tm_iconst dX12_pass_6 ?_
  refine tm_iconst dX12_pass_7 ?_
  refine tm_callS (M := m_X12_pass) (pc := 8) (ix := 188) (M' := m_X12_in) (As := [.int (iI w), .int (iI 0), .int (iI 5)]) (rest := []) dX12_pass_8 ok_X12_in stt_X12_in ml12_188 np_X12_in rfl (Nat.le_of_ble_eq_true rfl) (Nat.le_of_ble_eq_true rfl) rfl (c_X12_in (d + 6) (σ := (sS 0 0 σ)) (x := w) (lo := 0) (hi := 5) (by omega) (by omega) (by omega)) (fun r1 σ2 hp => ?_)
  obtain ⟨v3, rfl, rfl, f4, f5⟩ := hp
  show Tm _ _ 11 b (sS 0 0 σ) [(0, .ref b), (1, .int (iI w)), (2, .int (iI r))] [.int (iI v3)] _
  refine tm_if_eq (tgt := 22) dX12_pass_11 (by decide) ⟨by omega, by omega⟩ (fun h6 => ?_) (fun h6 => ?_)
  · refine tm_iconst dX12_pass_22 ?_
    exact tm_iret rfl dX12_pass_23 (⟨_, rfl, (Fr.rfl.S (by decide)), (hR.S (by omega)), hgd.fr (show Fr [0] [] [] σ (sS 0 0 σ) from (Fr.rfl.S (by decide))) (by decide) (by decide), hit.fr (show Fr [0] [] [] σ (sS 0 0 σ) from (Fr.rfl.S (by decide))) (by decide), hl.fr (show Fr [0] [] [] σ (sS 0 0 σ) from (Fr.rfl.S (by decide))) (by decide), hbo.fr (show Fr [0] [] [] σ (sS 0 0 σ) from (Fr.rfl.S (by decide))) (by decide), hbh.fr (show Fr [0] [] [] σ (sS 0 0 σ) from (Fr.rfl.S (by decide))) (by decide), hbl.fr (show Fr [0] [] [] σ (sS 0 0 σ) from (Fr.rfl.S (by decide))) (by decide), hbd.fr (show Fr [0] [] [] σ (sS 0 0 σ) from (Fr.rfl.S (by decide))) (by decide), hnl.fr (show Fr [0] [] [] σ (sS 0 0 σ) from (Fr.rfl.S (by decide))) (by decide), hkn.fr (show Fr [0] [] [] σ (sS 0 0 σ) from (Fr.rfl.S (by decide))) (by decide), XP.s (τ := (sS 0 0 σ)) ⟨fun _ _ _ => IEQ.rfl, fun _ _ => rfl⟩ (show Fr [0] [] [] σ (sS 0 0 σ) from (Fr.rfl.S (by decide))) (by decide), Or.inl ⟨rfl, rfl⟩⟩)
  · refine tm_aload_n dX12_pass_14 rfl 0 rfl ?_
    refine tm_iload_n dX12_pass_15 rfl 2 rfl ?_
    refine tm_callV (M := m_X12_pass) (pc := 16) (ix := 404) (M' := m_X12_isRoutine) (As := [.int (iI r)]) (rest := []) dX12_pass_16 ok_X12_isRoutine im_X12_isRoutine se_X12_isRoutine ml12_404 np_X12_isRoutine rfl rfl (Nat.le_of_ble_eq_true rfl) (Nat.le_of_ble_eq_true rfl) rfl (c_X12_isRoutine (d + 5) (σ := (sS 0 0 σ)) (x := r) (hR.S (by omega)) hgd.1 (by omega)) (fun r7 σ8 hp => ?_)
    obtain ⟨v9, rfl, rfl, f10, f11⟩ := hp
    show Tm _ _ 19 b (sS 0 0 σ) [(0, .ref b), (1, .int (iI w)), (2, .int (iI r))] [.int (iI v9)] _
    refine tm_if_ne (tgt := 24) dX12_pass_19 (by decide) ⟨by omega, by omega⟩ (fun h12 => ?_) (fun h12 => ?_)
    · refine tm_aload_n dX12_pass_24 rfl 0 rfl ?_
      refine tm_get (k := 48) (v := .ref (b + 1 + 26)) lay_12 dX12_pass_25 (by decide) fl12_95 rfl ?_
      refine tm_iload_n dX12_pass_28 rfl 2 rfl ?_
      refine tm_iconst dX12_pass_29 ?_
      refine tm_zast (z := r) (v := 0) dX12_pass_30 (show mT[26]? = some (48, 2, 6) from rfl) (by omega) (by omega) (by decide) (by omega) ?_
      refine tm_aload_n dX12_pass_31 rfl 0 rfl ?_
      refine tm_iconst dX12_pass_32 ?_
      refine tm_putS (k := 67) (v := 0) lay_12 dX12_pass_33 (by decide) fl12_397 rfl (tyX12_ok 67 (by decide)) rfl rfl rfl ?_
      have f3 := (show Fr [0, 67] [48] [] σ (sS 67 0 (sA 48 (r) (0) (sS 0 0 σ))) from (((Fr.rfl.S (by decide)).A (by decide)).S (by decide)))
      have hgd3 := hgd.fr f3 (by decide) (by decide)
      have hr3 : 0 ≤ r ∧ r < (sS 67 0 (sA 48 (r) (0) (sS 0 0 σ))).1 10 := by rw [f3.1 10 (by decide)]; omega
      have gr3 := hgd3.2 r hr3.1 hr3.2
      have gr31 := gr3.1
      have hit3 := hit.fr f3 (by decide)
      have hpar3 := hpar.fr f3 (by decide)
      have hnam3 := hnam.fr f3 (by decide)
      have hbh3 : BO 48 (sS 67 0 (sA 48 (r) (0) (sS 0 0 σ))) := BO.A (σ := sS 0 0 σ) (k := 48) (z := r) (v := 0) hbh (Or.inl rfl)
      have hl3 := hl.fr f3 (by decide)
      have hbo3 := hbo.fr f3 (by decide)
      have hbl3 := hbl.fr f3 (by decide)
      have hbd3 := hbd.fr f3 (by decide)
      have hnl3 := hnl.fr f3 (by decide)
      have hkn3 := hkn.fr f3 (by decide)
      refine tm_iload_n dX12_pass_36 rfl 1 rfl ?_
      by_cases h13 : w < 0 ∨ 4 < w
      · refine tm_tableOut (tgt := 102) dX12_pass_37 ⟨by omega, by omega⟩ h13 (by decide) ?_
        refine tm_aload_n dX12_pass_102 rfl 0 rfl ?_
        refine tm_iload_n dX12_pass_103 rfl 2 rfl ?_
        refine tm_callV (M := m_X12_pass) (pc := 104) (ix := 457) (M' := m_X12_share) (As := [.int (iI r)]) (rest := []) dX12_pass_104 ok_X12_share im_X12_share se_X12_share ml12_457 np_X12_share rfl rfl (Nat.le_of_ble_eq_true rfl) (Nat.le_of_ble_eq_true rfl) rfl (c_X12_share (d + 1) (σ := (sS 67 0 (sA 48 (r) (0) (sS 0 0 σ)))) (r := r) (by omega) (((hR.S (by omega)).A (by omega)).S (by omega)) hit3 hpar3 hnam3 gr3.2.2.1 gr3.2.1 hl3 hbo3 hbl3 hbd3 hnl3 gr3.2.2.2.2.1) (fun r14 σ15 hp => ?_)
        obtain ⟨v16, rfl, f17, f18, f19, f20, f21, f22, f23, f24, f25, f26, f27, f28⟩ := hp
        show Tm _ _ 107 b σ15 [(0, .ref b), (1, .int (iI w)), (2, .int (iI r))] [.int (iI v16)] _
        have hxr4 := f26.xr
        have h94 : ∀ j, j ≠ r → σ15.2.1 9 j = _ := fun j _ => congrFun (f17.2.1 9 (by decide)) j
        have hg4 := hgd3.step hr3 hnam3 f17 (by decide) (by decide) hxr4 f27 h94 (by rw [f17.2.1 9 (by decide)]; exact ⟨gr3.1.1, Int.le_refl _⟩) f25 f24 (gr3.2.2.2.2.2.1.dk f28 (f17.2.1 3 (by decide)) (f17.2.1 5 (by decide)) (f17.2.1 9 (by decide)) (f17.2.1 14 (by decide)) (f17.2.1 16 (by decide)) (f17.1 10 (by decide))) (gr3.2.2.2.2.1.dk f28 (f17.2.1 3 (by decide)) (f17.2.1 9 (by decide))) (gr3.2.2.2.2.2.2.2.1.dk f28 (f17.2.1 3 (by decide)) (f17.2.1 9 (by decide)) (f17.2.1 14 (by decide)))
        exact tm_iret rfl dX12_pass_107 (⟨_, rfl, ((((Fr.rfl.S (by decide)).A (by decide)).S (by decide)).trans (Fr.sub f17 (by decide) (by decide) (by decide))), f18, hg4, ITM.of hit3 h94 hg4 ⟨by omega, by rw [f17.1 10 (by decide)]; exact hr3.2⟩, f19, f20, hbh3.fr f17 (by decide), f21, f22, f23, hkn3.fr f17 (by decide), (XP.of hxr4 (by omega) h94).s f3 (by decide), Or.inr (by rw [f17.1 67 (by decide)]; exact rs_eq)⟩)
      · have h13c : w = 0 ∨ w = 1 ∨ w = 2 ∨ w = 3 ∨ w = 4 := by omega
        rcases h13c with h13v | h13v | h13v | h13v | h13v
        · refine tm_tableIn (tgt := 72) dX12_pass_37 ⟨by omega, by omega⟩ (by omega) (by omega) (show _ = some (35) by rw [h13v]; rfl) (by decide) ?_
          refine tm_aload_n dX12_pass_72 rfl 0 rfl ?_
          refine tm_iload_n dX12_pass_73 rfl 2 rfl ?_
          refine tm_callV (M := m_X12_pass) (pc := 74) (ix := 442) (M' := m_X12_fold) (As := [.int (iI r)]) (rest := []) dX12_pass_74 ok_X12_fold im_X12_fold se_X12_fold ml12_442 np_X12_fold rfl rfl (Nat.le_of_ble_eq_true rfl) (Nat.le_of_ble_eq_true rfl) rfl (c_X12_fold (d + 1) (σ := (sS 67 0 (sA 48 (r) (0) (sS 0 0 σ)))) (r := r) (by omega) (((hR.S (by omega)).A (by omega)).S (by omega)) hit3 hpar3 gr3.2.2.1 hkn3 gr31.1 gr3.2.2.2.2.2.1 gr3.2.2.2.2.1 gr3.2.2.2.2.2.2.2.1) (fun r29 σ30 hp => ?_)
          obtain ⟨v31, rfl, f32, f33, f34, f35, f36, f37, f38, f39, f40⟩ := hp
          show Tm _ _ 77 b σ30 [(0, .ref b), (1, .int (iI w)), (2, .int (iI r))] [.int (iI v31)] _
          have hxr4 := f35.xr
          have h94 := f34.2
          have hg4 := hgd3.step hr3 hnam3 f32 (by decide) (by decide) hxr4 (XN.fr f32 (by decide)) h94 f34.1 (gr3.2.1.fr f32 (by decide)) f36 f37 f38 f39
          exact tm_iret rfl dX12_pass_77 (⟨_, rfl, ((((Fr.rfl.S (by decide)).A (by decide)).S (by decide)).trans (Fr.sub f32 (by decide) (by decide) (by decide))), f33, hg4, ITM.of hit3 h94 hg4 ⟨by omega, by rw [f32.1 10 (by decide)]; exact hr3.2⟩, hl3.fr f32 (by decide), hbo3.fr f32 (by decide), hbh3.fr f32 (by decide), hbl3.fr f32 (by decide), hbd3.fr f32 (by decide), hnl3.fr f32 (by decide), f40, (XP.of hxr4 (by omega) h94).s f3 (by decide), Or.inr (by rw [f32.1 67 (by decide)]; exact rs_eq)⟩)
        · refine tm_tableIn (tgt := 78) dX12_pass_37 ⟨by omega, by omega⟩ (by omega) (by omega) (show _ = some (41) by rw [h13v]; rfl) (by decide) ?_
          refine tm_aload_n dX12_pass_78 rfl 0 rfl ?_
          refine tm_iload_n dX12_pass_79 rfl 2 rfl ?_
          refine tm_callV (M := m_X12_pass) (pc := 80) (ix := 445) (M' := m_X12_dropAll) (As := [.int (iI r)]) (rest := []) dX12_pass_80 ok_X12_dropAll im_X12_dropAll se_X12_dropAll ml12_445 np_X12_dropAll rfl rfl (Nat.le_of_ble_eq_true rfl) (Nat.le_of_ble_eq_true rfl) rfl (c_X12_dropAll (d) (σ := (sS 67 0 (sA 48 (r) (0) (sS 0 0 σ)))) (r := r) (by omega) (((hR.S (by omega)).A (by omega)).S (by omega)) hit3 hpar3 gr3.2.2.1 hl3 hbl3 hbo3 gr31.1 gr3.2.2.2.2.2.1 gr3.2.2.2.2.1 gr3.2.2.2.2.2.2.2.1) (fun r41 σ42 hp => ?_)
          obtain ⟨v43, rfl, f44, f45, f46, f47, f48, f49, f50, f51, f52, f53, f54⟩ := hp
          show Tm _ _ 83 b σ42 [(0, .ref b), (1, .int (iI w)), (2, .int (iI r))] [.int (iI v43)] _
          have hxr4 := f47.xr
          have h94 := f46.2
          have hg4 := hgd3.step hr3 hnam3 f44 (by decide) (by decide) hxr4 (XN.fr f44 (by decide)) h94 f46.1 (gr3.2.1.fr f44 (by decide)) f48 f49 f50 f51
          exact tm_iret rfl dX12_pass_83 (⟨_, rfl, ((((Fr.rfl.S (by decide)).A (by decide)).S (by decide)).trans (Fr.sub f44 (by decide) (by decide) (by decide))), f45, hg4, ITM.of hit3 h94 hg4 ⟨by omega, by rw [f44.1 10 (by decide)]; exact hr3.2⟩, f52, f54, hbh3.fr f44 (by decide), f53, hbd3.fr f44 (by decide), hnl3.fr f44 (by decide), hkn3.fr f44 (by decide), (XP.of hxr4 (by omega) h94).s f3 (by decide), Or.inr (by rw [f44.1 67 (by decide)]; exact rs_eq)⟩)
        · refine tm_tableIn (tgt := 84) dX12_pass_37 ⟨by omega, by omega⟩ (by omega) (by omega) (show _ = some (47) by rw [h13v]; rfl) (by decide) ?_
          refine tm_aload_n dX12_pass_84 rfl 0 rfl ?_
          refine tm_iload_n dX12_pass_85 rfl 2 rfl ?_
          refine tm_callV (M := m_X12_pass) (pc := 86) (ix := 448) (M' := m_X12_moveAll) (As := [.int (iI r)]) (rest := []) dX12_pass_86 ok_X12_moveAll im_X12_moveAll se_X12_moveAll ml12_448 np_X12_moveAll rfl rfl (Nat.le_of_ble_eq_true rfl) (Nat.le_of_ble_eq_true rfl) rfl (c_X12_moveAll (d + 1) (σ := (sS 67 0 (sA 48 (r) (0) (sS 0 0 σ)))) (r := r) (by omega) (((hR.S (by omega)).A (by omega)).S (by omega)) hit3 hpar3 hnam3 gr3.2.2.1 gr3.2.1 gr31.1 gr3.2.2.2.2.2.1 gr3.2.2.2.2.1 gr3.2.2.2.2.2.2.2.1) (fun r55 σ56 hp => ?_)
          obtain ⟨v57, rfl, f58, f59, f60, f61, f62, f63, f64⟩ := hp
          show Tm _ _ 89 b σ56 [(0, .ref b), (1, .int (iI w)), (2, .int (iI r))] [.int (iI v57)] _
          have hxr4 := f60
          have h94 : ∀ j, j ≠ r → σ56.2.1 9 j = _ := fun j _ => congrFun (f58.2.1 9 (by decide)) j
          have hg4 := hgd3.step hr3 hnam3 f58 (by decide) (by decide) hxr4 (XN.fr f58 (by decide)) h94 (by rw [f58.2.1 9 (by decide)]; exact ⟨gr3.1.1, Int.le_refl _⟩) (gr3.2.1.fr f58 (by decide)) f61 f62 f63 f64
          exact tm_iret rfl dX12_pass_89 (⟨_, rfl, ((((Fr.rfl.S (by decide)).A (by decide)).S (by decide)).trans (Fr.sub f58 (by decide) (by decide) (by decide))), f59, hg4, ITM.of hit3 h94 hg4 ⟨by omega, by rw [f58.1 10 (by decide)]; exact hr3.2⟩, hl3.fr f58 (by decide), hbo3.fr f58 (by decide), hbh3.fr f58 (by decide), hbl3.fr f58 (by decide), hbd3.fr f58 (by decide), hnl3.fr f58 (by decide), hkn3.fr f58 (by decide), (XP.of hxr4 (by omega) h94).s f3 (by decide), Or.inr (by rw [f58.1 67 (by decide)]; exact rs_eq)⟩)
        · refine tm_tableIn (tgt := 90) dX12_pass_37 ⟨by omega, by omega⟩ (by omega) (by omega) (show _ = some (53) by rw [h13v]; rfl) (by decide) ?_
          refine tm_aload_n dX12_pass_90 rfl 0 rfl ?_
          refine tm_iload_n dX12_pass_91 rfl 2 rfl ?_
          refine tm_callV (M := m_X12_pass) (pc := 92) (ix := 451) (M' := m_X12_alike) (As := [.int (iI r)]) (rest := []) dX12_pass_92 ok_X12_alike im_X12_alike se_X12_alike ml12_451 np_X12_alike rfl rfl (Nat.le_of_ble_eq_true rfl) (Nat.le_of_ble_eq_true rfl) rfl (c_X12_alike (d + 1) (σ := (sS 67 0 (sA 48 (r) (0) (sS 0 0 σ)))) (r := r) (by omega) (((hR.S (by omega)).A (by omega)).S (by omega)) hit3 hpar3 gr3.2.2.1) (fun r65 σ66 hp => ?_)
          obtain ⟨v67, rfl, f68, f69, f70, f71, f72⟩ := hp
          show Tm _ _ 95 b σ66 [(0, .ref b), (1, .int (iI w)), (2, .int (iI r))] [.int (iI v67)] _
          have hxr4 := f71.xr
          have h94 : ∀ j, j ≠ r → σ66.2.1 9 j = _ := fun j _ => congrFun (f68.2.1 9 (by decide)) j
          have hg4 := hgd3.step hr3 hnam3 f68 (by decide) (by decide) hxr4 (XN.fr f68 (by decide)) h94 (by rw [f68.2.1 9 (by decide)]; exact ⟨gr3.1.1, Int.le_refl _⟩) (gr3.2.1.fr f68 (by decide)) f70 (gr3.2.2.2.2.2.1.kc gr3.1.1 f72 (f68.2.1 4 (by decide)) (f68.2.1 5 (by decide)) (f68.2.1 9 (by decide)) (f68.2.1 14 (by decide)) (f68.2.1 16 (by decide)) (f68.1 10 (by decide))) (gr3.2.2.2.2.1.kc f72 (f68.2.1 4 (by decide)) (f68.2.1 9 (by decide))) (gr3.2.2.2.2.2.2.2.1.kc f72 (f68.2.1 4 (by decide)) (f68.2.1 9 (by decide)) (f68.2.1 14 (by decide)))
          exact tm_iret rfl dX12_pass_95 (⟨_, rfl, ((((Fr.rfl.S (by decide)).A (by decide)).S (by decide)).trans (Fr.sub f68 (by decide) (by decide) (by decide))), f69, hg4, ITM.of hit3 h94 hg4 ⟨by omega, by rw [f68.1 10 (by decide)]; exact hr3.2⟩, hl3.fr f68 (by decide), hbo3.fr f68 (by decide), hbh3.fr f68 (by decide), hbl3.fr f68 (by decide), hbd3.fr f68 (by decide), hnl3.fr f68 (by decide), hkn3.fr f68 (by decide), (XP.of hxr4 (by omega) h94).s f3 (by decide), Or.inr (by rw [f68.1 67 (by decide)]; exact rs_eq)⟩)
        · refine tm_tableIn (tgt := 96) dX12_pass_37 ⟨by omega, by omega⟩ (by omega) (by omega) (show _ = some (59) by rw [h13v]; rfl) (by decide) ?_
          refine tm_aload_n dX12_pass_96 rfl 0 rfl ?_
          refine tm_iload_n dX12_pass_97 rfl 2 rfl ?_
          refine tm_callV (M := m_X12_pass) (pc := 98) (ix := 454) (M' := m_X12_melt) (As := [.int (iI r)]) (rest := []) dX12_pass_98 ok_X12_melt im_X12_melt se_X12_melt ml12_454 np_X12_melt rfl rfl (Nat.le_of_ble_eq_true rfl) (Nat.le_of_ble_eq_true rfl) rfl (c_X12_melt (d) (σ := (sS 67 0 (sA 48 (r) (0) (sS 0 0 σ)))) (r := r) hr3 (((hR.S (by omega)).A (by omega)).S (by omega)) hit3 hpar3 hnam3 hgd3 hl3 hbl3) (fun r73 σ74 hp => ?_)
          obtain ⟨v75, rfl, f76, f77, f78, f79, f80, f81, f82⟩ := hp
          show Tm _ _ 101 b σ74 [(0, .ref b), (1, .int (iI w)), (2, .int (iI r))] [.int (iI v75)] _
          have hxr4 := f82
          have h94 := f81
          have hg4 := f78
          exact tm_iret rfl dX12_pass_101 (⟨_, rfl, ((((Fr.rfl.S (by decide)).A (by decide)).S (by decide)).trans (Fr.sub f76 (by decide) (by decide) (by decide))), f77, hg4, ITM.of hit3 h94 hg4 ⟨by omega, by rw [f76.1 10 (by decide)]; exact hr3.2⟩, f79, hbo3.fr f76 (by decide), hbh3.fr f76 (by decide), f80, hbd3.fr f76 (by decide), hnl3.fr f76 (by decide), hkn3.fr f76 (by decide), (XP.of hxr4 (by omega) h94).s f3 (by decide), Or.inr (by rw [f76.1 67 (by decide)]; exact rs_eq)⟩)
    · refine tm_iconst dX12_pass_22 ?_
      exact tm_iret rfl dX12_pass_23 (⟨_, rfl, (Fr.rfl.S (by decide)), (hR.S (by omega)), hgd.fr (show Fr [0] [] [] σ (sS 0 0 σ) from (Fr.rfl.S (by decide))) (by decide) (by decide), hit.fr (show Fr [0] [] [] σ (sS 0 0 σ) from (Fr.rfl.S (by decide))) (by decide), hl.fr (show Fr [0] [] [] σ (sS 0 0 σ) from (Fr.rfl.S (by decide))) (by decide), hbo.fr (show Fr [0] [] [] σ (sS 0 0 σ) from (Fr.rfl.S (by decide))) (by decide), hbh.fr (show Fr [0] [] [] σ (sS 0 0 σ) from (Fr.rfl.S (by decide))) (by decide), hbl.fr (show Fr [0] [] [] σ (sS 0 0 σ) from (Fr.rfl.S (by decide))) (by decide), hbd.fr (show Fr [0] [] [] σ (sS 0 0 σ) from (Fr.rfl.S (by decide))) (by decide), hnl.fr (show Fr [0] [] [] σ (sS 0 0 σ) from (Fr.rfl.S (by decide))) (by decide), hkn.fr (show Fr [0] [] [] σ (sS 0 0 σ) from (Fr.rfl.S (by decide))) (by decide), XP.s (τ := (sS 0 0 σ)) ⟨fun _ _ _ => IEQ.rfl, fun _ _ => rfl⟩ (show Fr [0] [] [] σ (sS 0 0 σ) from (Fr.rfl.S (by decide))) (by decide), Or.inl ⟨rfl, rfl⟩⟩)
