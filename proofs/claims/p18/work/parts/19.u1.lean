section
set_option maxHeartbeats 1000000 in
set_option maxRecDepth 20000 in
theorem f_X12_pass (d : Nat) {b : Nat} {σ : MS} {w : Int} {r : Int} (hR : RG σ) (hit : ITM σ) (hpar : PAR σ) (hnam : NAM σ) (hgd : GDA σ) (hl : LAB σ) (hbo : BO 47 σ) (hbh : BO 48 σ) (hbl : BO 59 σ) (hbd : BO 63 σ) (hnl : NUL σ) (hkn : KNW σ) (hun : ∀ q, 0 ≤ q → q < σ.1 10 → UNQ (rV σ q) (σ.2.1 9 q)) (h_w : -2147483648 ≤ w ∧ w ≤ 2147483647) (h_r : -2147483648 ≤ r ∧ r ≤ 2147483647) : Tm (d + 8) m_X12_pass 0 b σ [(0, .ref b), (1, .int (iI w)), (2, .int (iI r))] [] (fun ro σ2 => ∃ v : Int, ro = some (.int (iI v)) ∧ (Fr [0, 62, 67] [3, 4, 5, 6, 7, 8, 9, 14, 15, 16, 17, 18, 46, 47, 48, 59, 60, 61, 63, 64, 65, 66] [] σ σ2) ∧ (RG σ2) ∧ (GDA σ2) ∧ (ITM σ2) ∧ (LAB σ2) ∧ (BO 47 σ2) ∧ (BO 48 σ2) ∧ (BO 59 σ2) ∧ (BO 63 σ2) ∧ (NUL σ2) ∧ (KNW σ2) ∧ (XP σ σ2) ∧ ((v = -1 ∧ σ2 = sS 0 0 σ) ∨ σ2.1 67 = 0) ∧ (PSQ σ σ2 w r v) ∧ (RPM σ σ2 w r) ∧ (HS8 σ σ2 w r)) := by
  have hr6 := hgd.1
  have e10 : (sS 0 0 σ).1 10 = σ.1 10 := rfl
  refine tm_aload_n dX12_pass_0 rfl 0 rfl ?_
  refine tm_iconst dX12_pass_1 ?_
  refine tm_putS (k := 0) (v := 0) lay_12 dX12_pass_2 (by decide) fl12_185 rfl (tyX12_ok 0 (by decide)) rfl rfl rfl ?_
  refine tm_iload_n dX12_pass_5 rfl 1 rfl ?_
  refine tm_iconst dX12_pass_6 ?_
  refine tm_iconst dX12_pass_7 ?_
  refine tm_callS (M := m_X12_pass) (pc := 8) (ix := 188) (M' := m_X12_in) (As := [.int (iI w), .int (iI 0), .int (iI 5)]) (rest := []) dX12_pass_8 ok_X12_in stt_X12_in ml12_188 np_X12_in rfl (Nat.le_of_ble_eq_true rfl) (Nat.le_of_ble_eq_true rfl) rfl (c_X12_in (d + 6) (σ := (sS 0 0 σ)) (x := w) (lo := 0) (hi := 5) (by omega) (by omega) (by omega)) (fun r1 σ2 hp => ?_)
  obtain ⟨v3, rfl, rfl, f4, f5⟩ := hp
  show Tm _ _ 11 b (sS 0 0 σ) [(0, .ref b), (1, .int (iI w)), (2, .int (iI r))] [.int (iI v3)] _
  refine tm_if_eq (tgt := 22) dX12_pass_11 (by decide) ⟨by omega, by omega⟩ (fun h6 => ?_) (fun h6 => ?_)
  · refine tm_iconst dX12_pass_22 ?_
    exact tm_iret rfl dX12_pass_23 (⟨_, rfl, (Fr.rfl.S (by decide)), (hR.S (by omega)), hgd.fr (show Fr [0] [] [] σ (sS 0 0 σ) from (Fr.rfl.S (by decide))) (by decide) (by decide), hit.fr (show Fr [0] [] [] σ (sS 0 0 σ) from (Fr.rfl.S (by decide))) (by decide), hl.fr (show Fr [0] [] [] σ (sS 0 0 σ) from (Fr.rfl.S (by decide))) (by decide), hbo.fr (show Fr [0] [] [] σ (sS 0 0 σ) from (Fr.rfl.S (by decide))) (by decide), hbh.fr (show Fr [0] [] [] σ (sS 0 0 σ) from (Fr.rfl.S (by decide))) (by decide), hbl.fr (show Fr [0] [] [] σ (sS 0 0 σ) from (Fr.rfl.S (by decide))) (by decide), hbd.fr (show Fr [0] [] [] σ (sS 0 0 σ) from (Fr.rfl.S (by decide))) (by decide), hnl.fr (show Fr [0] [] [] σ (sS 0 0 σ) from (Fr.rfl.S (by decide))) (by decide), hkn.fr (show Fr [0] [] [] σ (sS 0 0 σ) from (Fr.rfl.S (by decide))) (by decide), XP.s (τ := (sS 0 0 σ)) ⟨fun _ _ _ => IEQ.rfl, fun _ _ => rfl⟩ (show Fr [0] [] [] σ (sS 0 0 σ) from (Fr.rfl.S (by decide))) (by decide), Or.inl ⟨rfl, rfl⟩, Or.inl ⟨by omega, rfl, fun j => rs_fr (show Fr [0] [] [] σ (sS 0 0 σ) from (Fr.rfl.S (by decide))) (by decide)⟩, Or.inl ⟨by omega, rfl⟩, Or.inl ⟨by omega, rfl⟩⟩)
  · refine tm_aload_n dX12_pass_14 rfl 0 rfl ?_
    refine tm_iload_n dX12_pass_15 rfl 2 rfl ?_
    refine tm_callV (M := m_X12_pass) (pc := 16) (ix := 404) (M' := m_X12_isRoutine) (As := [.int (iI r)]) (rest := []) dX12_pass_16 ok_X12_isRoutine im_X12_isRoutine se_X12_isRoutine ml12_404 np_X12_isRoutine rfl rfl (Nat.le_of_ble_eq_true rfl) (Nat.le_of_ble_eq_true rfl) rfl (c_X12_isRoutine (d + 5) (σ := (sS 0 0 σ)) (x := r) (hR.S (by omega)) hgd.1 (by omega)) (fun r7 σ8 hp => ?_)
    obtain ⟨v9, rfl, rfl, f10, f11⟩ := hp
    show Tm _ _ 19 b (sS 0 0 σ) [(0, .ref b), (1, .int (iI w)), (2, .int (iI r))] [.int (iI v9)] _
    refine tm_if_ne (tgt := 24) dX12_pass_19 (by decide) ⟨by omega, by omega⟩ (fun h12 => ?_) (fun h12 => ?_)
    · refine tm_aload_n dX12_pass_24 rfl 0 rfl ?_
      refine tm_get (k := 48) (v := .ref (b + 1 + 26)) lay_12 dX12_pass_25 (by decide) fl12_95 rfl ?_
      refine tm_iload_n dX12_pass_28 rfl 2 rfl ?_
      refine tm_iconst dX12_pass_29 ?_
      refine tm_zast (z := r) (v := 0) dX12_pass_30 (show mT[26]? = some (48, 2, 6) from rfl) (by omega) (by omega) (by decide) (by omega) ?_
      refine tm_aload_n dX12_pass_31 rfl 0 rfl ?_
      refine tm_iconst dX12_pass_32 ?_
      refine tm_putS (k := 67) (v := 0) lay_12 dX12_pass_33 (by decide) fl12_397 rfl (tyX12_ok 67 (by decide)) rfl rfl rfl ?_
      have f3 := (show Fr [0, 67] [48] [] σ (sS 67 0 (sA 48 (r) (0) (sS 0 0 σ))) from (((Fr.rfl.S (by decide)).A (by decide)).S (by decide)))
      have hgd3 := hgd.fr f3 (by decide) (by decide)
      have hr3 : 0 ≤ r ∧ r < (sS 67 0 (sA 48 (r) (0) (sS 0 0 σ))).1 10 := by rw [f3.1 10 (by decide)]; omega
      have gr3 := hgd3.2 r hr3.1 hr3.2
      have gr31 := gr3.1
      have hit3 := hit.fr f3 (by decide)
      have hpar3 := hpar.fr f3 (by decide)
      have hnam3 := hnam.fr f3 (by decide)
      have hbh3 : BO 48 (sS 67 0 (sA 48 (r) (0) (sS 0 0 σ))) := BO.A (σ := sS 0 0 σ) (k := 48) (z := r) (v := 0) hbh (Or.inl rfl)
      have hl3 := hl.fr f3 (by decide)
      have hbo3 := hbo.fr f3 (by decide)
      have hbl3 := hbl.fr f3 (by decide)
      have hbd3 := hbd.fr f3 (by decide)
      have hnl3 := hnl.fr f3 (by decide)
      have hkn3 := hkn.fr f3 (by decide)
      have hun3 : ∀ q, 0 ≤ q → q < (sS 67 0 (sA 48 (r) (0) (sS 0 0 σ))).1 10 → UNQ (rV (sS 67 0 (sA 48 (r) (0) (sS 0 0 σ))) q) ((sS 67 0 (sA 48 (r) (0) (sS 0 0 σ))).2.1 9 q) := fun q a b => by rw [rv_fr f3 (by decide), f3.2.1 9 (by decide)]; exact hun q a (by rw [← f3.1 10 (by decide)]; exact b)
      have hu3 := hun3 r hr3.1 hr3.2
      refine tm_iload_n dX12_pass_36 rfl 1 rfl ?_
      by_cases h13 : w < 0 ∨ 4 < w
      · refine tm_tableOut (tgt := 102) dX12_pass_37 ⟨by omega, by omega⟩ h13 (by decide) ?_
        refine tm_aload_n dX12_pass_102 rfl 0 rfl ?_
        refine tm_iload_n dX12_pass_103 rfl 2 rfl ?_
        refine tm_callV (M := m_X12_pass) (pc := 104) (ix := 457) (M' := m_X12_share) (As := [.int (iI r)]) (rest := []) dX12_pass_104 ok_X12_share im_X12_share se_X12_share ml12_457 np_X12_share rfl rfl (Nat.le_of_ble_eq_true rfl) (Nat.le_of_ble_eq_true rfl) rfl (f_X12_share (d + 1) (σ := (sS 67 0 (sA 48 (r) (0) (sS 0 0 σ)))) (r := r) (by omega) (((hR.S (by omega)).A (by omega)).S (by omega)) hit3 hpar3 hnam3 gr3.2.2.1 gr3.2.1 hl3 hbo3 hbl3 hbd3 hnl3 gr3.2.2.2.2.1 hu3) (fun r14 σ15 hp => ?_)
        obtain ⟨v16, rfl, f17, f18, f19, f20, f21, f22, f23, f24, f25, f26, f27, f28, f29⟩ := hp
        show Tm _ _ 107 b σ15 [(0, .ref b), (1, .int (iI w)), (2, .int (iI r))] [.int (iI v16)] _
        have hxr4 := f26.xr
        have h94 : ∀ j, j ≠ r → σ15.2.1 9 j = _ := fun j _ => congrFun (f17.2.1 9 (by decide)) j
        have hg4 := hgd3.step hr3 hnam3 f17 (by decide) (by decide) hxr4 f27 h94 (by rw [f17.2.1 9 (by decide)]; exact ⟨gr3.1.1, Int.le_refl _⟩) f25 f24 (gr3.2.2.2.2.2.1.dk f28 (f17.2.1 3 (by decide)) (f17.2.1 5 (by decide)) (f17.2.1 9 (by decide)) (f17.2.1 14 (by decide)) (f17.2.1 16 (by decide)) (f17.1 10 (by decide))) (gr3.2.2.2.2.1.dk f28 (f17.2.1 3 (by decide)) (f17.2.1 9 (by decide))) (gr3.2.2.2.2.2.2.2.1.dk f28 (f17.2.1 3 (by decide)) (f17.2.1 9 (by decide)) (f17.2.1 14 (by decide)))
        have hps : PSX (sS 67 0 (sA 48 (r) (0) (sS 0 0 σ))) σ15 w r v16 := ⟨Or.inr (Or.inr (Or.inr (Or.inr (Or.inr ⟨by omega, sh_rs f29 f17 (by decide) gr3 f24 (hpar3.fr f17 (by decide))⟩)))), rs_oth hgd3 hnam3 f17 (by decide) hxr4 f27 h94⟩
        exact tm_iret rfl dX12_pass_107 (⟨_, rfl, ((((Fr.rfl.S (by decide)).A (by decide)).S (by decide)).trans (Fr.sub f17 (by decide) (by decide) (by decide))), f18, hg4, ITM.of hit3 h94 hg4 ⟨by omega, by rw [f17.1 10 (by decide)]; exact hr3.2⟩, f19, f20, hbh3.fr f17 (by decide), f21, f22, f23, hkn3.fr f17 (by decide), (XP.of hxr4 (by omega) h94).s f3 (by decide), Or.inr (by rw [f17.1 67 (by decide)]; exact rs_eq), Or.inr ⟨by omega, hps.s f3 (by decide) (by decide)⟩, Or.inr ⟨by omega, rs_F f17 (by decide) (rs_eq)⟩, Or.inr ⟨by omega, (f17.2.1 48 (by decide)).trans (show (sS 67 0 (sA 48 (r) (0) (sS 0 0 σ))).2.1 48 = uZ (σ.2.1 48) r 0 from sA_uz)⟩⟩)
      · have h13c : w = 0 ∨ w = 1 ∨ w = 2 ∨ w = 3 ∨ w = 4 := by omega
        rcases h13c with h13v | h13v | h13v | h13v | h13v
        · refine tm_tableIn (tgt := 72) dX12_pass_37 ⟨by omega, by omega⟩ (by omega) (by omega) (show _ = some (35) by rw [h13v]; rfl) (by decide) ?_
          refine tm_aload_n dX12_pass_72 rfl 0 rfl ?_
          refine tm_iload_n dX12_pass_73 rfl 2 rfl ?_
          refine tm_callV (M := m_X12_pass) (pc := 74) (ix := 442) (M' := m_X12_fold) (As := [.int (iI r)]) (rest := []) dX12_pass_74 ok_X12_fold im_X12_fold se_X12_fold ml12_442 np_X12_fold rfl rfl (Nat.le_of_ble_eq_true rfl) (Nat.le_of_ble_eq_true rfl) rfl (f_X12_fold (d + 1) (σ := (sS 67 0 (sA 48 (r) (0) (sS 0 0 σ)))) (r := r) (by omega) (((hR.S (by omega)).A (by omega)).S (by omega)) hit3 hpar3 gr3.2.2.1 hkn3 gr31.1 gr3.2.2.2.2.2.1 gr3.2.2.2.2.1 gr3.2.2.2.2.2.2.2.1) (fun r30 σ31 hp => ?_)
          obtain ⟨v32, rfl, f33, f34, f35, f36, f37, f38, f39, f40, f41, f42⟩ := hp
          show Tm _ _ 77 b σ31 [(0, .ref b), (1, .int (iI w)), (2, .int (iI r))] [.int (iI v32)] _
          have hxr4 := f36.xr
          have h94 := f35.2
          have hg4 := hgd3.step hr3 hnam3 f33 (by decide) (by decide) hxr4 (XN.fr f33 (by decide)) h94 f35.1 (gr3.2.1.fr f33 (by decide)) f37 f38 f39 f40
          have hps : PSX (sS 67 0 (sA 48 (r) (0) (sS 0 0 σ))) σ31 w r v32 := ⟨Or.inl ⟨by omega, f42, rs_tl f33 (by decide)⟩, rs_oth hgd3 hnam3 f33 (by decide) hxr4 (XN.fr f33 (by decide)) h94⟩
          exact tm_iret rfl dX12_pass_77 (⟨_, rfl, ((((Fr.rfl.S (by decide)).A (by decide)).S (by decide)).trans (Fr.sub f33 (by decide) (by decide) (by decide))), f34, hg4, ITM.of hit3 h94 hg4 ⟨by omega, by rw [f33.1 10 (by decide)]; exact hr3.2⟩, hl3.fr f33 (by decide), hbo3.fr f33 (by decide), hbh3.fr f33 (by decide), hbl3.fr f33 (by decide), hbd3.fr f33 (by decide), hnl3.fr f33 (by decide), f41, (XP.of hxr4 (by omega) h94).s f3 (by decide), Or.inr (by rw [f33.1 67 (by decide)]; exact rs_eq), Or.inr ⟨by omega, hps.s f3 (by decide) (by decide)⟩, Or.inr ⟨by omega, rs_F f33 (by decide) (rs_eq)⟩, Or.inr ⟨by omega, (f33.2.1 48 (by decide)).trans (show (sS 67 0 (sA 48 (r) (0) (sS 0 0 σ))).2.1 48 = uZ (σ.2.1 48) r 0 from sA_uz)⟩⟩)
        · refine tm_tableIn (tgt := 78) dX12_pass_37 ⟨by omega, by omega⟩ (by omega) (by omega) (show _ = some (41) by rw [h13v]; rfl) (by decide) ?_
          refine tm_aload_n dX12_pass_78 rfl 0 rfl ?_
          refine tm_iload_n dX12_pass_79 rfl 2 rfl ?_
          refine tm_callV (M := m_X12_pass) (pc := 80) (ix := 445) (M' := m_X12_dropAll) (As := [.int (iI r)]) (rest := []) dX12_pass_80 ok_X12_dropAll im_X12_dropAll se_X12_dropAll ml12_445 np_X12_dropAll rfl rfl (Nat.le_of_ble_eq_true rfl) (Nat.le_of_ble_eq_true rfl) rfl (f_X12_dropAll (d) (σ := (sS 67 0 (sA 48 (r) (0) (sS 0 0 σ)))) (r := r) (by omega) (((hR.S (by omega)).A (by omega)).S (by omega)) hit3 hpar3 gr3.2.2.1 hl3 hbl3 hbo3 gr31.1 gr3.2.2.2.2.2.1 gr3.2.2.2.2.1 gr3.2.2.2.2.2.2.2.1 hu3) (fun r43 σ44 hp => ?_)
          obtain ⟨v45, rfl, f46, f47, f48, f49, f50, f51, f52, f53, f54, f55, f56, f57⟩ := hp
          show Tm _ _ 83 b σ44 [(0, .ref b), (1, .int (iI w)), (2, .int (iI r))] [.int (iI v45)] _
          have hxr4 := f49.xr
          have h94 := f48.2
          have hg4 := hgd3.step hr3 hnam3 f46 (by decide) (by decide) hxr4 (XN.fr f46 (by decide)) h94 f48.1 (gr3.2.1.fr f46 (by decide)) f50 f51 f52 f53
          have hps : PSX (sS 67 0 (sA 48 (r) (0) (sS 0 0 σ))) σ44 w r v45 := ⟨Or.inr (Or.inl ⟨by omega, f57, rs_tl f46 (by decide)⟩), rs_oth hgd3 hnam3 f46 (by decide) hxr4 (XN.fr f46 (by decide)) h94⟩
          exact tm_iret rfl dX12_pass_83 (⟨_, rfl, ((((Fr.rfl.S (by decide)).A (by decide)).S (by decide)).trans (Fr.sub f46 (by decide) (by decide) (by decide))), f47, hg4, ITM.of hit3 h94 hg4 ⟨by omega, by rw [f46.1 10 (by decide)]; exact hr3.2⟩, f54, f56, hbh3.fr f46 (by decide), f55, hbd3.fr f46 (by decide), hnl3.fr f46 (by decide), hkn3.fr f46 (by decide), (XP.of hxr4 (by omega) h94).s f3 (by decide), Or.inr (by rw [f46.1 67 (by decide)]; exact rs_eq), Or.inr ⟨by omega, hps.s f3 (by decide) (by decide)⟩, Or.inr ⟨by omega, rs_F f46 (by decide) (rs_eq)⟩, Or.inr ⟨by omega, (f46.2.1 48 (by decide)).trans (show (sS 67 0 (sA 48 (r) (0) (sS 0 0 σ))).2.1 48 = uZ (σ.2.1 48) r 0 from sA_uz)⟩⟩)
        · refine tm_tableIn (tgt := 84) dX12_pass_37 ⟨by omega, by omega⟩ (by omega) (by omega) (show _ = some (47) by rw [h13v]; rfl) (by decide) ?_
          refine tm_aload_n dX12_pass_84 rfl 0 rfl ?_
          refine tm_iload_n dX12_pass_85 rfl 2 rfl ?_
          refine tm_callV (M := m_X12_pass) (pc := 86) (ix := 448) (M' := m_X12_moveAll) (As := [.int (iI r)]) (rest := []) dX12_pass_86 ok_X12_moveAll im_X12_moveAll se_X12_moveAll ml12_448 np_X12_moveAll rfl rfl (Nat.le_of_ble_eq_true rfl) (Nat.le_of_ble_eq_true rfl) rfl (f_X12_moveAll (d + 1) (σ := (sS 67 0 (sA 48 (r) (0) (sS 0 0 σ)))) (r := r) (by omega) (((hR.S (by omega)).A (by omega)).S (by omega)) hit3 hpar3 hnam3 gr3.2.2.1 gr3.2.1 gr31.1 gr3.2.2.2.2.2.1 gr3.2.2.2.2.1 gr3.2.2.2.2.2.2.2.1) (fun r58 σ59 hp => ?_)
          obtain ⟨v60, rfl, f61, f62, f63, f64, f65, f66, f67, f68⟩ := hp
          show Tm _ _ 89 b σ59 [(0, .ref b), (1, .int (iI w)), (2, .int (iI r))] [.int (iI v60)] _
          have hxr4 := f63
          have h94 : ∀ j, j ≠ r → σ59.2.1 9 j = _ := fun j _ => congrFun (f61.2.1 9 (by decide)) j
          have hg4 := hgd3.step hr3 hnam3 f61 (by decide) (by decide) hxr4 (XN.fr f61 (by decide)) h94 (by rw [f61.2.1 9 (by decide)]; exact ⟨gr3.1.1, Int.le_refl _⟩) (gr3.2.1.fr f61 (by decide)) f64 f65 f66 f67
          have hps : PSX (sS 67 0 (sA 48 (r) (0) (sS 0 0 σ))) σ59 w r v60 := ⟨Or.inr (Or.inr (Or.inl ⟨by omega, MVA.c f68 (fun _ => hm_rs), congrFun (f61.2.1 9 (by decide)) r, rs_tl f61 (by decide)⟩)), rs_oth hgd3 hnam3 f61 (by decide) hxr4 (XN.fr f61 (by decide)) h94⟩
          exact tm_iret rfl dX12_pass_89 (⟨_, rfl, ((((Fr.rfl.S (by decide)).A (by decide)).S (by decide)).trans (Fr.sub f61 (by decide) (by decide) (by decide))), f62, hg4, ITM.of hit3 h94 hg4 ⟨by omega, by rw [f61.1 10 (by decide)]; exact hr3.2⟩, hl3.fr f61 (by decide), hbo3.fr f61 (by decide), hbh3.fr f61 (by decide), hbl3.fr f61 (by decide), hbd3.fr f61 (by decide), hnl3.fr f61 (by decide), hkn3.fr f61 (by decide), (XP.of hxr4 (by omega) h94).s f3 (by decide), Or.inr (by rw [f61.1 67 (by decide)]; exact rs_eq), Or.inr ⟨by omega, hps.s f3 (by decide) (by decide)⟩, Or.inr ⟨by omega, rs_F f61 (by decide) (rs_eq)⟩, Or.inr ⟨by omega, (f61.2.1 48 (by decide)).trans (show (sS 67 0 (sA 48 (r) (0) (sS 0 0 σ))).2.1 48 = uZ (σ.2.1 48) r 0 from sA_uz)⟩⟩)
        · refine tm_tableIn (tgt := 90) dX12_pass_37 ⟨by omega, by omega⟩ (by omega) (by omega) (show _ = some (53) by rw [h13v]; rfl) (by decide) ?_
          refine tm_aload_n dX12_pass_90 rfl 0 rfl ?_
          refine tm_iload_n dX12_pass_91 rfl 2 rfl ?_
          refine tm_callV (M := m_X12_pass) (pc := 92) (ix := 451) (M' := m_X12_alike) (As := [.int (iI r)]) (rest := []) dX12_pass_92 ok_X12_alike im_X12_alike se_X12_alike ml12_451 np_X12_alike rfl rfl (Nat.le_of_ble_eq_true rfl) (Nat.le_of_ble_eq_true rfl) rfl (f_X12_alike (d + 1) (σ := (sS 67 0 (sA 48 (r) (0) (sS 0 0 σ)))) (r := r) (by omega) (((hR.S (by omega)).A (by omega)).S (by omega)) hit3 hpar3 gr3.2.2.1) (fun r69 σ70 hp => ?_)
          obtain ⟨v71, rfl, f72, f73, f74, f75, f76, f77⟩ := hp
          show Tm _ _ 95 b σ70 [(0, .ref b), (1, .int (iI w)), (2, .int (iI r))] [.int (iI v71)] _
          have hxr4 := f75.xr
          have h94 : ∀ j, j ≠ r → σ70.2.1 9 j = _ := fun j _ => congrFun (f72.2.1 9 (by decide)) j
          have hg4 := hgd3.step hr3 hnam3 f72 (by decide) (by decide) hxr4 (XN.fr f72 (by decide)) h94 (by rw [f72.2.1 9 (by decide)]; exact ⟨gr3.1.1, Int.le_refl _⟩) (gr3.2.1.fr f72 (by decide)) f74 (gr3.2.2.2.2.2.1.kc gr3.1.1 f76 (f72.2.1 4 (by decide)) (f72.2.1 5 (by decide)) (f72.2.1 9 (by decide)) (f72.2.1 14 (by decide)) (f72.2.1 16 (by decide)) (f72.1 10 (by decide))) (gr3.2.2.2.2.1.kc f76 (f72.2.1 4 (by decide)) (f72.2.1 9 (by decide))) (gr3.2.2.2.2.2.2.2.1.kc f76 (f72.2.1 4 (by decide)) (f72.2.1 9 (by decide)) (f72.2.1 14 (by decide)))
          have hps : PSX (sS 67 0 (sA 48 (r) (0) (sS 0 0 σ))) σ70 w r v71 := ⟨Or.inr (Or.inr (Or.inr (Or.inl ⟨by omega, f77, congrFun (f72.2.1 9 (by decide)) r, rs_tl f72 (by decide)⟩))), rs_oth hgd3 hnam3 f72 (by decide) hxr4 (XN.fr f72 (by decide)) h94⟩
          exact tm_iret rfl dX12_pass_95 (⟨_, rfl, ((((Fr.rfl.S (by decide)).A (by decide)).S (by decide)).trans (Fr.sub f72 (by decide) (by decide) (by decide))), f73, hg4, ITM.of hit3 h94 hg4 ⟨by omega, by rw [f72.1 10 (by decide)]; exact hr3.2⟩, hl3.fr f72 (by decide), hbo3.fr f72 (by decide), hbh3.fr f72 (by decide), hbl3.fr f72 (by decide), hbd3.fr f72 (by decide), hnl3.fr f72 (by decide), hkn3.fr f72 (by decide), (XP.of hxr4 (by omega) h94).s f3 (by decide), Or.inr (by rw [f72.1 67 (by decide)]; exact rs_eq), Or.inr ⟨by omega, hps.s f3 (by decide) (by decide)⟩, Or.inr ⟨by omega, rs_F f72 (by decide) (rs_eq)⟩, Or.inr ⟨by omega, (f72.2.1 48 (by decide)).trans (show (sS 67 0 (sA 48 (r) (0) (sS 0 0 σ))).2.1 48 = uZ (σ.2.1 48) r 0 from sA_uz)⟩⟩)
        · refine tm_tableIn (tgt := 96) dX12_pass_37 ⟨by omega, by omega⟩ (by omega) (by omega) (show _ = some (59) by rw [h13v]; rfl) (by decide) ?_
          refine tm_aload_n dX12_pass_96 rfl 0 rfl ?_
          refine tm_iload_n dX12_pass_97 rfl 2 rfl ?_
          refine tm_callV (M := m_X12_pass) (pc := 98) (ix := 454) (M' := m_X12_melt) (As := [.int (iI r)]) (rest := []) dX12_pass_98 ok_X12_melt im_X12_melt se_X12_melt ml12_454 np_X12_melt rfl rfl (Nat.le_of_ble_eq_true rfl) (Nat.le_of_ble_eq_true rfl) rfl (f_X12_melt (d) (σ := (sS 67 0 (sA 48 (r) (0) (sS 0 0 σ)))) (r := r) hr3 (((hR.S (by omega)).A (by omega)).S (by omega)) hit3 hpar3 hnam3 hgd3 hl3 hbl3 hun3) (fun r78 σ79 hp => ?_)
          obtain ⟨v80, rfl, f81, f82, f83, f84, f85, f86, f87, f88⟩ := hp
          show Tm _ _ 101 b σ79 [(0, .ref b), (1, .int (iI w)), (2, .int (iI r))] [.int (iI v80)] _
          have hxr4 := f87
          have h94 := f86
          have hg4 := f83
          have hps : PSX (sS 67 0 (sA 48 (r) (0) (sS 0 0 σ))) σ79 w r v80 := ⟨Or.inr (Or.inr (Or.inr (Or.inr (Or.inl ⟨by omega, f88.1⟩)))), f88.2⟩
          exact tm_iret rfl dX12_pass_101 (⟨_, rfl, ((((Fr.rfl.S (by decide)).A (by decide)).S (by decide)).trans (Fr.sub f81 (by decide) (by decide) (by decide))), f82, hg4, ITM.of hit3 h94 hg4 ⟨by omega, by rw [f81.1 10 (by decide)]; exact hr3.2⟩, f84, hbo3.fr f81 (by decide), hbh3.fr f81 (by decide), f85, hbd3.fr f81 (by decide), hnl3.fr f81 (by decide), hkn3.fr f81 (by decide), (XP.of hxr4 (by omega) h94).s f3 (by decide), Or.inr (by rw [f81.1 67 (by decide)]; exact rs_eq), Or.inr ⟨by omega, hps.s f3 (by decide) (by decide)⟩, Or.inr ⟨by omega, rs_F f81 (by decide) (rs_eq)⟩, Or.inr ⟨by omega, (f81.2.1 48 (by decide)).trans (show (sS 67 0 (sA 48 (r) (0) (sS 0 0 σ))).2.1 48 = uZ (σ.2.1 48) r 0 from sA_uz)⟩⟩)
    · refine tm_iconst dX12_pass_22 ?_
      exact tm_iret rfl dX12_pass_23 (⟨_, rfl, (Fr.rfl.S (by decide)), (hR.S (by omega)), hgd.fr (show Fr [0] [] [] σ (sS 0 0 σ) from (Fr.rfl.S (by decide))) (by decide) (by decide), hit.fr (show Fr [0] [] [] σ (sS 0 0 σ) from (Fr.rfl.S (by decide))) (by decide), hl.fr (show Fr [0] [] [] σ (sS 0 0 σ) from (Fr.rfl.S (by decide))) (by decide), hbo.fr (show Fr [0] [] [] σ (sS 0 0 σ) from (Fr.rfl.S (by decide))) (by decide), hbh.fr (show Fr [0] [] [] σ (sS 0 0 σ) from (Fr.rfl.S (by decide))) (by decide), hbl.fr (show Fr [0] [] [] σ (sS 0 0 σ) from (Fr.rfl.S (by decide))) (by decide), hbd.fr (show Fr [0] [] [] σ (sS 0 0 σ) from (Fr.rfl.S (by decide))) (by decide), hnl.fr (show Fr [0] [] [] σ (sS 0 0 σ) from (Fr.rfl.S (by decide))) (by decide), hkn.fr (show Fr [0] [] [] σ (sS 0 0 σ) from (Fr.rfl.S (by decide))) (by decide), XP.s (τ := (sS 0 0 σ)) ⟨fun _ _ _ => IEQ.rfl, fun _ _ => rfl⟩ (show Fr [0] [] [] σ (sS 0 0 σ) from (Fr.rfl.S (by decide))) (by decide), Or.inl ⟨rfl, rfl⟩, Or.inl ⟨by omega, rfl, fun j => rs_fr (show Fr [0] [] [] σ (sS 0 0 σ) from (Fr.rfl.S (by decide))) (by decide)⟩, Or.inl ⟨by omega, rfl⟩, Or.inl ⟨by omega, rfl⟩⟩)
end
