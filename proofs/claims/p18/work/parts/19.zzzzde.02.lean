section
set_option maxHeartbeats 1000000 in
set_option maxRecDepth 20000 in
theorem k_X11_known_t9 (d : Nat) {T : CT} {σ : MS} {a : Nat} {k : Int} {m : Int} {rn : Nat} {tl : Nat} {xa : Nat} {xb : Nat} {y : Nat} {c : Nat} (ha : OB T a 11) (h_k : -2147483648 ≤ k ∧ k ≤ 2147483647) (h_m : -2147483648 ≤ m ∧ m ≤ 2147483647) (hw : WT T σ) (hrn : σ.2.1 103 a = (rn : Int)) (htl : σ.2.1 102 a = (tl : Int)) (hxa : σ.2.1 59 rn = (xa : Int)) (hxb : σ.2.1 60 rn = (xb : Int)) (hy : σ.2.1 55 rn = (y : Int)) (hc : jC σ y (jA T xa (σ.2.1 70 rn) σ) = (c : Int)) (h71 : 0 ≤ σ.2.1 71 rn ∧ σ.2.1 71 rn ≤ 12) (h60 : 0 ≤ jA T xb (σ.2.1 70 rn) σ ∧ jA T xb (σ.2.1 70 rn) σ ≤ 200) (hm : 0 ≤ m ∧ m ≤ 12) (hid : 0 ≤ jID T σ rn xa xb c m ∧ jID T σ rn xa xb c m ≤ 1000) : Tn (d + 6) m_X11_known 49 T σ [(0, .ref a), (1, .int (iI k)), (2, .int (iI m))] [] (fun ro T2 σ2 => ∃ v : Int, ro = some (.int (iI v)) ∧ T = T2 ∧ σ = σ2 ∧ (-2147483648 ≤ v ∧ v ≤ 2147483647) ∧ (v = jKW (jWO T σ c (adN σ 5 c) (jID T σ rn xa xb c m)))) := by
  refine tn_aload_n dX11_known_49 rfl 0 rfl ?_
  have hk3 : (T tl).1 = 40 := ob_of (wf_102 hw ha) htl
  have hk3o : OB T tl 10 := ⟨by omega, by rw [hk3]; rfl, by omega⟩
  refine tn_getR (ci := 11) (i := 7) (n := 102) (x := tl) dX11_known_50 rfl lay_11 (by decide) fl11_39 ha rfl rfl (htl) ?_
  refine tn_aload_n dX11_known_53 rfl 0 rfl ?_
  have hk7 : (T rn).1 = 37 := ob_of (wf_103 hw ha) hrn
  have hk7o : OB T rn 7 := ⟨by omega, by rw [hk7]; rfl, by omega⟩
  refine tn_getR (ci := 11) (i := 8) (n := 103) (x := rn) dX11_known_54 rfl lay_11 (by decide) fl11_83 ha rfl rfl (hrn) ?_
  obtain ⟨hk11, hl12⟩ : AR T xa 15 9 9 := ar_of (wf_59 hw hk7o) hxa
  have hk11i : IA T xa := by unfold IA; omega
  obtain ⟨hl16, hk15a, hk15b⟩ := ex_at (wf_55 hw hk7o) hy
  have hk15i : (T y).1 = 4 ∨ (T y).1 = 5 := by omega
  have hk15c : RROW T rn y := ⟨hk15a, hk15b⟩
  clear hk15a hk15b
  refine tn_callV (M := m_X11_known) (pc := 57) (ix := 230) (ci := 7) (M' := m_X7_foundCode) (As := []) (rest := [.ref tl]) dX11_known_57 ok_X7_foundCode im_X7_foundCode se_X7_foundCode ml11_230 np_X7_foundCode rfl rfl hk7o rfl (Nat.le_of_ble_eq_true rfl) (Nat.le_of_ble_eq_true rfl) rfl (k_X7_foundCode_j (d + 3) (T := T) (σ := σ) (a := rn) (xa := xa) (y := y) hk7o hw (hxa) (hy)) (fun r17 T19 σ18 gt20 hp => ?_)
  obtain ⟨v23, rfl, rfl, rfl, rv24, f21, f22⟩ := hp
  clear gt20
  rcases rv24 with rv24 | ⟨xq25, rfl, hk26⟩
  · exact absurd (JW.neg f22 rv24) (by omega)
  · show Tn _ _ 60 T σ [(0, .ref a), (1, .int (iI k)), (2, .int (iI m))] (vl true (xq25 : Int) :: [.ref tl]) _
    rw [vl_ref rfl]
    have hk26o : OB T xq25 1 := hk26.1
    refine tn_aload_n dX11_known_60 rfl 0 rfl ?_
    refine tn_getR (ci := 11) (i := 8) (n := 103) (x := rn) dX11_known_61 rfl lay_11 (by decide) fl11_83 ha rfl rfl (hrn) ?_
    refine tn_aload_n dX11_known_64 rfl 0 rfl ?_
    refine tn_getR (ci := 11) (i := 7) (n := 102) (x := tl) dX11_known_65 rfl lay_11 (by decide) fl11_39 ha rfl rfl (htl) ?_
    refine tn_iload_n dX11_known_68 rfl 2 rfl ?_
    obtain ⟨hk29, hl30⟩ : AR T xb 1 9 9 := ar_of (wf_60 hw hk7o) hxb
    have hk29i : IA T xb := by unfold IA; omega
    refine tn_callV (M := m_X11_known) (pc := 69) (ix := 234) (ci := 7) (M' := m_X7_foundId) (As := [.ref tl, .int (iI m)]) (rest := [.ref xq25, .ref tl]) dX11_known_69 ok_X7_foundId im_X7_foundId se_X7_foundId ml11_234 np_X7_foundId rfl rfl hk7o rfl (Nat.le_of_ble_eq_true rfl) (Nat.le_of_ble_eq_true rfl) rfl (k_X7_foundId_t (d + 1) (T := T) (σ := σ) (a := rn) (p1 := tl) (p2 := m) (xa := xa) (xb := xb) (y := y) (c := c) hk7o hk3o (by omega) hw (hxa) (hxb) (hy) hc h71 h60 hm) (fun r31 T33 σ32 gt34 hp => ?_)
    obtain ⟨v37, rfl, rfl, rfl, f35, f36⟩ := hp
    clear gt34
    show Tn _ _ 72 T σ [(0, .ref a), (1, .int (iI k)), (2, .int (iI m))] [.int (iI v37), .ref xq25, .ref tl] _
    obtain ⟨xq38, hx39, hl41, hk40a, hk40b⟩ := wf_5 hw hk26o
    have hk40i : IA T xq38 := by unfold IA; omega
    have hk40c : CELL T xq25 xq38 := ⟨hk40a, hk40b⟩
    clear hk40a hk40b
    refine tn_callV (M := m_X11_known) (pc := 72) (ix := 187) (ci := 10) (M' := m_X10_whereOf) (As := [.ref xq25, .int (iI v37)]) (rest := []) dX11_known_72 ok_X10_whereOf im_X10_whereOf se_X10_whereOf ml11_187 np_X10_whereOf rfl rfl hk3o rfl (Nat.le_of_ble_eq_true rfl) (Nat.le_of_ble_eq_true rfl) rfl (k_X10_whereOf_t (d + 3) (T := T) (σ := σ) (a := tl) (c := xq25) (i := v37) (x := xq38) hk3o hk26o (by omega) hw (hx39) (by rw [f36]; exact hid)) (fun r42 T44 σ43 gt45 hp => ?_)
    obtain ⟨v48, rfl, rfl, rfl, f46, f47⟩ := hp
    clear gt45
    show Tn _ _ 75 T σ [(0, .ref a), (1, .int (iI k)), (2, .int (iI m))] [.int (iI v48)] _
    refine tn_istore_n (L' := [(3, .int (iI v48)), (0, .ref a), (1, .int (iI k)), (2, .int (iI m))]) dX11_known_75 rfl (by decide) rfl ?_
    refine tn_iload_n dX11_known_76 rfl 0 rfl ?_
    refine tn_bipush dX11_known_77 (by decide) ?_
    refine tn_icmp_lt (tgt := 86) dX11_known_79 (by decide) ⟨by omega, by omega⟩ ⟨by decide, by decide⟩ (fun h49 => ?_) (fun h49 => ?_)
    · refine tn_iconst dX11_known_86 ?_
      exact tn_iret rfl dX11_known_87 ⟨_, rfl, rfl, rfl, by omega, by have ex : xq25 = c := (by have z9 := JW.pos f22 (Int.natCast_nonneg _); omega); rw [← ex]; have e5 : adN σ 5 xq25 = xq38 := adN_of hx39; unfold jKW; have ei := f36; rw [← ex] at ei; rw [e5, ← ei, ← f47]; rw [if_neg (by omega)]⟩
    · refine tn_iload_n dX11_known_82 rfl 0 rfl ?_
      refine tn_goto (tgt := 87) dX11_known_83 (by decide) ?_
      exact tn_iret rfl dX11_known_87 ⟨_, rfl, rfl, rfl, by omega, by have ex : xq25 = c := (by have z9 := JW.pos f22 (Int.natCast_nonneg _); omega); rw [← ex]; have e5 : adN σ 5 xq25 = xq38 := adN_of hx39; unfold jKW; have ei := f36; rw [← ex] at ei; rw [e5, ← ei, ← f47]; rw [if_pos (by omega)]⟩
end
