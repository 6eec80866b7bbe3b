set_option maxHeartbeats 1000000 in
set_option maxRecDepth 20000 in
theorem k_X7_foundNames_j (d : Nat) {T : CT} {σ : MS} {a : Nat} {xa : Nat} {y : Nat} (ha : OB T a 7) (hw : WT T σ) (hxa : σ.2.1 59 a = (xa : Int)) (hy : σ.2.1 55 a = (y : Int)) : Tn (d + 3) m_X7_foundNames 0 T σ [(0, .ref a)] [] (fun ro T2 σ2 => ∃ v : Int, ro = some (.int (iI v)) ∧ T = T2 ∧ σ = σ2 ∧ (-2147483648 ≤ v ∧ v ≤ 2147483647) ∧ (JFR T σ a xa y 14 0 v)) := by
  refine tn_aload_n dX7_foundNames_0 rfl 0 rfl ?_
  obtain ⟨hk3, hl4⟩ : AR T xa 15 9 9 := ar_of (wf_59 hw ha) hxa
  have hk3i : IA T xa := by unfold IA; omega
  obtain ⟨hl8, hk7a, hk7b⟩ := ex_at (wf_55 hw ha) hy
  have hk7i : (T y).1 = 4 ∨ (T y).1 = 5 := by omega
  have hk7c : RROW T a y := ⟨hk7a, hk7b⟩
  clear hk7a hk7b
  refine tn_callV (M := m_X7_foundNames) (pc := 1) (ix := 152) (ci := 7) (M' := m_X7_foundCode) (As := []) (rest := []) dX7_foundNames_1 ok_X7_foundCode im_X7_foundCode se_X7_foundCode ml7_152 np_X7_foundCode rfl rfl ha rfl (Nat.le_of_ble_eq_true rfl) (Nat.le_of_ble_eq_true rfl) rfl (k_X7_foundCode_j (d) (T := T) (σ := σ) (a := a) (xa := xa) (y := y) ha hw (hxa) (hy)) (fun r9 T11 σ10 gt12 hp => ?_)
  obtain ⟨v15, rfl, rfl, rfl, rv16, f13, f14⟩ := hp
  clear gt12
  clear f13
  rcases rv16 with rv16 | ⟨xq17, rfl, hk18⟩
  · show Tn _ _ 4 T σ [(0, .ref a)] (vl true v15 :: []) _
    rw [vl_null rv16]
    refine tn_astore_nN (L' := [(1, .null), (0, .ref a)]) dX7_foundNames_4 rfl (by decide) rfl ?_
    refine tn_aload_nN dX7_foundNames_5 rfl 0 rfl ?_
    refine tn_ifnonnullN dX7_foundNames_6 ?_
    refine tn_iconst dX7_foundNames_9 ?_
    refine tn_goto (tgt := 24) dX7_foundNames_10 (by decide) ?_
    exact tn_iret rfl dX7_foundNames_24 ⟨_, rfl, rfl, rfl, by omega, Or.inl ⟨f14.neg (by assumption), rfl⟩⟩
  · show Tn _ _ 4 T σ [(0, .ref a)] (vl true (xq17 : Int) :: []) _
    rw [vl_ref rfl]
    have hk18o : OB T xq17 1 := hk18.1
    refine tn_astore_n (L' := [(1, .ref xq17), (0, .ref a)]) dX7_foundNames_4 rfl (by decide) rfl ?_
    refine tn_aload_n dX7_foundNames_5 rfl 0 rfl ?_
    refine tn_ifnonnull (tgt := 13) dX7_foundNames_6 (by decide) ?_
    refine tn_aload_n dX7_foundNames_13 rfl 0 rfl ?_
    obtain ⟨xq19, hx20, hk21, hl22⟩ : ∃ x : Nat, σ.2.1 14 xq17 = (x : Int) ∧ AR T x 11 12 12 := wf_14 hw hk18o
    have hk21i : IA T xq19 := by unfold IA; omega
    refine tn_getR (ci := 1) (i := 9) (n := 14) (x := xq19) dX7_foundNames_14 rfl lay_1 (by decide) fl7_159 hk18o rfl rfl (hx20) ?_
    refine tn_aload_n dX7_foundNames_17 rfl 1 rfl ?_
    refine tn_getI (ci := 7) (i := 16) (n := 71) (t := σ.2.1 71 a) dX7_foundNames_18 rfl lay_7 (by decide) fl7_146 ha rfl rfl (rfl) ?_
    have g23 : ((-2147483648 : Int) ≤ σ.2.1 71 a ∧ σ.2.1 71 a ≤ 2147483647) := wf_71 hw ha
    refine tn_callSN (M := m_X7_foundNames) (pc := 21) (ix := 91) (M' := m_X11_at) (As := [.ref xq19, .int (iI (σ.2.1 71 a))]) (rest := []) dX7_foundNames_21 ok_X11_at stt_X11_at nl7_91 np_X11_at rfl (Nat.le_of_ble_eq_true rfl) (Nat.le_of_ble_eq_true rfl) rfl (k_X11_at_j (d + 1) (T := T) (σ := σ) (x := xq19) (i := σ.2.1 71 a) hk21i (by omega) (by omega) hw ) (fun r24 T26 σ25 gt27 hp => ?_)
    obtain ⟨v31, rfl, rfl, rfl, f28, f29, f30⟩ := hp
    clear gt27
    clear f29
    show Tn _ _ 24 T σ [(1, .ref xq17), (0, .ref a)] [.int (iI v31)] _
    exact tn_iret rfl dX7_foundNames_24 ⟨_, rfl, rfl, rfl, by omega, Or.inr ⟨xq17, xq19, f14.pos (Int.natCast_nonneg _), hx20, f30⟩⟩
