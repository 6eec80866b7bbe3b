theorem tw1 {w : Cond} (h : w ∈ tables_1_1) : w ∈ lw_tbl := List.mem_append_right _ (List.mem_append_left _ h)
theorem tw2 {w : Cond} (h : w ∈ tables_1_2) : w ∈ lw_tbl := List.mem_append_right _ (List.mem_append_right _ (List.mem_append_left _ h))
theorem tw3 {w : Cond} (h : w ∈ tables_1_3) : w ∈ lw_tbl := List.mem_append_right _ (List.mem_append_right _ (List.mem_append_right _ (List.mem_append_left _ h)))
theorem tw4 {w : Cond} (h : w ∈ tables_1_4) : w ∈ lw_tbl := List.mem_append_right _ (List.mem_append_right _ (List.mem_append_right _ (List.mem_append_right _ (List.mem_append_left _ h))))
theorem tw5 {w : Cond} (h : w ∈ tables_1_5) : w ∈ lw_tbl := List.mem_append_right _ (List.mem_append_right _ (List.mem_append_right _ (List.mem_append_right _ (List.mem_append_right _ (List.mem_append_left _ h)))))
theorem tw6 {w : Cond} (h : w ∈ tables_1_6) : w ∈ lw_tbl := List.mem_append_right _ (List.mem_append_right _ (List.mem_append_right _ (List.mem_append_right _ (List.mem_append_right _ (List.mem_append_right _ (List.mem_append_left _ h))))))
theorem tw7 {w : Cond} (h : w ∈ tables_1_7) : w ∈ lw_tbl := List.mem_append_right _ (List.mem_append_right _ (List.mem_append_right _ (List.mem_append_right _ (List.mem_append_right _ (List.mem_append_right _ (List.mem_append_right _ (List.mem_append_left _ h)))))))
theorem tw8 {w : Cond} (h : w ∈ tables_1_8) : w ∈ lw_tbl := List.mem_append_right _ (List.mem_append_right _ (List.mem_append_right _ (List.mem_append_right _ (List.mem_append_right _ (List.mem_append_right _ (List.mem_append_right _ (List.mem_append_right _ (List.mem_append_left _ h))))))))
theorem tw9 {w : Cond} (h : w ∈ tables_1_9) : w ∈ lw_tbl := List.mem_append_right _ (List.mem_append_right _ (List.mem_append_right _ (List.mem_append_right _ (List.mem_append_right _ (List.mem_append_right _ (List.mem_append_right _ (List.mem_append_right _ (List.mem_append_right _ (List.mem_append_left _ h)))))))))
theorem tw10 {w : Cond} (h : w ∈ tables_1_10) : w ∈ lw_tbl := List.mem_append_right _ (List.mem_append_right _ (List.mem_append_right _ (List.mem_append_right _ (List.mem_append_right _ (List.mem_append_right _ (List.mem_append_right _ (List.mem_append_right _ (List.mem_append_right _ (List.mem_append_right _ h)))))))))
theorem lt_aC : Cond.arrayOver (.object "LineKeeper$Code") ∈ lw_tbl := tw1 (List.mem_of_getElem? (i := 31) rfl)
theorem lt_aI : Cond.arrayOver (.array .int) ∈ lw_tbl := tw2 (List.mem_of_getElem? (i := 6) rfl)
theorem lt_sr : Cond.stringRef "LineKeeperModel" 235 "(){},;=<+-*" ∈ lw_tbl := tw8 (List.mem_of_getElem? (i := 65) rfl)
theorem lt_cs : Cond.laysStatic "java/lang/String" "COMPACT_STRINGS" "Z" ∈ lw_tbl := tw8 (List.mem_of_getElem? (i := 79) rfl)
theorem lt_csi : Cond.initialized "java/lang/String" ∈ lw_tbl := tw1 (List.mem_of_getElem? (i := 16) rfl)
theorem lt_wk : Cond.laysStatic "LineKeeper$Tokens" "WORD_KEYS" "[I" ∈ lw_tbl := tw3 (List.mem_of_getElem? (i := 44) rfl)
theorem lt_wki : Cond.initialized "LineKeeper$Tokens" ∈ lw_tbl := tw1 (List.mem_of_getElem? (i := 3) rfl)
theorem lt_sg : Cond.laysStatic "LineKeeper$Tokens" "SIGNS" "[C" ∈ lw_tbl := tw3 (List.mem_of_getElem? (i := 49) rfl)
theorem lt_sgi : Cond.initialized "LineKeeper$Tokens" ∈ lw_tbl := tw1 (List.mem_of_getElem? (i := 3) rfl)
theorem lt_ak : Cond.laysStatic "LineKeeper" "ASKED" "[I" ∈ lw_tbl := tw4 (List.mem_of_getElem? (i := 90) rfl)
theorem lt_aki : Cond.initialized "LineKeeper" ∈ lw_tbl := tw1 (List.mem_of_getElem? (i := 1) rfl)
def NPq (q : String × Nat × MethodName × String) : Prop := Cond.methodLinkNest q.1 q.2.1 q.2.2.1 q.2.2.2 ∈ lw_tbl
theorem np_c {x : String × Nat × MethodName × String} {l : List (String × Nat × MethodName × String)} (h : NPq x) (k : ∀ y ∈ l, NPq y) : ∀ y ∈ x :: l, NPq y := fun y hy => by
  rcases List.mem_cons.mp hy with e | h2
  · rw [e]; exact h
  · exact k y h2
theorem nn_0 : NPq (RX5, 11, yX9_init, "LineKeeper") := tw1 (List.mem_of_getElem? (i := 40) rfl)
theorem nn_1 : NPq (RX5, 46, yX1_init, "LineKeeper") := tw1 (List.mem_of_getElem? (i := 73) rfl)
theorem nn_2 : NPq (RX11, 31, yX3_init, "LineKeeper") := tw1 (List.mem_of_getElem? (i := 216) rfl)
theorem nn_3 : NPq (RX11, 38, yX10_init, "LineKeeper") := tw2 (List.mem_of_getElem? (i := 1) rfl)
theorem nn_4 : NPq (RX11, 49, yX6_init, "LineKeeper") := tw2 (List.mem_of_getElem? (i := 31) rfl)
theorem nn_5 : NPq (RX11, 77, yX1_init, "LineKeeper") := tw2 (List.mem_of_getElem? (i := 126) rfl)
theorem nn_6 : NPq (RX9, 51, yX11_put, "LineKeeper") := tw3 (List.mem_of_getElem? (i := 54) rfl)
theorem nn_7 : NPq (RX5, 231, yX11_at, "LineKeeper") := tw3 (List.mem_of_getElem? (i := 77) rfl)
theorem nn_8 : NPq (RX1, 49, yX11_put, "LineKeeper") := tw3 (List.mem_of_getElem? (i := 90) rfl)
theorem nn_9 : NPq (RX5, 129, yX11_put, "LineKeeper") := tw3 (List.mem_of_getElem? (i := 91) rfl)
theorem nn_10 : NPq (RX9, 73, yX11_at, "LineKeeper") := tw3 (List.mem_of_getElem? (i := 154) rfl)
theorem nn_11 : NPq (RX1, 100, yX11_isPure, "LineKeeper") := tw4 (List.mem_of_getElem? (i := 2) rfl)
theorem nn_12 : NPq (RX10, 26, yX11_put, "LineKeeper") := tw4 (List.mem_of_getElem? (i := 46) rfl)
theorem nn_13 : NPq (RX1, 107, yX11_isAct, "LineKeeper") := tw4 (List.mem_of_getElem? (i := 67) rfl)
theorem nn_14 : NPq (RX1, 53, yX11_at, "LineKeeper") := tw4 (List.mem_of_getElem? (i := 74) rfl)
theorem nn_15 : NPq (RX10, 40, yX11_at, "LineKeeper") := tw4 (List.mem_of_getElem? (i := 138) rfl)
theorem nn_16 : NPq (RX6, 63, yX11_at, "LineKeeper") := tw4 (List.mem_of_getElem? (i := 194) rfl)
theorem nn_17 : NPq (RX6, 42, yX11_isAct, "LineKeeper") := tw4 (List.mem_of_getElem? (i := 196) rfl)
theorem nn_18 : NPq (RX6, 74, yX11_isFive, "LineKeeper") := tw4 (List.mem_of_getElem? (i := 206) rfl)
theorem nn_19 : NPq (RX6, 77, yX11_reckon, "LineKeeper") := tw4 (List.mem_of_getElem? (i := 209) rfl)
theorem nn_20 : NPq (RX6, 88, yX11_put, "LineKeeper") := tw4 (List.mem_of_getElem? (i := 221) rfl)
theorem nn_21 : NPq (RX3, 84, yX11_at, "LineKeeper") := tw5 (List.mem_of_getElem? (i := 11) rfl)
theorem nn_22 : NPq (RX3, 103, yX11_put, "LineKeeper") := tw5 (List.mem_of_getElem? (i := 12) rfl)
theorem nn_23 : NPq (RX2, 57, yX11_isAct, "LineKeeper") := tw5 (List.mem_of_getElem? (i := 19) rfl)
theorem nn_24 : NPq (RX3, 35, yX11_clear, "LineKeeper") := tw5 (List.mem_of_getElem? (i := 26) rfl)
theorem nn_25 : NPq (RX3, 56, yX11_bitsAt, "LineKeeper") := tw5 (List.mem_of_getElem? (i := 37) rfl)
theorem nn_26 : NPq (RX3, 60, yX11_putBits, "LineKeeper") := tw5 (List.mem_of_getElem? (i := 40) rfl)
theorem nn_27 : NPq (RX3, 67, yX11_exclude, "LineKeeper") := tw5 (List.mem_of_getElem? (i := 47) rfl)
theorem nn_28 : NPq (RX3, 74, yX11_isAct, "LineKeeper") := tw5 (List.mem_of_getElem? (i := 54) rfl)
theorem nn_29 : NPq (RX3, 81, yX11_include, "LineKeeper") := tw5 (List.mem_of_getElem? (i := 56) rfl)
theorem nn_30 : NPq (RX2, 60, yX11_isPure, "LineKeeper") := tw5 (List.mem_of_getElem? (i := 63) rfl)
theorem nn_31 : NPq (RX3, 25, yX11_has, "LineKeeper") := tw5 (List.mem_of_getElem? (i := 68) rfl)
theorem nn_32 : NPq (RX6, 123, yX11_clear, "LineKeeper") := tw5 (List.mem_of_getElem? (i := 102) rfl)
theorem nn_33 : NPq (RX6, 127, yX11_include, "LineKeeper") := tw5 (List.mem_of_getElem? (i := 103) rfl)
theorem nn_34 : NPq (RX6, 111, yX11_isPure, "LineKeeper") := tw5 (List.mem_of_getElem? (i := 104) rfl)
theorem nn_35 : NPq (RX6, 131, yX11_has, "LineKeeper") := tw5 (List.mem_of_getElem? (i := 109) rfl)
theorem nn_36 : NPq (RX4, 118, yX11_has, "LineKeeper") := tw5 (List.mem_of_getElem? (i := 159) rfl)
theorem nn_37 : NPq (RX4, 81, yX11_put, "LineKeeper") := tw5 (List.mem_of_getElem? (i := 161) rfl)
theorem nn_38 : NPq (RX4, 128, yX11_at, "LineKeeper") := tw5 (List.mem_of_getElem? (i := 166) rfl)
theorem nn_39 : NPq (RX4, 164, yX11_isPure, "LineKeeper") := tw5 (List.mem_of_getElem? (i := 198) rfl)
theorem nn_40 : NPq (RX8, 104, yX11_include, "LineKeeper") := tw5 (List.mem_of_getElem? (i := 212) rfl)
theorem nn_41 : NPq (RX8, 108, yX11_clear, "LineKeeper") := tw5 (List.mem_of_getElem? (i := 217) rfl)
theorem nn_42 : NPq (RX8, 112, yX11_has, "LineKeeper") := tw5 (List.mem_of_getElem? (i := 218) rfl)
theorem nn_43 : NPq (RX8, 132, yX11_bitsAt, "LineKeeper") := tw5 (List.mem_of_getElem? (i := 232) rfl)
theorem nn_44 : NPq (RX8, 128, yX11_put, "LineKeeper") := tw5 (List.mem_of_getElem? (i := 233) rfl)
theorem nn_45 : NPq (RX8, 74, yX11_at, "LineKeeper") := tw6 (List.mem_of_getElem? (i := 0) rfl)
theorem nn_46 : NPq (RX8, 152, yX11_putBits, "LineKeeper") := tw6 (List.mem_of_getElem? (i := 6) rfl)
theorem nn_47 : NPq (RX7, 61, yX11_put, "LineKeeper") := tw6 (List.mem_of_getElem? (i := 41) rfl)
theorem nn_48 : NPq (RX7, 91, yX11_at, "LineKeeper") := tw6 (List.mem_of_getElem? (i := 64) rfl)
theorem nn_49 : NPq (RX7, 132, yX11_isPure, "LineKeeper") := tw6 (List.mem_of_getElem? (i := 91) rfl)
theorem nn_50 : NPq (RX7, 136, yX11_reckon, "LineKeeper") := tw6 (List.mem_of_getElem? (i := 92) rfl)
theorem nst_in : ∀ q ∈ nst_M, NPq q := (np_c nn_0 (np_c nn_1 (np_c nn_2 (np_c nn_3 (np_c nn_4 (np_c nn_5 (np_c nn_6 (np_c nn_7 (np_c nn_8 (np_c nn_9 (np_c nn_10 (np_c nn_11 (np_c nn_12 (np_c nn_13 (np_c nn_14 (np_c nn_15 (np_c nn_16 (np_c nn_17 (np_c nn_18 (np_c nn_19 (np_c nn_20 (np_c nn_21 (np_c nn_22 (np_c nn_23 (np_c nn_24 (np_c nn_25 (np_c nn_26 (np_c nn_27 (np_c nn_28 (np_c nn_29 (np_c nn_30 (np_c nn_31 (np_c nn_32 (np_c nn_33 (np_c nn_34 (np_c nn_35 (np_c nn_36 (np_c nn_37 (np_c nn_38 (np_c nn_39 (np_c nn_40 (np_c nn_41 (np_c nn_42 (np_c nn_43 (np_c nn_44 (np_c nn_45 (np_c nn_46 (np_c nn_47 (np_c nn_48 (np_c nn_49 (np_c nn_50 (fun y h => by cases h))))))))))))))))))))))))))))))))))))))))))))))))))))
set_option maxHeartbeats 4000000 in
set_option maxRecDepth 100000 in
theorem lw_ks {s : State} {b : Nat} (hts : ∀ w ∈ lw_tbl, w.before #[Value.ref b] s = true) (hgv : (Jvm.Cond.and given_1 narrow_1).before #[Value.ref b] s = true) : pKs s.heap.size s := by
  have hs := flat_of_before _ hgv
  have hA : ∀ a : Nat, a < s.heap.size → ¬ pA s.heap.size a := fun a h => Nat.not_le.mpr h
  have el : ∀ j : Nat, j < 11 → (Cond.eq (.elem (Term.field (Term.string "LineKeeperModel" 235) "java/lang/String" "value" "[B") (.int (Int32.ofNat j))) (.int (sgB.getD j 0))).before #[Value.ref b] s = true := fun j hj => match j, hj with | 0, _ => hs _ (by decide +kernel) | 1, _ => hs _ (by decide +kernel) | 2, _ => hs _ (by decide +kernel) | 3, _ => hs _ (by decide +kernel) | 4, _ => hs _ (by decide +kernel) | 5, _ => hs _ (by decide +kernel) | 6, _ => hs _ (by decide +kernel) | 7, _ => hs _ (by decide +kernel) | 8, _ => hs _ (by decide +kernel) | 9, _ => hs _ (by decide +kernel) | 10, _ => hs _ (by decide +kernel) | j + 11, h => absurd h (by omega)
  obtain ⟨adK, adV, k1, k2⟩ := vk_Sof (args := #[Value.ref b]) (s := s) (N := 1) (tm := fun _ => Term.string "LineKeeperModel" 235) (len := [11]) (byt := [sgB]) (A := pA s.heap.size) (fun i hi => by
      obtain rfl : i = 0 := by omega
      decide) (fun i hi => hs _ (by decide +kernel)) (fun i hi => hs _ (by decide +kernel)) (fun i hi => hs _ (by decide +kernel)) (fun i hi => by
      obtain rfl : i = 0 := by omega
      exact hs _ (by decide +kernel)) (fun i hi => by
      obtain rfl : i = 0 := by omega
      exact el) (fun i j hi hj hij => absurd (show i = j by omega) hij) hA
  have ewk : ∀ j : Nat, j < 5 → (Term.elem (Term.static "LineKeeper$Tokens" "WORD_KEYS" "[I") (.int (Int32.ofNat j))).eval #[Value.ref b] s none [] s = some (.int (wkI.getD j 0)) := fun j hj => match j, hj with | 0, _ => va_eqt (hs _ (by decide +kernel)) | 1, _ => va_eqt (hs _ (by decide +kernel)) | 2, _ => va_eqt (hs _ (by decide +kernel)) | 3, _ => va_eqt (hs _ (by decide +kernel)) | 4, _ => va_eqt (hs _ (by decide +kernel)) | j + 5, h => absurd h (by omega)
  obtain ⟨twk, hwk, Twk⟩ := va_Tof (args := #[Value.ref b]) (s := s) (tm := (Term.static "LineKeeper$Tokens" "WORD_KEYS" "[I")) (ty := .int) (N := 5) (f := fun j => .int (wkI.getD j 0)) (A := pA s.heap.size) (by decide) (hs _ (by decide +kernel)) (va_eqt (z := Int32.ofNat 5) (hs _ (by decide +kernel))) ewk hA
  have Zwk := va_Zof (A := pA s.heap.size) (hts _ lt_wk) (hts _ lt_wki) hwk hA
  have esg : ∀ j : Nat, j < 11 → (Term.elem (Term.static "LineKeeper$Tokens" "SIGNS" "[C") (.int (Int32.ofNat j))).eval #[Value.ref b] s none [] s = some (.int (sgB.getD j 0)) := fun j hj => match j, hj with | 0, _ => va_eqt (hs _ (by decide +kernel)) | 1, _ => va_eqt (hs _ (by decide +kernel)) | 2, _ => va_eqt (hs _ (by decide +kernel)) | 3, _ => va_eqt (hs _ (by decide +kernel)) | 4, _ => va_eqt (hs _ (by decide +kernel)) | 5, _ => va_eqt (hs _ (by decide +kernel)) | 6, _ => va_eqt (hs _ (by decide +kernel)) | 7, _ => va_eqt (hs _ (by decide +kernel)) | 8, _ => va_eqt (hs _ (by decide +kernel)) | 9, _ => va_eqt (hs _ (by decide +kernel)) | 10, _ => va_eqt (hs _ (by decide +kernel)) | j + 11, h => absurd h (by omega)
  obtain ⟨tsg, hsg, Tsg⟩ := va_Tof (args := #[Value.ref b]) (s := s) (tm := (Term.static "LineKeeper$Tokens" "SIGNS" "[C")) (ty := .char) (N := 11) (f := fun j => .int (sgB.getD j 0)) (A := pA s.heap.size) (by decide) (hs _ (by decide +kernel)) (va_eqt (z := Int32.ofNat 11) (hs _ (by decide +kernel))) esg hA
  have Zsg := va_Zof (A := pA s.heap.size) (hts _ lt_sg) (hts _ lt_sgi) hsg hA
  have eak : ∀ j : Nat, j < 8 → (Term.elem (Term.static "LineKeeper" "ASKED" "[I") (.int (Int32.ofNat j))).eval #[Value.ref b] s none [] s = some (.int (akI.getD j 0)) := fun j hj => match j, hj with | 0, _ => va_eqt (hs _ (by decide +kernel)) | 1, _ => va_eqt (hs _ (by decide +kernel)) | 2, _ => va_eqt (hs _ (by decide +kernel)) | 3, _ => va_eqt (hs _ (by decide +kernel)) | 4, _ => va_eqt (hs _ (by decide +kernel)) | 5, _ => va_eqt (hs _ (by decide +kernel)) | 6, _ => va_eqt (hs _ (by decide +kernel)) | 7, _ => va_eqt (hs _ (by decide +kernel)) | j + 8, h => absurd h (by omega)
  obtain ⟨tak, hak, Tak⟩ := va_Tof (args := #[Value.ref b]) (s := s) (tm := (Term.static "LineKeeper" "ASKED" "[I")) (ty := .int) (N := 8) (f := fun j => .int (akI.getD j 0)) (A := pA s.heap.size) (by decide) (hs _ (by decide +kernel)) (va_eqt (z := Int32.ofNat 8) (hs _ (by decide +kernel))) eak hA
  have Zak := va_Zof (A := pA s.heap.size) (hts _ lt_ak) (hts _ lt_aki) hak hA
  have Zcs := va_Zof (A := pA s.heap.size) (C := "java/lang/String") (n := "COMPACT_STRINGS") (d := "Z") (v := .int 1) (hts _ lt_cs) (hts _ lt_csi) (va_eqi (hs _ (by decide +kernel))) hA
  exact ⟨⟨adK, adV, k1, vk_R.of (hts _ lt_sr) (k2 0 (by decide))⟩, Zcs, ⟨twk, Zwk, Twk⟩, ⟨tsg, Zsg, Tsg⟩, tak, Zak, Tak⟩
