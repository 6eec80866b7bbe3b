def w_k_in : List Cond := .code yX12_in cX12_in 3 (some .boolean) :: []
set_option maxHeartbeats 4000000 in
set_option maxRecDepth 100000 in
theorem k_in (l : Launch) (dC : Nat → ClassId) (dI : Nat → Nat → Nat) (p0 : Int32) (p1 : Int32) (p2 : Int32) (sz : Nat) : Met l yX12_in w_k_in { frames := 0, cells := 0, slots := 0, locals := 0 } (va_Pc [.int p0, .int p1, .int p2] (vx_pre dC dI [] [] sz)) (va_Qi (fun (r : Int32) (_ : Unit) => r = vx_bin p0 p1 p2) (fun _ t => vx_B dC dI (va_A [] sz) [] [] t) (va_A [] sz)) 0 0 (va_A [] sz) := by
  refine Met.ofW (cc := cX12_in) (maxL := 3) (ret := (some .boolean)) (by decide) rfl ?_
  intro p e s m args below meth c s₁ B hml hv
  obtain ⟨rfl, hsz, hP, hK, hD0, hN⟩ := hv
  have hx := B.exec
  have hb := B.bytes
  have hr := B.returns
  have hts := atoms_spec (ws := w_k_in) B.pre
  have hown : s.vm.findClass RX12 = some m.cls := findClass_of_methodNamed B.named
  have hlocks := B.notSynchronized
  subst hsz
  have hD := hD0.self (sz := s.heap.size)
  generalize hAe : va_A [] s.heap.size = A at hD ⊢
  have hA : ∀ q : Nat, s.heap.size ≤ q → A q := fun q h => by rw [← hAe]; exact Or.inr h
  obtain ⟨H, hHe⟩ : ∃ H, H = s.heap := ⟨_, rfl⟩
  rw [← hHe] at hP ⊢
  have hS : va_S A s.heap H [] := by rw [hHe]; exact va_S.rf
  have hl := lv_entry [.int p0, .int p1, .int p2] (n := 3) (Nat.le_of_ble_eq_true rfl)
  rw [lg_entry_eq]
  generalize (lg_sl [.int p0, .int p1, .int p2] ++ List.replicate (3 - (lg_sl [.int p0, .int p1, .int p2]).length) Slot.unset).toArray = ls at hl ⊢
  have hl : lv_has ls 3 [(0, .int p0), (1, .int p1), (2, .int p2)] := hl
  refine lv_iload_n hx hb dX12_in_0 rfl (lv_at hl 0 rfl) ?_
  refine lv_iload_n hx hb dX12_in_1 rfl (lv_at hl 1 rfl) ?_
  refine lv_icmp_lt (tgt := 14) hx hb dX12_in_2 (by decide) (fun c1 => ?_) (fun c1 => ?_)
  · refine lv_iconst (v := 0) hx hb dX12_in_14 (by decide) ?_
    have hP9 := hP.sub (ws' := []) [] rfl
    have hD9 := hD.sub (ws' := []) [] (by decide) rfl
    have hK9 := hK.sub (tys' := []) [] rfl
    exact W.zret (ty := .boolean) (v := 0) hx hb hr rfl (fun t ht hW => ⟨⟨0, (), rfl, vx_bin_a c1, by rw [ht]; exact hP9, va_K.moved hW.alike hK9, hD9⟩, hS.F ht⟩) hS.2.2 dX12_in_15
  · refine lv_iload_n hx hb dX12_in_5 rfl (lv_at hl 0 rfl) ?_
    refine lv_iload_n hx hb dX12_in_6 rfl (lv_at hl 2 rfl) ?_
    refine lv_icmp_gt (tgt := 14) hx hb dX12_in_7 (by decide) (fun c2 => ?_) (fun c2 => ?_)
    · refine lv_iconst (v := 0) hx hb dX12_in_14 (by decide) ?_
      have hP9 := hP.sub (ws' := []) [] rfl
      have hD9 := hD.sub (ws' := []) [] (by decide) rfl
      have hK9 := hK.sub (tys' := []) [] rfl
      exact W.zret (ty := .boolean) (v := 0) hx hb hr rfl (fun t ht hW => ⟨⟨0, (), rfl, vx_bin_b c1 c2, by rw [ht]; exact hP9, va_K.moved hW.alike hK9, hD9⟩, hS.F ht⟩) hS.2.2 dX12_in_15
    · refine lv_iconst (v := 1) hx hb dX12_in_10 (by decide) ?_
      refine lv_goto (tgt := 15) hx hb dX12_in_11 (by decide) ?_
      have hP9 := hP.sub (ws' := []) [] rfl
      have hD9 := hD.sub (ws' := []) [] (by decide) rfl
      have hK9 := hK.sub (tys' := []) [] rfl
      exact W.zret (ty := .boolean) (v := 1) hx hb hr rfl (fun t ht hW => ⟨⟨1, (), rfl, vx_bin_c c1 c2, by rw [ht]; exact hP9, va_K.moved hW.alike hK9, hD9⟩, hS.F ht⟩) hS.2.2 dX12_in_15

def w_k_X12_four_0 : List Cond := .code yX12_four cX12_four 3 none :: ([.fieldLink RX12 7 "LineKeeperModel" "tape" "[B", .fieldLink RX12 382 "LineKeeperModel" "size" "I"] ++ wsX120)
theorem in_k_X12_four_0_12 : ∀ w ∈ wsX120, w ∈ w_k_X12_four_0 := fun _ h => List.mem_cons_of_mem _ (List.mem_append_right _ h)
set_option maxHeartbeats 4000000 in
set_option maxRecDepth 100000 in
theorem k_X12_four_0 (l : Launch) (dC : Nat → ClassId) (dI : Nat → Nat → Nat) (h701 : Nat) (x701 : Int32) (g701 : Nat → Nat) (cA701 : ClassId) (f701 : Nat → Int32) (sz : Nat) : Met l yX12_four w_k_X12_four_0 { frames := 0, cells := 0, slots := 0, locals := 0 } (va_Pc [.ref h701, .int x701] (vx_pre dC dI [(h701, .inr (12, fsM g701)), ((g701 1), .inl (cA701, 1200, .inl f701))] [(cA701, .byte)] sz)) (va_Qv (fun _ : Unit => True) (fun _ t => ∃ (f901 : Nat → Int32), vx_B dC dI (va_A [(h701, .inr (12, fsM g701)), ((g701 1), .inl (cA701, 1200, .inl f701))] sz) [(h701, .inr (12, (fsM g701).set 2 (.int 4))), ((g701 1), .inl (cA701, 1200, .inl f901))] [(cA701, .byte)] t) (va_A [(h701, .inr (12, fsM g701)), ((g701 1), .inl (cA701, 1200, .inl f701))] sz)) 0 0 (va_A [(h701, .inr (12, fsM g701)), ((g701 1), .inl (cA701, 1200, .inl f701))] sz) := by
  refine Met.ofW (cc := cX12_four) (maxL := 3) (ret := none) (by decide) rfl ?_
  intro p e s m args below meth c s₁ B hml hv
  obtain ⟨rfl, hsz, hP, hK, hD0, hN⟩ := hv
  have hx := B.exec
  have hb := B.bytes
  have hr := B.returns
  have hts := atoms_spec (ws := w_k_X12_four_0) B.pre
  have hown : s.vm.findClass RX12 = some m.cls := findClass_of_methodNamed B.named
  have hlocks := B.notSynchronized
  subst hsz
  have hD := hD0.self (sz := s.heap.size)
  generalize hAe : va_A [(h701, .inr (12, fsM g701)), ((g701 1), .inl (cA701, 1200, .inl f701))] s.heap.size = A at hD ⊢
  have hA : ∀ q : Nat, s.heap.size ≤ q → A q := fun q h => by rw [← hAe]; exact Or.inr h
  obtain ⟨H, hHe⟩ : ∃ H, H = s.heap := ⟨_, rfl⟩
  rw [← hHe] at hP ⊢
  have hS : va_S A s.heap H [] := by rw [hHe]; exact va_S.rf
  have hl := lv_entry [.ref h701, .int x701] (n := 3) (Nat.le_of_ble_eq_true rfl)
  rw [lg_entry_eq]
  generalize (lg_sl [.ref h701, .int x701] ++ List.replicate (3 - (lg_sl [.ref h701, .int x701]).length) Slot.unset).toArray = ls at hl ⊢
  have hl : lv_has ls 3 [(0, .ref h701), (1, .int x701)] := hl
  refine lv_bipush (v := 24) hx hb dX12_four_0 (by decide) ?_
  refine lv_istore_n (lv' := [(2, .int 24), (0, .ref h701), (1, .int x701)]) hx hb dX12_four_2 rfl hl (by decide) rfl (fun ls hl => ?_)
  refine lv_iload_n hx hb dX12_four_3 rfl (lv_at hl 0 rfl) ?_
  refine lv_if_lt (tgt := 36) hx hb dX12_four_4 (by decide) (fun h => absurd h (by decide)) (fun _ => ?_)
  refine lv_aload_n hx hb dX12_four_7 rfl (lv_at hl 1 rfl) ?_
  refine va_get (D := (dC, dI)) (ci := 12) (v := .ref (g701 1)) (C := RX12) (T := TX12) (N := 87) hx hb hts in_k_X12_four_0_12 hown hK hP 0 rfl rfl 1 (by decide) (hts (.fieldLink RX12 7 "LineKeeperModel" "tape" "[B") (List.mem_of_getElem? (i := 1) rfl)) (fun _ h9 => h9) rfl dX12_four_8 ?_
  refine lv_aload_n hx hb dX12_four_11 rfl (lv_at hl 1 rfl) ?_
  refine va_get (D := (dC, dI)) (ci := 12) (v := .int 0) (C := RX12) (T := TX12) (N := 87) hx hb hts in_k_X12_four_0_12 hown hK hP 0 rfl rfl 2 (by decide) (hts (.fieldLink RX12 382 "LineKeeperModel" "size" "I") (List.mem_of_getElem? (i := 2) rfl)) (fun _ h9 => h9) rfl dX12_four_12 ?_
  refine lv_iload_n hx hb dX12_four_15 rfl (lv_at hl 2 rfl) ?_
  refine lv_iload_n hx hb dX12_four_16 rfl (lv_at hl 0 rfl) ?_
  refine lv_ishr hx hb dX12_four_17 ?_
  refine lv_topi (fun x1 ex1 => ?_)
  refine lv_i2b hx hb dX12_four_18 rfl ?_
  refine lv_topi (fun x2 ex2 => ?_)
  refine va_bast hx hb hK hP hD hS 1 0 rfl rfl (vx_in (by decide)) dX12_four_19 (fun H locs hP hD hS => ?_)
  generalize (upd f701 (0 : Int32).toNatClampNeg (vp_nar .byte x2)) = f3 at hP hD
  have hP : va_P (dC, dI) vwCl [(h701, .inr (12, fsM g701)), ((g701 1), .inl (cA701, 1200, .inl f3))] H := hP
  have hD : va_D A [(h701, .inr (12, fsM g701)), ((g701 1), .inl (cA701, 1200, .inl f3))] := hD
  refine lv_aload_n hx hb dX12_four_20 rfl (lv_at hl 1 rfl) ?_
  refine lv_dup hx hb dX12_four_21 rfl ?_
  refine va_get (D := (dC, dI)) (ci := 12) (v := .int 0) (C := RX12) (T := TX12) (N := 87) hx hb hts in_k_X12_four_0_12 hown hK hP 0 rfl rfl 2 (by decide) (hts (.fieldLink RX12 382 "LineKeeperModel" "size" "I") (List.mem_of_getElem? (i := 2) rfl)) (fun _ h9 => h9) rfl dX12_four_22 ?_
  refine lv_iconst (v := 1) hx hb dX12_four_25 (by decide) ?_
  refine lv_iadd hx hb dX12_four_26 ?_
  refine vx_topc (v := 1) (by decide) ?_
  refine va_put (D := (dC, dI)) (ci := 12) (v := .int 1) (ty := .int) (C := RX12) (T := TX12) (N := 87) hx hb hts in_k_X12_four_0_12 tyX12 tyX12_ok nmX12 hown hK hP hD hS 0 rfl rfl 2 (by decide) (hts (.fieldLink RX12 382 "LineKeeperModel" "size" "I") (List.mem_of_getElem? (i := 2) rfl)) (fun _ h9 => h9) rfl (tyX12_ok 2 (by decide)) rfl rfl (Nat.le_of_ble_eq_true rfl) dX12_four_27 (fun H locs hP hD hS => ?_)
  have hP : va_P (dC, dI) vwCl [(h701, .inr (12, (fsM g701).set 2 (.int 1))), ((g701 1), .inl (cA701, 1200, .inl f3))] H := hP
  have hD : va_D A [(h701, .inr (12, (fsM g701).set 2 (.int 1))), ((g701 1), .inl (cA701, 1200, .inl f3))] := hD
  refine lv_iinc (v := 16) (lv' := [(2, .int 16), (0, .ref h701), (1, .int x701)]) hx hb dX12_four_30 hl (k := 0) rfl (by decide) (by decide) rfl (fun ls hl => ?_)
  refine lv_goto (tgt := 3) hx hb dX12_four_33 (by decide) ?_
  refine lv_iload_n hx hb dX12_four_3 rfl (lv_at hl 0 rfl) ?_
  refine lv_if_lt (tgt := 36) hx hb dX12_four_4 (by decide) (fun h => absurd h (by decide)) (fun _ => ?_)
  refine lv_aload_n hx hb dX12_four_7 rfl (lv_at hl 1 rfl) ?_
  refine va_get (D := (dC, dI)) (ci := 12) (v := .ref (g701 1)) (C := RX12) (T := TX12) (N := 87) hx hb hts in_k_X12_four_0_12 hown hK hP 0 rfl rfl 1 (by decide) (hts (.fieldLink RX12 7 "LineKeeperModel" "tape" "[B") (List.mem_of_getElem? (i := 1) rfl)) (fun _ h9 => h9) rfl dX12_four_8 ?_
  refine lv_aload_n hx hb dX12_four_11 rfl (lv_at hl 1 rfl) ?_
  refine va_get (D := (dC, dI)) (ci := 12) (v := .int 1) (C := RX12) (T := TX12) (N := 87) hx hb hts in_k_X12_four_0_12 hown hK hP 0 rfl rfl 2 (by decide) (hts (.fieldLink RX12 382 "LineKeeperModel" "size" "I") (List.mem_of_getElem? (i := 2) rfl)) (fun _ h9 => h9) rfl dX12_four_12 ?_
  refine lv_iload_n hx hb dX12_four_15 rfl (lv_at hl 2 rfl) ?_
  refine lv_iload_n hx hb dX12_four_16 rfl (lv_at hl 0 rfl) ?_
  refine lv_ishr hx hb dX12_four_17 ?_
  refine lv_topi (fun x4 ex4 => ?_)
  refine lv_i2b hx hb dX12_four_18 rfl ?_
  refine lv_topi (fun x5 ex5 => ?_)
  refine va_bast hx hb hK hP hD hS 1 0 rfl rfl (vx_in (by decide)) dX12_four_19 (fun H locs hP hD hS => ?_)
  generalize (upd f3 (1 : Int32).toNatClampNeg (vp_nar .byte x5)) = f6 at hP hD
  have hP : va_P (dC, dI) vwCl [(h701, .inr (12, (fsM g701).set 2 (.int 1))), ((g701 1), .inl (cA701, 1200, .inl f6))] H := hP
  have hD : va_D A [(h701, .inr (12, (fsM g701).set 2 (.int 1))), ((g701 1), .inl (cA701, 1200, .inl f6))] := hD
  refine lv_aload_n hx hb dX12_four_20 rfl (lv_at hl 1 rfl) ?_
  refine lv_dup hx hb dX12_four_21 rfl ?_
  refine va_get (D := (dC, dI)) (ci := 12) (v := .int 1) (C := RX12) (T := TX12) (N := 87) hx hb hts in_k_X12_four_0_12 hown hK hP 0 rfl rfl 2 (by decide) (hts (.fieldLink RX12 382 "LineKeeperModel" "size" "I") (List.mem_of_getElem? (i := 2) rfl)) (fun _ h9 => h9) rfl dX12_four_22 ?_
  refine lv_iconst (v := 1) hx hb dX12_four_25 (by decide) ?_
  refine lv_iadd hx hb dX12_four_26 ?_
  refine vx_topc (v := 2) (by decide) ?_
  refine va_put (D := (dC, dI)) (ci := 12) (v := .int 2) (ty := .int) (C := RX12) (T := TX12) (N := 87) hx hb hts in_k_X12_four_0_12 tyX12 tyX12_ok nmX12 hown hK hP hD hS 0 rfl rfl 2 (by decide) (hts (.fieldLink RX12 382 "LineKeeperModel" "size" "I") (List.mem_of_getElem? (i := 2) rfl)) (fun _ h9 => h9) rfl (tyX12_ok 2 (by decide)) rfl rfl (Nat.le_of_ble_eq_true rfl) dX12_four_27 (fun H locs hP hD hS => ?_)
  have hP : va_P (dC, dI) vwCl [(h701, .inr (12, (fsM g701).set 2 (.int 2))), ((g701 1), .inl (cA701, 1200, .inl f6))] H := hP
  have hD : va_D A [(h701, .inr (12, (fsM g701).set 2 (.int 2))), ((g701 1), .inl (cA701, 1200, .inl f6))] := hD
  refine lv_iinc (v := 8) (lv' := [(2, .int 8), (0, .ref h701), (1, .int x701)]) hx hb dX12_four_30 hl (k := 0) rfl (by decide) (by decide) rfl (fun ls hl => ?_)
  refine lv_goto (tgt := 3) hx hb dX12_four_33 (by decide) ?_
  refine lv_iload_n hx hb dX12_four_3 rfl (lv_at hl 0 rfl) ?_
  refine lv_if_lt (tgt := 36) hx hb dX12_four_4 (by decide) (fun h => absurd h (by decide)) (fun _ => ?_)
  refine lv_aload_n hx hb dX12_four_7 rfl (lv_at hl 1 rfl) ?_
  refine va_get (D := (dC, dI)) (ci := 12) (v := .ref (g701 1)) (C := RX12) (T := TX12) (N := 87) hx hb hts in_k_X12_four_0_12 hown hK hP 0 rfl rfl 1 (by decide) (hts (.fieldLink RX12 7 "LineKeeperModel" "tape" "[B") (List.mem_of_getElem? (i := 1) rfl)) (fun _ h9 => h9) rfl dX12_four_8 ?_
  refine lv_aload_n hx hb dX12_four_11 rfl (lv_at hl 1 rfl) ?_
  refine va_get (D := (dC, dI)) (ci := 12) (v := .int 2) (C := RX12) (T := TX12) (N := 87) hx hb hts in_k_X12_four_0_12 hown hK hP 0 rfl rfl 2 (by decide) (hts (.fieldLink RX12 382 "LineKeeperModel" "size" "I") (List.mem_of_getElem? (i := 2) rfl)) (fun _ h9 => h9) rfl dX12_four_12 ?_
  refine lv_iload_n hx hb dX12_four_15 rfl (lv_at hl 2 rfl) ?_
  refine lv_iload_n hx hb dX12_four_16 rfl (lv_at hl 0 rfl) ?_
  refine lv_ishr hx hb dX12_four_17 ?_
  refine lv_topi (fun x7 ex7 => ?_)
  refine lv_i2b hx hb dX12_four_18 rfl ?_
  refine lv_topi (fun x8 ex8 => ?_)
  refine va_bast hx hb hK hP hD hS 1 0 rfl rfl (vx_in (by decide)) dX12_four_19 (fun H locs hP hD hS => ?_)
  generalize (upd f6 (2 : Int32).toNatClampNeg (vp_nar .byte x8)) = f9 at hP hD
  have hP : va_P (dC, dI) vwCl [(h701, .inr (12, (fsM g701).set 2 (.int 2))), ((g701 1), .inl (cA701, 1200, .inl f9))] H := hP
  have hD : va_D A [(h701, .inr (12, (fsM g701).set 2 (.int 2))), ((g701 1), .inl (cA701, 1200, .inl f9))] := hD
  refine lv_aload_n hx hb dX12_four_20 rfl (lv_at hl 1 rfl) ?_
  refine lv_dup hx hb dX12_four_21 rfl ?_
  refine va_get (D := (dC, dI)) (ci := 12) (v := .int 2) (C := RX12) (T := TX12) (N := 87) hx hb hts in_k_X12_four_0_12 hown hK hP 0 rfl rfl 2 (by decide) (hts (.fieldLink RX12 382 "LineKeeperModel" "size" "I") (List.mem_of_getElem? (i := 2) rfl)) (fun _ h9 => h9) rfl dX12_four_22 ?_
  refine lv_iconst (v := 1) hx hb dX12_four_25 (by decide) ?_
  refine lv_iadd hx hb dX12_four_26 ?_
  refine vx_topc (v := 3) (by decide) ?_
  refine va_put (D := (dC, dI)) (ci := 12) (v := .int 3) (ty := .int) (C := RX12) (T := TX12) (N := 87) hx hb hts in_k_X12_four_0_12 tyX12 tyX12_ok nmX12 hown hK hP hD hS 0 rfl rfl 2 (by decide) (hts (.fieldLink RX12 382 "LineKeeperModel" "size" "I") (List.mem_of_getElem? (i := 2) rfl)) (fun _ h9 => h9) rfl (tyX12_ok 2 (by decide)) rfl rfl (Nat.le_of_ble_eq_true rfl) dX12_four_27 (fun H locs hP hD hS => ?_)
  have hP : va_P (dC, dI) vwCl [(h701, .inr (12, (fsM g701).set 2 (.int 3))), ((g701 1), .inl (cA701, 1200, .inl f9))] H := hP
  have hD : va_D A [(h701, .inr (12, (fsM g701).set 2 (.int 3))), ((g701 1), .inl (cA701, 1200, .inl f9))] := hD
  refine lv_iinc (v := 0) (lv' := [(2, .int 0), (0, .ref h701), (1, .int x701)]) hx hb dX12_four_30 hl (k := 0) rfl (by decide) (by decide) rfl (fun ls hl => ?_)
  refine lv_goto (tgt := 3) hx hb dX12_four_33 (by decide) ?_
  refine lv_iload_n hx hb dX12_four_3 rfl (lv_at hl 0 rfl) ?_
  refine lv_if_lt (tgt := 36) hx hb dX12_four_4 (by decide) (fun h => absurd h (by decide)) (fun _ => ?_)
  refine lv_aload_n hx hb dX12_four_7 rfl (lv_at hl 1 rfl) ?_
  refine va_get (D := (dC, dI)) (ci := 12) (v := .ref (g701 1)) (C := RX12) (T := TX12) (N := 87) hx hb hts in_k_X12_four_0_12 hown hK hP 0 rfl rfl 1 (by decide) (hts (.fieldLink RX12 7 "LineKeeperModel" "tape" "[B") (List.mem_of_getElem? (i := 1) rfl)) (fun _ h9 => h9) rfl dX12_four_8 ?_
  refine lv_aload_n hx hb dX12_four_11 rfl (lv_at hl 1 rfl) ?_
  refine va_get (D := (dC, dI)) (ci := 12) (v := .int 3) (C := RX12) (T := TX12) (N := 87) hx hb hts in_k_X12_four_0_12 hown hK hP 0 rfl rfl 2 (by decide) (hts (.fieldLink RX12 382 "LineKeeperModel" "size" "I") (List.mem_of_getElem? (i := 2) rfl)) (fun _ h9 => h9) rfl dX12_four_12 ?_
  refine lv_iload_n hx hb dX12_four_15 rfl (lv_at hl 2 rfl) ?_
  refine lv_iload_n hx hb dX12_four_16 rfl (lv_at hl 0 rfl) ?_
  refine lv_ishr hx hb dX12_four_17 ?_
  refine lv_topi (fun x10 ex10 => ?_)
  refine lv_i2b hx hb dX12_four_18 rfl ?_
  refine lv_topi (fun x11 ex11 => ?_)
  refine va_bast hx hb hK hP hD hS 1 0 rfl rfl (vx_in (by decide)) dX12_four_19 (fun H locs hP hD hS => ?_)
  generalize (upd f9 (3 : Int32).toNatClampNeg (vp_nar .byte x11)) = f12 at hP hD
  have hP : va_P (dC, dI) vwCl [(h701, .inr (12, (fsM g701).set 2 (.int 3))), ((g701 1), .inl (cA701, 1200, .inl f12))] H := hP
  have hD : va_D A [(h701, .inr (12, (fsM g701).set 2 (.int 3))), ((g701 1), .inl (cA701, 1200, .inl f12))] := hD
  refine lv_aload_n hx hb dX12_four_20 rfl (lv_at hl 1 rfl) ?_
  refine lv_dup hx hb dX12_four_21 rfl ?_
  refine va_get (D := (dC, dI)) (ci := 12) (v := .int 3) (C := RX12) (T := TX12) (N := 87) hx hb hts in_k_X12_four_0_12 hown hK hP 0 rfl rfl 2 (by decide) (hts (.fieldLink RX12 382 "LineKeeperModel" "size" "I") (List.mem_of_getElem? (i := 2) rfl)) (fun _ h9 => h9) rfl dX12_four_22 ?_
  refine lv_iconst (v := 1) hx hb dX12_four_25 (by decide) ?_
  refine lv_iadd hx hb dX12_four_26 ?_
  refine vx_topc (v := 4) (by decide) ?_
  refine va_put (D := (dC, dI)) (ci := 12) (v := .int 4) (ty := .int) (C := RX12) (T := TX12) (N := 87) hx hb hts in_k_X12_four_0_12 tyX12 tyX12_ok nmX12 hown hK hP hD hS 0 rfl rfl 2 (by decide) (hts (.fieldLink RX12 382 "LineKeeperModel" "size" "I") (List.mem_of_getElem? (i := 2) rfl)) (fun _ h9 => h9) rfl (tyX12_ok 2 (by decide)) rfl rfl (Nat.le_of_ble_eq_true rfl) dX12_four_27 (fun H locs hP hD hS => ?_)
  have hP : va_P (dC, dI) vwCl [(h701, .inr (12, (fsM g701).set 2 (.int 4))), ((g701 1), .inl (cA701, 1200, .inl f12))] H := hP
  have hD : va_D A [(h701, .inr (12, (fsM g701).set 2 (.int 4))), ((g701 1), .inl (cA701, 1200, .inl f12))] := hD
  refine lv_iinc (v := (-8)) (lv' := [(2, .int (-8)), (0, .ref h701), (1, .int x701)]) hx hb dX12_four_30 hl (k := 0) rfl (by decide) (by decide) rfl (fun ls hl => ?_)
  refine lv_goto (tgt := 3) hx hb dX12_four_33 (by decide) ?_
  refine lv_iload_n hx hb dX12_four_3 rfl (lv_at hl 0 rfl) ?_
  refine lv_if_lt (tgt := 36) hx hb dX12_four_4 (by decide) (fun _ => ?_) (fun h => absurd (by decide) h)
  have hP9 := hP.sub (ws' := [(h701, .inr (12, (fsM g701).set 2 (.int 4))), ((g701 1), .inl (cA701, 1200, .inl f12))]) [0, 1] rfl
  have hD9 := hD.sub (ws' := [(h701, .inr (12, (fsM g701).set 2 (.int 4))), ((g701 1), .inl (cA701, 1200, .inl f12))]) [0, 1] (by decide) rfl
  have hK9 := hK.sub (tys' := [(cA701, .byte)]) [0] rfl
  exact W.vret hx hb hr (fun t ht hW => ⟨⟨(), rfl, trivial, f12, by rw [ht]; exact hP9, va_K.moved hW.alike hK9, hD9⟩, hS.F ht⟩) hS.2.2 dX12_four_36

def w_k_X12_four_1 : List Cond := .code yX12_four cX12_four 3 none :: ([.fieldLink RX12 7 "LineKeeperModel" "tape" "[B", .fieldLink RX12 382 "LineKeeperModel" "size" "I"] ++ wsX120)
theorem in_k_X12_four_1_12 : ∀ w ∈ wsX120, w ∈ w_k_X12_four_1 := fun _ h => List.mem_cons_of_mem _ (List.mem_append_right _ h)
set_option maxHeartbeats 4000000 in
set_option maxRecDepth 100000 in
theorem k_X12_four_1 (l : Launch) (dC : Nat → ClassId) (dI : Nat → Nat → Nat) (h701 : Nat) (x701 : Int32) (g701 : Nat → Nat) (cA701 : ClassId) (f701 : Nat → Int32) (sz : Nat) : Met l yX12_four w_k_X12_four_1 { frames := 0, cells := 0, slots := 0, locals := 0 } (va_Pc [.ref h701, .int x701] (vx_pre dC dI [(h701, .inr (12, (fsM g701).set 2 (.int 4))), ((g701 1), .inl (cA701, 1200, .inl f701))] [(cA701, .byte)] sz)) (va_Qv (fun _ : Unit => True) (fun _ t => ∃ (f901 : Nat → Int32), vx_B dC dI (va_A [(h701, .inr (12, (fsM g701).set 2 (.int 4))), ((g701 1), .inl (cA701, 1200, .inl f701))] sz) [(h701, .inr (12, (fsM g701).set 2 (.int 8))), ((g701 1), .inl (cA701, 1200, .inl f901))] [(cA701, .byte)] t) (va_A [(h701, .inr (12, (fsM g701).set 2 (.int 4))), ((g701 1), .inl (cA701, 1200, .inl f701))] sz)) 0 0 (va_A [(h701, .inr (12, (fsM g701).set 2 (.int 4))), ((g701 1), .inl (cA701, 1200, .inl f701))] sz) := by
  refine Met.ofW (cc := cX12_four) (maxL := 3) (ret := none) (by decide) rfl ?_
  intro p e s m args below meth c s₁ B hml hv
  obtain ⟨rfl, hsz, hP, hK, hD0, hN⟩ := hv
  have hx := B.exec
  have hb := B.bytes
  have hr := B.returns
  have hts := atoms_spec (ws := w_k_X12_four_1) B.pre
  have hown : s.vm.findClass RX12 = some m.cls := findClass_of_methodNamed B.named
  have hlocks := B.notSynchronized
  subst hsz
  have hD := hD0.self (sz := s.heap.size)
  generalize hAe : va_A [(h701, .inr (12, (fsM g701).set 2 (.int 4))), ((g701 1), .inl (cA701, 1200, .inl f701))] s.heap.size = A at hD ⊢
  have hA : ∀ q : Nat, s.heap.size ≤ q → A q := fun q h => by rw [← hAe]; exact Or.inr h
  obtain ⟨H, hHe⟩ : ∃ H, H = s.heap := ⟨_, rfl⟩
  rw [← hHe] at hP ⊢
  have hS : va_S A s.heap H [] := by rw [hHe]; exact va_S.rf
  have hl := lv_entry [.ref h701, .int x701] (n := 3) (Nat.le_of_ble_eq_true rfl)
  rw [lg_entry_eq]
  generalize (lg_sl [.ref h701, .int x701] ++ List.replicate (3 - (lg_sl [.ref h701, .int x701]).length) Slot.unset).toArray = ls at hl ⊢
  have hl : lv_has ls 3 [(0, .ref h701), (1, .int x701)] := hl
  refine lv_bipush (v := 24) hx hb dX12_four_0 (by decide) ?_
  refine lv_istore_n (lv' := [(2, .int 24), (0, .ref h701), (1, .int x701)]) hx hb dX12_four_2 rfl hl (by decide) rfl (fun ls hl => ?_)
  refine lv_iload_n hx hb dX12_four_3 rfl (lv_at hl 0 rfl) ?_
  refine lv_if_lt (tgt := 36) hx hb dX12_four_4 (by decide) (fun h => absurd h (by decide)) (fun _ => ?_)
  refine lv_aload_n hx hb dX12_four_7 rfl (lv_at hl 1 rfl) ?_
  refine va_get (D := (dC, dI)) (ci := 12) (v := .ref (g701 1)) (C := RX12) (T := TX12) (N := 87) hx hb hts in_k_X12_four_1_12 hown hK hP 0 rfl rfl 1 (by decide) (hts (.fieldLink RX12 7 "LineKeeperModel" "tape" "[B") (List.mem_of_getElem? (i := 1) rfl)) (fun _ h9 => h9) rfl dX12_four_8 ?_
  refine lv_aload_n hx hb dX12_four_11 rfl (lv_at hl 1 rfl) ?_
  refine va_get (D := (dC, dI)) (ci := 12) (v := .int 4) (C := RX12) (T := TX12) (N := 87) hx hb hts in_k_X12_four_1_12 hown hK hP 0 rfl rfl 2 (by decide) (hts (.fieldLink RX12 382 "LineKeeperModel" "size" "I") (List.mem_of_getElem? (i := 2) rfl)) (fun _ h9 => h9) rfl dX12_four_12 ?_
  refine lv_iload_n hx hb dX12_four_15 rfl (lv_at hl 2 rfl) ?_
  refine lv_iload_n hx hb dX12_four_16 rfl (lv_at hl 0 rfl) ?_
  refine lv_ishr hx hb dX12_four_17 ?_
  refine lv_topi (fun x1 ex1 => ?_)
  refine lv_i2b hx hb dX12_four_18 rfl ?_
  refine lv_topi (fun x2 ex2 => ?_)
  refine va_bast hx hb hK hP hD hS 1 0 rfl rfl (vx_in (by decide)) dX12_four_19 (fun H locs hP hD hS => ?_)
  generalize (upd f701 (4 : Int32).toNatClampNeg (vp_nar .byte x2)) = f3 at hP hD
  have hP : va_P (dC, dI) vwCl [(h701, .inr (12, (fsM g701).set 2 (.int 4))), ((g701 1), .inl (cA701, 1200, .inl f3))] H := hP
  have hD : va_D A [(h701, .inr (12, (fsM g701).set 2 (.int 4))), ((g701 1), .inl (cA701, 1200, .inl f3))] := hD
  refine lv_aload_n hx hb dX12_four_20 rfl (lv_at hl 1 rfl) ?_
  refine lv_dup hx hb dX12_four_21 rfl ?_
  refine va_get (D := (dC, dI)) (ci := 12) (v := .int 4) (C := RX12) (T := TX12) (N := 87) hx hb hts in_k_X12_four_1_12 hown hK hP 0 rfl rfl 2 (by decide) (hts (.fieldLink RX12 382 "LineKeeperModel" "size" "I") (List.mem_of_getElem? (i := 2) rfl)) (fun _ h9 => h9) rfl dX12_four_22 ?_
  refine lv_iconst (v := 1) hx hb dX12_four_25 (by decide) ?_
  refine lv_iadd hx hb dX12_four_26 ?_
  refine vx_topc (v := 5) (by decide) ?_
  refine va_put (D := (dC, dI)) (ci := 12) (v := .int 5) (ty := .int) (C := RX12) (T := TX12) (N := 87) hx hb hts in_k_X12_four_1_12 tyX12 tyX12_ok nmX12 hown hK hP hD hS 0 rfl rfl 2 (by decide) (hts (.fieldLink RX12 382 "LineKeeperModel" "size" "I") (List.mem_of_getElem? (i := 2) rfl)) (fun _ h9 => h9) rfl (tyX12_ok 2 (by decide)) rfl rfl (Nat.le_of_ble_eq_true rfl) dX12_four_27 (fun H locs hP hD hS => ?_)
  have hP : va_P (dC, dI) vwCl [(h701, .inr (12, (fsM g701).set 2 (.int 5))), ((g701 1), .inl (cA701, 1200, .inl f3))] H := hP
  have hD : va_D A [(h701, .inr (12, (fsM g701).set 2 (.int 5))), ((g701 1), .inl (cA701, 1200, .inl f3))] := hD
  refine lv_iinc (v := 16) (lv' := [(2, .int 16), (0, .ref h701), (1, .int x701)]) hx hb dX12_four_30 hl (k := 0) rfl (by decide) (by decide) rfl (fun ls hl => ?_)
  refine lv_goto (tgt := 3) hx hb dX12_four_33 (by decide) ?_
  refine lv_iload_n hx hb dX12_four_3 rfl (lv_at hl 0 rfl) ?_
  refine lv_if_lt (tgt := 36) hx hb dX12_four_4 (by decide) (fun h => absurd h (by decide)) (fun _ => ?_)
  refine lv_aload_n hx hb dX12_four_7 rfl (lv_at hl 1 rfl) ?_
  refine va_get (D := (dC, dI)) (ci := 12) (v := .ref (g701 1)) (C := RX12) (T := TX12) (N := 87) hx hb hts in_k_X12_four_1_12 hown hK hP 0 rfl rfl 1 (by decide) (hts (.fieldLink RX12 7 "LineKeeperModel" "tape" "[B") (List.mem_of_getElem? (i := 1) rfl)) (fun _ h9 => h9) rfl dX12_four_8 ?_
  refine lv_aload_n hx hb dX12_four_11 rfl (lv_at hl 1 rfl) ?_
  refine va_get (D := (dC, dI)) (ci := 12) (v := .int 5) (C := RX12) (T := TX12) (N := 87) hx hb hts in_k_X12_four_1_12 hown hK hP 0 rfl rfl 2 (by decide) (hts (.fieldLink RX12 382 "LineKeeperModel" "size" "I") (List.mem_of_getElem? (i := 2) rfl)) (fun _ h9 => h9) rfl dX12_four_12 ?_
  refine lv_iload_n hx hb dX12_four_15 rfl (lv_at hl 2 rfl) ?_
  refine lv_iload_n hx hb dX12_four_16 rfl (lv_at hl 0 rfl) ?_
  refine lv_ishr hx hb dX12_four_17 ?_
  refine lv_topi (fun x4 ex4 => ?_)
  refine lv_i2b hx hb dX12_four_18 rfl ?_
  refine lv_topi (fun x5 ex5 => ?_)
  refine va_bast hx hb hK hP hD hS 1 0 rfl rfl (vx_in (by decide)) dX12_four_19 (fun H locs hP hD hS => ?_)
  generalize (upd f3 (5 : Int32).toNatClampNeg (vp_nar .byte x5)) = f6 at hP hD
  have hP : va_P (dC, dI) vwCl [(h701, .inr (12, (fsM g701).set 2 (.int 5))), ((g701 1), .inl (cA701, 1200, .inl f6))] H := hP
  have hD : va_D A [(h701, .inr (12, (fsM g701).set 2 (.int 5))), ((g701 1), .inl (cA701, 1200, .inl f6))] := hD
  refine lv_aload_n hx hb dX12_four_20 rfl (lv_at hl 1 rfl) ?_
  refine lv_dup hx hb dX12_four_21 rfl ?_
  refine va_get (D := (dC, dI)) (ci := 12) (v := .int 5) (C := RX12) (T := TX12) (N := 87) hx hb hts in_k_X12_four_1_12 hown hK hP 0 rfl rfl 2 (by decide) (hts (.fieldLink RX12 382 "LineKeeperModel" "size" "I") (List.mem_of_getElem? (i := 2) rfl)) (fun _ h9 => h9) rfl dX12_four_22 ?_
  refine lv_iconst (v := 1) hx hb dX12_four_25 (by decide) ?_
  refine lv_iadd hx hb dX12_four_26 ?_
  refine vx_topc (v := 6) (by decide) ?_
  refine va_put (D := (dC, dI)) (ci := 12) (v := .int 6) (ty := .int) (C := RX12) (T := TX12) (N := 87) hx hb hts in_k_X12_four_1_12 tyX12 tyX12_ok nmX12 hown hK hP hD hS 0 rfl rfl 2 (by decide) (hts (.fieldLink RX12 382 "LineKeeperModel" "size" "I") (List.mem_of_getElem? (i := 2) rfl)) (fun _ h9 => h9) rfl (tyX12_ok 2 (by decide)) rfl rfl (Nat.le_of_ble_eq_true rfl) dX12_four_27 (fun H locs hP hD hS => ?_)
  have hP : va_P (dC, dI) vwCl [(h701, .inr (12, (fsM g701).set 2 (.int 6))), ((g701 1), .inl (cA701, 1200, .inl f6))] H := hP
  have hD : va_D A [(h701, .inr (12, (fsM g701).set 2 (.int 6))), ((g701 1), .inl (cA701, 1200, .inl f6))] := hD
  refine lv_iinc (v := 8) (lv' := [(2, .int 8), (0, .ref h701), (1, .int x701)]) hx hb dX12_four_30 hl (k := 0) rfl (by decide) (by decide) rfl (fun ls hl => ?_)
  refine lv_goto (tgt := 3) hx hb dX12_four_33 (by decide) ?_
  refine lv_iload_n hx hb dX12_four_3 rfl (lv_at hl 0 rfl) ?_
  refine lv_if_lt (tgt := 36) hx hb dX12_four_4 (by decide) (fun h => absurd h (by decide)) (fun _ => ?_)
  refine lv_aload_n hx hb dX12_four_7 rfl (lv_at hl 1 rfl) ?_
  refine va_get (D := (dC, dI)) (ci := 12) (v := .ref (g701 1)) (C := RX12) (T := TX12) (N := 87) hx hb hts in_k_X12_four_1_12 hown hK hP 0 rfl rfl 1 (by decide) (hts (.fieldLink RX12 7 "LineKeeperModel" "tape" "[B") (List.mem_of_getElem? (i := 1) rfl)) (fun _ h9 => h9) rfl dX12_four_8 ?_
  refine lv_aload_n hx hb dX12_four_11 rfl (lv_at hl 1 rfl) ?_
  refine va_get (D := (dC, dI)) (ci := 12) (v := .int 6) (C := RX12) (T := TX12) (N := 87) hx hb hts in_k_X12_four_1_12 hown hK hP 0 rfl rfl 2 (by decide) (hts (.fieldLink RX12 382 "LineKeeperModel" "size" "I") (List.mem_of_getElem? (i := 2) rfl)) (fun _ h9 => h9) rfl dX12_four_12 ?_
  refine lv_iload_n hx hb dX12_four_15 rfl (lv_at hl 2 rfl) ?_
  refine lv_iload_n hx hb dX12_four_16 rfl (lv_at hl 0 rfl) ?_
  refine lv_ishr hx hb dX12_four_17 ?_
  refine lv_topi (fun x7 ex7 => ?_)
  refine lv_i2b hx hb dX12_four_18 rfl ?_
  refine lv_topi (fun x8 ex8 => ?_)
  refine va_bast hx hb hK hP hD hS 1 0 rfl rfl (vx_in (by decide)) dX12_four_19 (fun H locs hP hD hS => ?_)
  generalize (upd f6 (6 : Int32).toNatClampNeg (vp_nar .byte x8)) = f9 at hP hD
  have hP : va_P (dC, dI) vwCl [(h701, .inr (12, (fsM g701).set 2 (.int 6))), ((g701 1), .inl (cA701, 1200, .inl f9))] H := hP
  have hD : va_D A [(h701, .inr (12, (fsM g701).set 2 (.int 6))), ((g701 1), .inl (cA701, 1200, .inl f9))] := hD
  refine lv_aload_n hx hb dX12_four_20 rfl (lv_at hl 1 rfl) ?_
  refine lv_dup hx hb dX12_four_21 rfl ?_
  refine va_get (D := (dC, dI)) (ci := 12) (v := .int 6) (C := RX12) (T := TX12) (N := 87) hx hb hts in_k_X12_four_1_12 hown hK hP 0 rfl rfl 2 (by decide) (hts (.fieldLink RX12 382 "LineKeeperModel" "size" "I") (List.mem_of_getElem? (i := 2) rfl)) (fun _ h9 => h9) rfl dX12_four_22 ?_
  refine lv_iconst (v := 1) hx hb dX12_four_25 (by decide) ?_
  refine lv_iadd hx hb dX12_four_26 ?_
  refine vx_topc (v := 7) (by decide) ?_
  refine va_put (D := (dC, dI)) (ci := 12) (v := .int 7) (ty := .int) (C := RX12) (T := TX12) (N := 87) hx hb hts in_k_X12_four_1_12 tyX12 tyX12_ok nmX12 hown hK hP hD hS 0 rfl rfl 2 (by decide) (hts (.fieldLink RX12 382 "LineKeeperModel" "size" "I") (List.mem_of_getElem? (i := 2) rfl)) (fun _ h9 => h9) rfl (tyX12_ok 2 (by decide)) rfl rfl (Nat.le_of_ble_eq_true rfl) dX12_four_27 (fun H locs hP hD hS => ?_)
  have hP : va_P (dC, dI) vwCl [(h701, .inr (12, (fsM g701).set 2 (.int 7))), ((g701 1), .inl (cA701, 1200, .inl f9))] H := hP
  have hD : va_D A [(h701, .inr (12, (fsM g701).set 2 (.int 7))), ((g701 1), .inl (cA701, 1200, .inl f9))] := hD
  refine lv_iinc (v := 0) (lv' := [(2, .int 0), (0, .ref h701), (1, .int x701)]) hx hb dX12_four_30 hl (k := 0) rfl (by decide) (by decide) rfl (fun ls hl => ?_)
  refine lv_goto (tgt := 3) hx hb dX12_four_33 (by decide) ?_
  refine lv_iload_n hx hb dX12_four_3 rfl (lv_at hl 0 rfl) ?_
  refine lv_if_lt (tgt := 36) hx hb dX12_four_4 (by decide) (fun h => absurd h (by decide)) (fun _ => ?_)
  refine lv_aload_n hx hb dX12_four_7 rfl (lv_at hl 1 rfl) ?_
  refine va_get (D := (dC, dI)) (ci := 12) (v := .ref (g701 1)) (C := RX12) (T := TX12) (N := 87) hx hb hts in_k_X12_four_1_12 hown hK hP 0 rfl rfl 1 (by decide) (hts (.fieldLink RX12 7 "LineKeeperModel" "tape" "[B") (List.mem_of_getElem? (i := 1) rfl)) (fun _ h9 => h9) rfl dX12_four_8 ?_
  refine lv_aload_n hx hb dX12_four_11 rfl (lv_at hl 1 rfl) ?_
  refine va_get (D := (dC, dI)) (ci := 12) (v := .int 7) (C := RX12) (T := TX12) (N := 87) hx hb hts in_k_X12_four_1_12 hown hK hP 0 rfl rfl 2 (by decide) (hts (.fieldLink RX12 382 "LineKeeperModel" "size" "I") (List.mem_of_getElem? (i := 2) rfl)) (fun _ h9 => h9) rfl dX12_four_12 ?_
  refine lv_iload_n hx hb dX12_four_15 rfl (lv_at hl 2 rfl) ?_
  refine lv_iload_n hx hb dX12_four_16 rfl (lv_at hl 0 rfl) ?_
  refine lv_ishr hx hb dX12_four_17 ?_
  refine lv_topi (fun x10 ex10 => ?_)
  refine lv_i2b hx hb dX12_four_18 rfl ?_
  refine lv_topi (fun x11 ex11 => ?_)
  refine va_bast hx hb hK hP hD hS 1 0 rfl rfl (vx_in (by decide)) dX12_four_19 (fun H locs hP hD hS => ?_)
  generalize (upd f9 (7 : Int32).toNatClampNeg (vp_nar .byte x11)) = f12 at hP hD
  have hP : va_P (dC, dI) vwCl [(h701, .inr (12, (fsM g701).set 2 (.int 7))), ((g701 1), .inl (cA701, 1200, .inl f12))] H := hP
  have hD : va_D A [(h701, .inr (12, (fsM g701).set 2 (.int 7))), ((g701 1), .inl (cA701, 1200, .inl f12))] := hD
  refine lv_aload_n hx hb dX12_four_20 rfl (lv_at hl 1 rfl) ?_
  refine lv_dup hx hb dX12_four_21 rfl ?_
  refine va_get (D := (dC, dI)) (ci := 12) (v := .int 7) (C := RX12) (T := TX12) (N := 87) hx hb hts in_k_X12_four_1_12 hown hK hP 0 rfl rfl 2 (by decide) (hts (.fieldLink RX12 382 "LineKeeperModel" "size" "I") (List.mem_of_getElem? (i := 2) rfl)) (fun _ h9 => h9) rfl dX12_four_22 ?_
  refine lv_iconst (v := 1) hx hb dX12_four_25 (by decide) ?_
  refine lv_iadd hx hb dX12_four_26 ?_
  refine vx_topc (v := 8) (by decide) ?_
  refine va_put (D := (dC, dI)) (ci := 12) (v := .int 8) (ty := .int) (C := RX12) (T := TX12) (N := 87) hx hb hts in_k_X12_four_1_12 tyX12 tyX12_ok nmX12 hown hK hP hD hS 0 rfl rfl 2 (by decide) (hts (.fieldLink RX12 382 "LineKeeperModel" "size" "I") (List.mem_of_getElem? (i := 2) rfl)) (fun _ h9 => h9) rfl (tyX12_ok 2 (by decide)) rfl rfl (Nat.le_of_ble_eq_true rfl) dX12_four_27 (fun H locs hP hD hS => ?_)
  have hP : va_P (dC, dI) vwCl [(h701, .inr (12, (fsM g701).set 2 (.int 8))), ((g701 1), .inl (cA701, 1200, .inl f12))] H := hP
  have hD : va_D A [(h701, .inr (12, (fsM g701).set 2 (.int 8))), ((g701 1), .inl (cA701, 1200, .inl f12))] := hD
  refine lv_iinc (v := (-8)) (lv' := [(2, .int (-8)), (0, .ref h701), (1, .int x701)]) hx hb dX12_four_30 hl (k := 0) rfl (by decide) (by decide) rfl (fun ls hl => ?_)
  refine lv_goto (tgt := 3) hx hb dX12_four_33 (by decide) ?_
  refine lv_iload_n hx hb dX12_four_3 rfl (lv_at hl 0 rfl) ?_
  refine lv_if_lt (tgt := 36) hx hb dX12_four_4 (by decide) (fun _ => ?_) (fun h => absurd (by decide) h)
  have hP9 := hP.sub (ws' := [(h701, .inr (12, (fsM g701).set 2 (.int 8))), ((g701 1), .inl (cA701, 1200, .inl f12))]) [0, 1] rfl
  have hD9 := hD.sub (ws' := [(h701, .inr (12, (fsM g701).set 2 (.int 8))), ((g701 1), .inl (cA701, 1200, .inl f12))]) [0, 1] (by decide) rfl
  have hK9 := hK.sub (tys' := [(cA701, .byte)]) [0] rfl
  exact W.vret hx hb hr (fun t ht hW => ⟨⟨(), rfl, trivial, f12, by rw [ht]; exact hP9, va_K.moved hW.alike hK9, hD9⟩, hS.F ht⟩) hS.2.2 dX12_four_36

def w_k_X12_four_2 : List Cond := .code yX12_four cX12_four 3 none :: ([.fieldLink RX12 7 "LineKeeperModel" "tape" "[B", .fieldLink RX12 382 "LineKeeperModel" "size" "I"] ++ wsX120)
theorem in_k_X12_four_2_12 : ∀ w ∈ wsX120, w ∈ w_k_X12_four_2 := fun _ h => List.mem_cons_of_mem _ (List.mem_append_right _ h)
set_option maxHeartbeats 4000000 in
set_option maxRecDepth 100000 in
theorem k_X12_four_2 (l : Launch) (dC : Nat → ClassId) (dI : Nat → Nat → Nat) (h701 : Nat) (x701 : Int32) (g701 : Nat → Nat) (cA701 : ClassId) (f701 : Nat → Int32) (sz : Nat) : Met l yX12_four w_k_X12_four_2 { frames := 0, cells := 0, slots := 0, locals := 0 } (va_Pc [.ref h701, .int x701] (vx_pre dC dI [(h701, .inr (12, (fsM g701).set 2 (.int 8))), ((g701 1), .inl (cA701, 1200, .inl f701))] [(cA701, .byte)] sz)) (va_Qv (fun _ : Unit => True) (fun _ t => ∃ (f901 : Nat → Int32), vx_B dC dI (va_A [(h701, .inr (12, (fsM g701).set 2 (.int 8))), ((g701 1), .inl (cA701, 1200, .inl f701))] sz) [(h701, .inr (12, (fsM g701).set 2 (.int 12))), ((g701 1), .inl (cA701, 1200, .inl f901))] [(cA701, .byte)] t) (va_A [(h701, .inr (12, (fsM g701).set 2 (.int 8))), ((g701 1), .inl (cA701, 1200, .inl f701))] sz)) 0 0 (va_A [(h701, .inr (12, (fsM g701).set 2 (.int 8))), ((g701 1), .inl (cA701, 1200, .inl f701))] sz) := by
  refine Met.ofW (cc := cX12_four) (maxL := 3) (ret := none) (by decide) rfl ?_
  intro p e s m args below meth c s₁ B hml hv
  obtain ⟨rfl, hsz, hP, hK, hD0, hN⟩ := hv
  have hx := B.exec
  have hb := B.bytes
  have hr := B.returns
  have hts := atoms_spec (ws := w_k_X12_four_2) B.pre
  have hown : s.vm.findClass RX12 = some m.cls := findClass_of_methodNamed B.named
  have hlocks := B.notSynchronized
  subst hsz
  have hD := hD0.self (sz := s.heap.size)
  generalize hAe : va_A [(h701, .inr (12, (fsM g701).set 2 (.int 8))), ((g701 1), .inl (cA701, 1200, .inl f701))] s.heap.size = A at hD ⊢
  have hA : ∀ q : Nat, s.heap.size ≤ q → A q := fun q h => by rw [← hAe]; exact Or.inr h
  obtain ⟨H, hHe⟩ : ∃ H, H = s.heap := ⟨_, rfl⟩
  rw [← hHe] at hP ⊢
  have hS : va_S A s.heap H [] := by rw [hHe]; exact va_S.rf
  have hl := lv_entry [.ref h701, .int x701] (n := 3) (Nat.le_of_ble_eq_true rfl)
  rw [lg_entry_eq]
  generalize (lg_sl [.ref h701, .int x701] ++ List.replicate (3 - (lg_sl [.ref h701, .int x701]).length) Slot.unset).toArray = ls at hl ⊢
  have hl : lv_has ls 3 [(0, .ref h701), (1, .int x701)] := hl
  refine lv_bipush (v := 24) hx hb dX12_four_0 (by decide) ?_
  refine lv_istore_n (lv' := [(2, .int 24), (0, .ref h701), (1, .int x701)]) hx hb dX12_four_2 rfl hl (by decide) rfl (fun ls hl => ?_)
  refine lv_iload_n hx hb dX12_four_3 rfl (lv_at hl 0 rfl) ?_
  refine lv_if_lt (tgt := 36) hx hb dX12_four_4 (by decide) (fun h => absurd h (by decide)) (fun _ => ?_)
  refine lv_aload_n hx hb dX12_four_7 rfl (lv_at hl 1 rfl) ?_
  refine va_get (D := (dC, dI)) (ci := 12) (v := .ref (g701 1)) (C := RX12) (T := TX12) (N := 87) hx hb hts in_k_X12_four_2_12 hown hK hP 0 rfl rfl 1 (by decide) (hts (.fieldLink RX12 7 "LineKeeperModel" "tape" "[B") (List.mem_of_getElem? (i := 1) rfl)) (fun _ h9 => h9) rfl dX12_four_8 ?_
  refine lv_aload_n hx hb dX12_four_11 rfl (lv_at hl 1 rfl) ?_
  refine va_get (D := (dC, dI)) (ci := 12) (v := .int 8) (C := RX12) (T := TX12) (N := 87) hx hb hts in_k_X12_four_2_12 hown hK hP 0 rfl rfl 2 (by decide) (hts (.fieldLink RX12 382 "LineKeeperModel" "size" "I") (List.mem_of_getElem? (i := 2) rfl)) (fun _ h9 => h9) rfl dX12_four_12 ?_
  refine lv_iload_n hx hb dX12_four_15 rfl (lv_at hl 2 rfl) ?_
  refine lv_iload_n hx hb dX12_four_16 rfl (lv_at hl 0 rfl) ?_
  refine lv_ishr hx hb dX12_four_17 ?_
  refine lv_topi (fun x1 ex1 => ?_)
  refine lv_i2b hx hb dX12_four_18 rfl ?_
  refine lv_topi (fun x2 ex2 => ?_)
  refine va_bast hx hb hK hP hD hS 1 0 rfl rfl (vx_in (by decide)) dX12_four_19 (fun H locs hP hD hS => ?_)
  generalize (upd f701 (8 : Int32).toNatClampNeg (vp_nar .byte x2)) = f3 at hP hD
  have hP : va_P (dC, dI) vwCl [(h701, .inr (12, (fsM g701).set 2 (.int 8))), ((g701 1), .inl (cA701, 1200, .inl f3))] H := hP
  have hD : va_D A [(h701, .inr (12, (fsM g701).set 2 (.int 8))), ((g701 1), .inl (cA701, 1200, .inl f3))] := hD
  refine lv_aload_n hx hb dX12_four_20 rfl (lv_at hl 1 rfl) ?_
  refine lv_dup hx hb dX12_four_21 rfl ?_
  refine va_get (D := (dC, dI)) (ci := 12) (v := .int 8) (C := RX12) (T := TX12) (N := 87) hx hb hts in_k_X12_four_2_12 hown hK hP 0 rfl rfl 2 (by decide) (hts (.fieldLink RX12 382 "LineKeeperModel" "size" "I") (List.mem_of_getElem? (i := 2) rfl)) (fun _ h9 => h9) rfl dX12_four_22 ?_
  refine lv_iconst (v := 1) hx hb dX12_four_25 (by decide) ?_
  refine lv_iadd hx hb dX12_four_26 ?_
  refine vx_topc (v := 9) (by decide) ?_
  refine va_put (D := (dC, dI)) (ci := 12) (v := .int 9) (ty := .int) (C := RX12) (T := TX12) (N := 87) hx hb hts in_k_X12_four_2_12 tyX12 tyX12_ok nmX12 hown hK hP hD hS 0 rfl rfl 2 (by decide) (hts (.fieldLink RX12 382 "LineKeeperModel" "size" "I") (List.mem_of_getElem? (i := 2) rfl)) (fun _ h9 => h9) rfl (tyX12_ok 2 (by decide)) rfl rfl (Nat.le_of_ble_eq_true rfl) dX12_four_27 (fun H locs hP hD hS => ?_)
  have hP : va_P (dC, dI) vwCl [(h701, .inr (12, (fsM g701).set 2 (.int 9))), ((g701 1), .inl (cA701, 1200, .inl f3))] H := hP
  have hD : va_D A [(h701, .inr (12, (fsM g701).set 2 (.int 9))), ((g701 1), .inl (cA701, 1200, .inl f3))] := hD
  refine lv_iinc (v := 16) (lv' := [(2, .int 16), (0, .ref h701), (1, .int x701)]) hx hb dX12_four_30 hl (k := 0) rfl (by decide) (by decide) rfl (fun ls hl => ?_)
  refine lv_goto (tgt := 3) hx hb dX12_four_33 (by decide) ?_
  refine lv_iload_n hx hb dX12_four_3 rfl (lv_at hl 0 rfl) ?_
  refine lv_if_lt (tgt := 36) hx hb dX12_four_4 (by decide) (fun h => absurd h (by decide)) (fun _ => ?_)
  refine lv_aload_n hx hb dX12_four_7 rfl (lv_at hl 1 rfl) ?_
  refine va_get (D := (dC, dI)) (ci := 12) (v := .ref (g701 1)) (C := RX12) (T := TX12) (N := 87) hx hb hts in_k_X12_four_2_12 hown hK hP 0 rfl rfl 1 (by decide) (hts (.fieldLink RX12 7 "LineKeeperModel" "tape" "[B") (List.mem_of_getElem? (i := 1) rfl)) (fun _ h9 => h9) rfl dX12_four_8 ?_
  refine lv_aload_n hx hb dX12_four_11 rfl (lv_at hl 1 rfl) ?_
  refine va_get (D := (dC, dI)) (ci := 12) (v := .int 9) (C := RX12) (T := TX12) (N := 87) hx hb hts in_k_X12_four_2_12 hown hK hP 0 rfl rfl 2 (by decide) (hts (.fieldLink RX12 382 "LineKeeperModel" "size" "I") (List.mem_of_getElem? (i := 2) rfl)) (fun _ h9 => h9) rfl dX12_four_12 ?_
  refine lv_iload_n hx hb dX12_four_15 rfl (lv_at hl 2 rfl) ?_
  refine lv_iload_n hx hb dX12_four_16 rfl (lv_at hl 0 rfl) ?_
  refine lv_ishr hx hb dX12_four_17 ?_
  refine lv_topi (fun x4 ex4 => ?_)
  refine lv_i2b hx hb dX12_four_18 rfl ?_
  refine lv_topi (fun x5 ex5 => ?_)
  refine va_bast hx hb hK hP hD hS 1 0 rfl rfl (vx_in (by decide)) dX12_four_19 (fun H locs hP hD hS => ?_)
  generalize (upd f3 (9 : Int32).toNatClampNeg (vp_nar .byte x5)) = f6 at hP hD
  have hP : va_P (dC, dI) vwCl [(h701, .inr (12, (fsM g701).set 2 (.int 9))), ((g701 1), .inl (cA701, 1200, .inl f6))] H := hP
  have hD : va_D A [(h701, .inr (12, (fsM g701).set 2 (.int 9))), ((g701 1), .inl (cA701, 1200, .inl f6))] := hD
  refine lv_aload_n hx hb dX12_four_20 rfl (lv_at hl 1 rfl) ?_
  refine lv_dup hx hb dX12_four_21 rfl ?_
  refine va_get (D := (dC, dI)) (ci := 12) (v := .int 9) (C := RX12) (T := TX12) (N := 87) hx hb hts in_k_X12_four_2_12 hown hK hP 0 rfl rfl 2 (by decide) (hts (.fieldLink RX12 382 "LineKeeperModel" "size" "I") (List.mem_of_getElem? (i := 2) rfl)) (fun _ h9 => h9) rfl dX12_four_22 ?_
  refine lv_iconst (v := 1) hx hb dX12_four_25 (by decide) ?_
  refine lv_iadd hx hb dX12_four_26 ?_
  refine vx_topc (v := 10) (by decide) ?_
  refine va_put (D := (dC, dI)) (ci := 12) (v := .int 10) (ty := .int) (C := RX12) (T := TX12) (N := 87) hx hb hts in_k_X12_four_2_12 tyX12 tyX12_ok nmX12 hown hK hP hD hS 0 rfl rfl 2 (by decide) (hts (.fieldLink RX12 382 "LineKeeperModel" "size" "I") (List.mem_of_getElem? (i := 2) rfl)) (fun _ h9 => h9) rfl (tyX12_ok 2 (by decide)) rfl rfl (Nat.le_of_ble_eq_true rfl) dX12_four_27 (fun H locs hP hD hS => ?_)
  have hP : va_P (dC, dI) vwCl [(h701, .inr (12, (fsM g701).set 2 (.int 10))), ((g701 1), .inl (cA701, 1200, .inl f6))] H := hP
  have hD : va_D A [(h701, .inr (12, (fsM g701).set 2 (.int 10))), ((g701 1), .inl (cA701, 1200, .inl f6))] := hD
  refine lv_iinc (v := 8) (lv' := [(2, .int 8), (0, .ref h701), (1, .int x701)]) hx hb dX12_four_30 hl (k := 0) rfl (by decide) (by decide) rfl (fun ls hl => ?_)
  refine lv_goto (tgt := 3) hx hb dX12_four_33 (by decide) ?_
  refine lv_iload_n hx hb dX12_four_3 rfl (lv_at hl 0 rfl) ?_
  refine lv_if_lt (tgt := 36) hx hb dX12_four_4 (by decide) (fun h => absurd h (by decide)) (fun _ => ?_)
  refine lv_aload_n hx hb dX12_four_7 rfl (lv_at hl 1 rfl) ?_
  refine va_get (D := (dC, dI)) (ci := 12) (v := .ref (g701 1)) (C := RX12) (T := TX12) (N := 87) hx hb hts in_k_X12_four_2_12 hown hK hP 0 rfl rfl 1 (by decide) (hts (.fieldLink RX12 7 "LineKeeperModel" "tape" "[B") (List.mem_of_getElem? (i := 1) rfl)) (fun _ h9 => h9) rfl dX12_four_8 ?_
  refine lv_aload_n hx hb dX12_four_11 rfl (lv_at hl 1 rfl) ?_
  refine va_get (D := (dC, dI)) (ci := 12) (v := .int 10) (C := RX12) (T := TX12) (N := 87) hx hb hts in_k_X12_four_2_12 hown hK hP 0 rfl rfl 2 (by decide) (hts (.fieldLink RX12 382 "LineKeeperModel" "size" "I") (List.mem_of_getElem? (i := 2) rfl)) (fun _ h9 => h9) rfl dX12_four_12 ?_
  refine lv_iload_n hx hb dX12_four_15 rfl (lv_at hl 2 rfl) ?_
  refine lv_iload_n hx hb dX12_four_16 rfl (lv_at hl 0 rfl) ?_
  refine lv_ishr hx hb dX12_four_17 ?_
  refine lv_topi (fun x7 ex7 => ?_)
  refine lv_i2b hx hb dX12_four_18 rfl ?_
  refine lv_topi (fun x8 ex8 => ?_)
  refine va_bast hx hb hK hP hD hS 1 0 rfl rfl (vx_in (by decide)) dX12_four_19 (fun H locs hP hD hS => ?_)
  generalize (upd f6 (10 : Int32).toNatClampNeg (vp_nar .byte x8)) = f9 at hP hD
  have hP : va_P (dC, dI) vwCl [(h701, .inr (12, (fsM g701).set 2 (.int 10))), ((g701 1), .inl (cA701, 1200, .inl f9))] H := hP
  have hD : va_D A [(h701, .inr (12, (fsM g701).set 2 (.int 10))), ((g701 1), .inl (cA701, 1200, .inl f9))] := hD
  refine lv_aload_n hx hb dX12_four_20 rfl (lv_at hl 1 rfl) ?_
  refine lv_dup hx hb dX12_four_21 rfl ?_
  refine va_get (D := (dC, dI)) (ci := 12) (v := .int 10) (C := RX12) (T := TX12) (N := 87) hx hb hts in_k_X12_four_2_12 hown hK hP 0 rfl rfl 2 (by decide) (hts (.fieldLink RX12 382 "LineKeeperModel" "size" "I") (List.mem_of_getElem? (i := 2) rfl)) (fun _ h9 => h9) rfl dX12_four_22 ?_
  refine lv_iconst (v := 1) hx hb dX12_four_25 (by decide) ?_
  refine lv_iadd hx hb dX12_four_26 ?_
  refine vx_topc (v := 11) (by decide) ?_
  refine va_put (D := (dC, dI)) (ci := 12) (v := .int 11) (ty := .int) (C := RX12) (T := TX12) (N := 87) hx hb hts in_k_X12_four_2_12 tyX12 tyX12_ok nmX12 hown hK hP hD hS 0 rfl rfl 2 (by decide) (hts (.fieldLink RX12 382 "LineKeeperModel" "size" "I") (List.mem_of_getElem? (i := 2) rfl)) (fun _ h9 => h9) rfl (tyX12_ok 2 (by decide)) rfl rfl (Nat.le_of_ble_eq_true rfl) dX12_four_27 (fun H locs hP hD hS => ?_)
  have hP : va_P (dC, dI) vwCl [(h701, .inr (12, (fsM g701).set 2 (.int 11))), ((g701 1), .inl (cA701, 1200, .inl f9))] H := hP
  have hD : va_D A [(h701, .inr (12, (fsM g701).set 2 (.int 11))), ((g701 1), .inl (cA701, 1200, .inl f9))] := hD
  refine lv_iinc (v := 0) (lv' := [(2, .int 0), (0, .ref h701), (1, .int x701)]) hx hb dX12_four_30 hl (k := 0) rfl (by decide) (by decide) rfl (fun ls hl => ?_)
  refine lv_goto (tgt := 3) hx hb dX12_four_33 (by decide) ?_
  refine lv_iload_n hx hb dX12_four_3 rfl (lv_at hl 0 rfl) ?_
  refine lv_if_lt (tgt := 36) hx hb dX12_four_4 (by decide) (fun h => absurd h (by decide)) (fun _ => ?_)
  refine lv_aload_n hx hb dX12_four_7 rfl (lv_at hl 1 rfl) ?_
  refine va_get (D := (dC, dI)) (ci := 12) (v := .ref (g701 1)) (C := RX12) (T := TX12) (N := 87) hx hb hts in_k_X12_four_2_12 hown hK hP 0 rfl rfl 1 (by decide) (hts (.fieldLink RX12 7 "LineKeeperModel" "tape" "[B") (List.mem_of_getElem? (i := 1) rfl)) (fun _ h9 => h9) rfl dX12_four_8 ?_
  refine lv_aload_n hx hb dX12_four_11 rfl (lv_at hl 1 rfl) ?_
  refine va_get (D := (dC, dI)) (ci := 12) (v := .int 11) (C := RX12) (T := TX12) (N := 87) hx hb hts in_k_X12_four_2_12 hown hK hP 0 rfl rfl 2 (by decide) (hts (.fieldLink RX12 382 "LineKeeperModel" "size" "I") (List.mem_of_getElem? (i := 2) rfl)) (fun _ h9 => h9) rfl dX12_four_12 ?_
  refine lv_iload_n hx hb dX12_four_15 rfl (lv_at hl 2 rfl) ?_
  refine lv_iload_n hx hb dX12_four_16 rfl (lv_at hl 0 rfl) ?_
  refine lv_ishr hx hb dX12_four_17 ?_
  refine lv_topi (fun x10 ex10 => ?_)
  refine lv_i2b hx hb dX12_four_18 rfl ?_
  refine lv_topi (fun x11 ex11 => ?_)
  refine va_bast hx hb hK hP hD hS 1 0 rfl rfl (vx_in (by decide)) dX12_four_19 (fun H locs hP hD hS => ?_)
  generalize (upd f9 (11 : Int32).toNatClampNeg (vp_nar .byte x11)) = f12 at hP hD
  have hP : va_P (dC, dI) vwCl [(h701, .inr (12, (fsM g701).set 2 (.int 11))), ((g701 1), .inl (cA701, 1200, .inl f12))] H := hP
  have hD : va_D A [(h701, .inr (12, (fsM g701).set 2 (.int 11))), ((g701 1), .inl (cA701, 1200, .inl f12))] := hD
  refine lv_aload_n hx hb dX12_four_20 rfl (lv_at hl 1 rfl) ?_
  refine lv_dup hx hb dX12_four_21 rfl ?_
  refine va_get (D := (dC, dI)) (ci := 12) (v := .int 11) (C := RX12) (T := TX12) (N := 87) hx hb hts in_k_X12_four_2_12 hown hK hP 0 rfl rfl 2 (by decide) (hts (.fieldLink RX12 382 "LineKeeperModel" "size" "I") (List.mem_of_getElem? (i := 2) rfl)) (fun _ h9 => h9) rfl dX12_four_22 ?_
  refine lv_iconst (v := 1) hx hb dX12_four_25 (by decide) ?_
  refine lv_iadd hx hb dX12_four_26 ?_
  refine vx_topc (v := 12) (by decide) ?_
  refine va_put (D := (dC, dI)) (ci := 12) (v := .int 12) (ty := .int) (C := RX12) (T := TX12) (N := 87) hx hb hts in_k_X12_four_2_12 tyX12 tyX12_ok nmX12 hown hK hP hD hS 0 rfl rfl 2 (by decide) (hts (.fieldLink RX12 382 "LineKeeperModel" "size" "I") (List.mem_of_getElem? (i := 2) rfl)) (fun _ h9 => h9) rfl (tyX12_ok 2 (by decide)) rfl rfl (Nat.le_of_ble_eq_true rfl) dX12_four_27 (fun H locs hP hD hS => ?_)
  have hP : va_P (dC, dI) vwCl [(h701, .inr (12, (fsM g701).set 2 (.int 12))), ((g701 1), .inl (cA701, 1200, .inl f12))] H := hP
  have hD : va_D A [(h701, .inr (12, (fsM g701).set 2 (.int 12))), ((g701 1), .inl (cA701, 1200, .inl f12))] := hD
  refine lv_iinc (v := (-8)) (lv' := [(2, .int (-8)), (0, .ref h701), (1, .int x701)]) hx hb dX12_four_30 hl (k := 0) rfl (by decide) (by decide) rfl (fun ls hl => ?_)
  refine lv_goto (tgt := 3) hx hb dX12_four_33 (by decide) ?_
  refine lv_iload_n hx hb dX12_four_3 rfl (lv_at hl 0 rfl) ?_
  refine lv_if_lt (tgt := 36) hx hb dX12_four_4 (by decide) (fun _ => ?_) (fun h => absurd (by decide) h)
  have hP9 := hP.sub (ws' := [(h701, .inr (12, (fsM g701).set 2 (.int 12))), ((g701 1), .inl (cA701, 1200, .inl f12))]) [0, 1] rfl
  have hD9 := hD.sub (ws' := [(h701, .inr (12, (fsM g701).set 2 (.int 12))), ((g701 1), .inl (cA701, 1200, .inl f12))]) [0, 1] (by decide) rfl
  have hK9 := hK.sub (tys' := [(cA701, .byte)]) [0] rfl
  exact W.vret hx hb hr (fun t ht hW => ⟨⟨(), rfl, trivial, f12, by rw [ht]; exact hP9, va_K.moved hW.alike hK9, hD9⟩, hS.F ht⟩) hS.2.2 dX12_four_36

def w_k_X12_four_3 : List Cond := .code yX12_four cX12_four 3 none :: ([.fieldLink RX12 7 "LineKeeperModel" "tape" "[B", .fieldLink RX12 382 "LineKeeperModel" "size" "I"] ++ wsX120)
theorem in_k_X12_four_3_12 : ∀ w ∈ wsX120, w ∈ w_k_X12_four_3 := fun _ h => List.mem_cons_of_mem _ (List.mem_append_right _ h)
set_option maxHeartbeats 4000000 in
set_option maxRecDepth 100000 in
theorem k_X12_four_3 (l : Launch) (dC : Nat → ClassId) (dI : Nat → Nat → Nat) (h701 : Nat) (x701 : Int32) (g701 : Nat → Nat) (cA701 : ClassId) (f701 : Nat → Int32) (sz : Nat) : Met l yX12_four w_k_X12_four_3 { frames := 0, cells := 0, slots := 0, locals := 0 } (va_Pc [.ref h701, .int x701] (vx_pre dC dI [(h701, .inr (12, (fsM g701).set 2 (.int 12))), ((g701 1), .inl (cA701, 1200, .inl f701))] [(cA701, .byte)] sz)) (va_Qv (fun _ : Unit => True) (fun _ t => ∃ (f901 : Nat → Int32), vx_B dC dI (va_A [(h701, .inr (12, (fsM g701).set 2 (.int 12))), ((g701 1), .inl (cA701, 1200, .inl f701))] sz) [(h701, .inr (12, (fsM g701).set 2 (.int 16))), ((g701 1), .inl (cA701, 1200, .inl f901))] [(cA701, .byte)] t) (va_A [(h701, .inr (12, (fsM g701).set 2 (.int 12))), ((g701 1), .inl (cA701, 1200, .inl f701))] sz)) 0 0 (va_A [(h701, .inr (12, (fsM g701).set 2 (.int 12))), ((g701 1), .inl (cA701, 1200, .inl f701))] sz) := by
  refine Met.ofW (cc := cX12_four) (maxL := 3) (ret := none) (by decide) rfl ?_
  intro p e s m args below meth c s₁ B hml hv
  obtain ⟨rfl, hsz, hP, hK, hD0, hN⟩ := hv
  have hx := B.exec
  have hb := B.bytes
  have hr := B.returns
  have hts := atoms_spec (ws := w_k_X12_four_3) B.pre
  have hown : s.vm.findClass RX12 = some m.cls := findClass_of_methodNamed B.named
  have hlocks := B.notSynchronized
  subst hsz
  have hD := hD0.self (sz := s.heap.size)
  generalize hAe : va_A [(h701, .inr (12, (fsM g701).set 2 (.int 12))), ((g701 1), .inl (cA701, 1200, .inl f701))] s.heap.size = A at hD ⊢
  have hA : ∀ q : Nat, s.heap.size ≤ q → A q := fun q h => by rw [← hAe]; exact Or.inr h
  obtain ⟨H, hHe⟩ : ∃ H, H = s.heap := ⟨_, rfl⟩
  rw [← hHe] at hP ⊢
  have hS : va_S A s.heap H [] := by rw [hHe]; exact va_S.rf
  have hl := lv_entry [.ref h701, .int x701] (n := 3) (Nat.le_of_ble_eq_true rfl)
  rw [lg_entry_eq]
  generalize (lg_sl [.ref h701, .int x701] ++ List.replicate (3 - (lg_sl [.ref h701, .int x701]).length) Slot.unset).toArray = ls at hl ⊢
  have hl : lv_has ls 3 [(0, .ref h701), (1, .int x701)] := hl
  refine lv_bipush (v := 24) hx hb dX12_four_0 (by decide) ?_
  refine lv_istore_n (lv' := [(2, .int 24), (0, .ref h701), (1, .int x701)]) hx hb dX12_four_2 rfl hl (by decide) rfl (fun ls hl => ?_)
  refine lv_iload_n hx hb dX12_four_3 rfl (lv_at hl 0 rfl) ?_
  refine lv_if_lt (tgt := 36) hx hb dX12_four_4 (by decide) (fun h => absurd h (by decide)) (fun _ => ?_)
  refine lv_aload_n hx hb dX12_four_7 rfl (lv_at hl 1 rfl) ?_
  refine va_get (D := (dC, dI)) (ci := 12) (v := .ref (g701 1)) (C := RX12) (T := TX12) (N := 87) hx hb hts in_k_X12_four_3_12 hown hK hP 0 rfl rfl 1 (by decide) (hts (.fieldLink RX12 7 "LineKeeperModel" "tape" "[B") (List.mem_of_getElem? (i := 1) rfl)) (fun _ h9 => h9) rfl dX12_four_8 ?_
  refine lv_aload_n hx hb dX12_four_11 rfl (lv_at hl 1 rfl) ?_
  refine va_get (D := (dC, dI)) (ci := 12) (v := .int 12) (C := RX12) (T := TX12) (N := 87) hx hb hts in_k_X12_four_3_12 hown hK hP 0 rfl rfl 2 (by decide) (hts (.fieldLink RX12 382 "LineKeeperModel" "size" "I") (List.mem_of_getElem? (i := 2) rfl)) (fun _ h9 => h9) rfl dX12_four_12 ?_
  refine lv_iload_n hx hb dX12_four_15 rfl (lv_at hl 2 rfl) ?_
  refine lv_iload_n hx hb dX12_four_16 rfl (lv_at hl 0 rfl) ?_
  refine lv_ishr hx hb dX12_four_17 ?_
  refine lv_topi (fun x1 ex1 => ?_)
  refine lv_i2b hx hb dX12_four_18 rfl ?_
  refine lv_topi (fun x2 ex2 => ?_)
  refine va_bast hx hb hK hP hD hS 1 0 rfl rfl (vx_in (by decide)) dX12_four_19 (fun H locs hP hD hS => ?_)
  generalize (upd f701 (12 : Int32).toNatClampNeg (vp_nar .byte x2)) = f3 at hP hD
  have hP : va_P (dC, dI) vwCl [(h701, .inr (12, (fsM g701).set 2 (.int 12))), ((g701 1), .inl (cA701, 1200, .inl f3))] H := hP
  have hD : va_D A [(h701, .inr (12, (fsM g701).set 2 (.int 12))), ((g701 1), .inl (cA701, 1200, .inl f3))] := hD
  refine lv_aload_n hx hb dX12_four_20 rfl (lv_at hl 1 rfl) ?_
  refine lv_dup hx hb dX12_four_21 rfl ?_
  refine va_get (D := (dC, dI)) (ci := 12) (v := .int 12) (C := RX12) (T := TX12) (N := 87) hx hb hts in_k_X12_four_3_12 hown hK hP 0 rfl rfl 2 (by decide) (hts (.fieldLink RX12 382 "LineKeeperModel" "size" "I") (List.mem_of_getElem? (i := 2) rfl)) (fun _ h9 => h9) rfl dX12_four_22 ?_
  refine lv_iconst (v := 1) hx hb dX12_four_25 (by decide) ?_
  refine lv_iadd hx hb dX12_four_26 ?_
  refine vx_topc (v := 13) (by decide) ?_
  refine va_put (D := (dC, dI)) (ci := 12) (v := .int 13) (ty := .int) (C := RX12) (T := TX12) (N := 87) hx hb hts in_k_X12_four_3_12 tyX12 tyX12_ok nmX12 hown hK hP hD hS 0 rfl rfl 2 (by decide) (hts (.fieldLink RX12 382 "LineKeeperModel" "size" "I") (List.mem_of_getElem? (i := 2) rfl)) (fun _ h9 => h9) rfl (tyX12_ok 2 (by decide)) rfl rfl (Nat.le_of_ble_eq_true rfl) dX12_four_27 (fun H locs hP hD hS => ?_)
  have hP : va_P (dC, dI) vwCl [(h701, .inr (12, (fsM g701).set 2 (.int 13))), ((g701 1), .inl (cA701, 1200, .inl f3))] H := hP
  have hD : va_D A [(h701, .inr (12, (fsM g701).set 2 (.int 13))), ((g701 1), .inl (cA701, 1200, .inl f3))] := hD
  refine lv_iinc (v := 16) (lv' := [(2, .int 16), (0, .ref h701), (1, .int x701)]) hx hb dX12_four_30 hl (k := 0) rfl (by decide) (by decide) rfl (fun ls hl => ?_)
  refine lv_goto (tgt := 3) hx hb dX12_four_33 (by decide) ?_
  refine lv_iload_n hx hb dX12_four_3 rfl (lv_at hl 0 rfl) ?_
  refine lv_if_lt (tgt := 36) hx hb dX12_four_4 (by decide) (fun h => absurd h (by decide)) (fun _ => ?_)
  refine lv_aload_n hx hb dX12_four_7 rfl (lv_at hl 1 rfl) ?_
  refine va_get (D := (dC, dI)) (ci := 12) (v := .ref (g701 1)) (C := RX12) (T := TX12) (N := 87) hx hb hts in_k_X12_four_3_12 hown hK hP 0 rfl rfl 1 (by decide) (hts (.fieldLink RX12 7 "LineKeeperModel" "tape" "[B") (List.mem_of_getElem? (i := 1) rfl)) (fun _ h9 => h9) rfl dX12_four_8 ?_
  refine lv_aload_n hx hb dX12_four_11 rfl (lv_at hl 1 rfl) ?_
  refine va_get (D := (dC, dI)) (ci := 12) (v := .int 13) (C := RX12) (T := TX12) (N := 87) hx hb hts in_k_X12_four_3_12 hown hK hP 0 rfl rfl 2 (by decide) (hts (.fieldLink RX12 382 "LineKeeperModel" "size" "I") (List.mem_of_getElem? (i := 2) rfl)) (fun _ h9 => h9) rfl dX12_four_12 ?_
  refine lv_iload_n hx hb dX12_four_15 rfl (lv_at hl 2 rfl) ?_
  refine lv_iload_n hx hb dX12_four_16 rfl (lv_at hl 0 rfl) ?_
  refine lv_ishr hx hb dX12_four_17 ?_
  refine lv_topi (fun x4 ex4 => ?_)
  refine lv_i2b hx hb dX12_four_18 rfl ?_
  refine lv_topi (fun x5 ex5 => ?_)
  refine va_bast hx hb hK hP hD hS 1 0 rfl rfl (vx_in (by decide)) dX12_four_19 (fun H locs hP hD hS => ?_)
  generalize (upd f3 (13 : Int32).toNatClampNeg (vp_nar .byte x5)) = f6 at hP hD
  have hP : va_P (dC, dI) vwCl [(h701, .inr (12, (fsM g701).set 2 (.int 13))), ((g701 1), .inl (cA701, 1200, .inl f6))] H := hP
  have hD : va_D A [(h701, .inr (12, (fsM g701).set 2 (.int 13))), ((g701 1), .inl (cA701, 1200, .inl f6))] := hD
  refine lv_aload_n hx hb dX12_four_20 rfl (lv_at hl 1 rfl) ?_
  refine lv_dup hx hb dX12_four_21 rfl ?_
  refine va_get (D := (dC, dI)) (ci := 12) (v := .int 13) (C := RX12) (T := TX12) (N := 87) hx hb hts in_k_X12_four_3_12 hown hK hP 0 rfl rfl 2 (by decide) (hts (.fieldLink RX12 382 "LineKeeperModel" "size" "I") (List.mem_of_getElem? (i := 2) rfl)) (fun _ h9 => h9) rfl dX12_four_22 ?_
  refine lv_iconst (v := 1) hx hb dX12_four_25 (by decide) ?_
  refine lv_iadd hx hb dX12_four_26 ?_
  refine vx_topc (v := 14) (by decide) ?_
  refine va_put (D := (dC, dI)) (ci := 12) (v := .int 14) (ty := .int) (C := RX12) (T := TX12) (N := 87) hx hb hts in_k_X12_four_3_12 tyX12 tyX12_ok nmX12 hown hK hP hD hS 0 rfl rfl 2 (by decide) (hts (.fieldLink RX12 382 "LineKeeperModel" "size" "I") (List.mem_of_getElem? (i := 2) rfl)) (fun _ h9 => h9) rfl (tyX12_ok 2 (by decide)) rfl rfl (Nat.le_of_ble_eq_true rfl) dX12_four_27 (fun H locs hP hD hS => ?_)
  have hP : va_P (dC, dI) vwCl [(h701, .inr (12, (fsM g701).set 2 (.int 14))), ((g701 1), .inl (cA701, 1200, .inl f6))] H := hP
  have hD : va_D A [(h701, .inr (12, (fsM g701).set 2 (.int 14))), ((g701 1), .inl (cA701, 1200, .inl f6))] := hD
  refine lv_iinc (v := 8) (lv' := [(2, .int 8), (0, .ref h701), (1, .int x701)]) hx hb dX12_four_30 hl (k := 0) rfl (by decide) (by decide) rfl (fun ls hl => ?_)
  refine lv_goto (tgt := 3) hx hb dX12_four_33 (by decide) ?_
  refine lv_iload_n hx hb dX12_four_3 rfl (lv_at hl 0 rfl) ?_
  refine lv_if_lt (tgt := 36) hx hb dX12_four_4 (by decide) (fun h => absurd h (by decide)) (fun _ => ?_)
  refine lv_aload_n hx hb dX12_four_7 rfl (lv_at hl 1 rfl) ?_
  refine va_get (D := (dC, dI)) (ci := 12) (v := .ref (g701 1)) (C := RX12) (T := TX12) (N := 87) hx hb hts in_k_X12_four_3_12 hown hK hP 0 rfl rfl 1 (by decide) (hts (.fieldLink RX12 7 "LineKeeperModel" "tape" "[B") (List.mem_of_getElem? (i := 1) rfl)) (fun _ h9 => h9) rfl dX12_four_8 ?_
  refine lv_aload_n hx hb dX12_four_11 rfl (lv_at hl 1 rfl) ?_
  refine va_get (D := (dC, dI)) (ci := 12) (v := .int 14) (C := RX12) (T := TX12) (N := 87) hx hb hts in_k_X12_four_3_12 hown hK hP 0 rfl rfl 2 (by decide) (hts (.fieldLink RX12 382 "LineKeeperModel" "size" "I") (List.mem_of_getElem? (i := 2) rfl)) (fun _ h9 => h9) rfl dX12_four_12 ?_
  refine lv_iload_n hx hb dX12_four_15 rfl (lv_at hl 2 rfl) ?_
  refine lv_iload_n hx hb dX12_four_16 rfl (lv_at hl 0 rfl) ?_
  refine lv_ishr hx hb dX12_four_17 ?_
  refine lv_topi (fun x7 ex7 => ?_)
  refine lv_i2b hx hb dX12_four_18 rfl ?_
  refine lv_topi (fun x8 ex8 => ?_)
  refine va_bast hx hb hK hP hD hS 1 0 rfl rfl (vx_in (by decide)) dX12_four_19 (fun H locs hP hD hS => ?_)
  generalize (upd f6 (14 : Int32).toNatClampNeg (vp_nar .byte x8)) = f9 at hP hD
  have hP : va_P (dC, dI) vwCl [(h701, .inr (12, (fsM g701).set 2 (.int 14))), ((g701 1), .inl (cA701, 1200, .inl f9))] H := hP
  have hD : va_D A [(h701, .inr (12, (fsM g701).set 2 (.int 14))), ((g701 1), .inl (cA701, 1200, .inl f9))] := hD
  refine lv_aload_n hx hb dX12_four_20 rfl (lv_at hl 1 rfl) ?_
  refine lv_dup hx hb dX12_four_21 rfl ?_
  refine va_get (D := (dC, dI)) (ci := 12) (v := .int 14) (C := RX12) (T := TX12) (N := 87) hx hb hts in_k_X12_four_3_12 hown hK hP 0 rfl rfl 2 (by decide) (hts (.fieldLink RX12 382 "LineKeeperModel" "size" "I") (List.mem_of_getElem? (i := 2) rfl)) (fun _ h9 => h9) rfl dX12_four_22 ?_
  refine lv_iconst (v := 1) hx hb dX12_four_25 (by decide) ?_
  refine lv_iadd hx hb dX12_four_26 ?_
  refine vx_topc (v := 15) (by decide) ?_
  refine va_put (D := (dC, dI)) (ci := 12) (v := .int 15) (ty := .int) (C := RX12) (T := TX12) (N := 87) hx hb hts in_k_X12_four_3_12 tyX12 tyX12_ok nmX12 hown hK hP hD hS 0 rfl rfl 2 (by decide) (hts (.fieldLink RX12 382 "LineKeeperModel" "size" "I") (List.mem_of_getElem? (i := 2) rfl)) (fun _ h9 => h9) rfl (tyX12_ok 2 (by decide)) rfl rfl (Nat.le_of_ble_eq_true rfl) dX12_four_27 (fun H locs hP hD hS => ?_)
  have hP : va_P (dC, dI) vwCl [(h701, .inr (12, (fsM g701).set 2 (.int 15))), ((g701 1), .inl (cA701, 1200, .inl f9))] H := hP
  have hD : va_D A [(h701, .inr (12, (fsM g701).set 2 (.int 15))), ((g701 1), .inl (cA701, 1200, .inl f9))] := hD
  refine lv_iinc (v := 0) (lv' := [(2, .int 0), (0, .ref h701), (1, .int x701)]) hx hb dX12_four_30 hl (k := 0) rfl (by decide) (by decide) rfl (fun ls hl => ?_)
  refine lv_goto (tgt := 3) hx hb dX12_four_33 (by decide) ?_
  refine lv_iload_n hx hb dX12_four_3 rfl (lv_at hl 0 rfl) ?_
  refine lv_if_lt (tgt := 36) hx hb dX12_four_4 (by decide) (fun h => absurd h (by decide)) (fun _ => ?_)
  refine lv_aload_n hx hb dX12_four_7 rfl (lv_at hl 1 rfl) ?_
  refine va_get (D := (dC, dI)) (ci := 12) (v := .ref (g701 1)) (C := RX12) (T := TX12) (N := 87) hx hb hts in_k_X12_four_3_12 hown hK hP 0 rfl rfl 1 (by decide) (hts (.fieldLink RX12 7 "LineKeeperModel" "tape" "[B") (List.mem_of_getElem? (i := 1) rfl)) (fun _ h9 => h9) rfl dX12_four_8 ?_
  refine lv_aload_n hx hb dX12_four_11 rfl (lv_at hl 1 rfl) ?_
  refine va_get (D := (dC, dI)) (ci := 12) (v := .int 15) (C := RX12) (T := TX12) (N := 87) hx hb hts in_k_X12_four_3_12 hown hK hP 0 rfl rfl 2 (by decide) (hts (.fieldLink RX12 382 "LineKeeperModel" "size" "I") (List.mem_of_getElem? (i := 2) rfl)) (fun _ h9 => h9) rfl dX12_four_12 ?_
  refine lv_iload_n hx hb dX12_four_15 rfl (lv_at hl 2 rfl) ?_
  refine lv_iload_n hx hb dX12_four_16 rfl (lv_at hl 0 rfl) ?_
  refine lv_ishr hx hb dX12_four_17 ?_
  refine lv_topi (fun x10 ex10 => ?_)
  refine lv_i2b hx hb dX12_four_18 rfl ?_
  refine lv_topi (fun x11 ex11 => ?_)
  refine va_bast hx hb hK hP hD hS 1 0 rfl rfl (vx_in (by decide)) dX12_four_19 (fun H locs hP hD hS => ?_)
  generalize (upd f9 (15 : Int32).toNatClampNeg (vp_nar .byte x11)) = f12 at hP hD
  have hP : va_P (dC, dI) vwCl [(h701, .inr (12, (fsM g701).set 2 (.int 15))), ((g701 1), .inl (cA701, 1200, .inl f12))] H := hP
  have hD : va_D A [(h701, .inr (12, (fsM g701).set 2 (.int 15))), ((g701 1), .inl (cA701, 1200, .inl f12))] := hD
  refine lv_aload_n hx hb dX12_four_20 rfl (lv_at hl 1 rfl) ?_
  refine lv_dup hx hb dX12_four_21 rfl ?_
  refine va_get (D := (dC, dI)) (ci := 12) (v := .int 15) (C := RX12) (T := TX12) (N := 87) hx hb hts in_k_X12_four_3_12 hown hK hP 0 rfl rfl 2 (by decide) (hts (.fieldLink RX12 382 "LineKeeperModel" "size" "I") (List.mem_of_getElem? (i := 2) rfl)) (fun _ h9 => h9) rfl dX12_four_22 ?_
  refine lv_iconst (v := 1) hx hb dX12_four_25 (by decide) ?_
  refine lv_iadd hx hb dX12_four_26 ?_
  refine vx_topc (v := 16) (by decide) ?_
  refine va_put (D := (dC, dI)) (ci := 12) (v := .int 16) (ty := .int) (C := RX12) (T := TX12) (N := 87) hx hb hts in_k_X12_four_3_12 tyX12 tyX12_ok nmX12 hown hK hP hD hS 0 rfl rfl 2 (by decide) (hts (.fieldLink RX12 382 "LineKeeperModel" "size" "I") (List.mem_of_getElem? (i := 2) rfl)) (fun _ h9 => h9) rfl (tyX12_ok 2 (by decide)) rfl rfl (Nat.le_of_ble_eq_true rfl) dX12_four_27 (fun H locs hP hD hS => ?_)
  have hP : va_P (dC, dI) vwCl [(h701, .inr (12, (fsM g701).set 2 (.int 16))), ((g701 1), .inl (cA701, 1200, .inl f12))] H := hP
  have hD : va_D A [(h701, .inr (12, (fsM g701).set 2 (.int 16))), ((g701 1), .inl (cA701, 1200, .inl f12))] := hD
  refine lv_iinc (v := (-8)) (lv' := [(2, .int (-8)), (0, .ref h701), (1, .int x701)]) hx hb dX12_four_30 hl (k := 0) rfl (by decide) (by decide) rfl (fun ls hl => ?_)
  refine lv_goto (tgt := 3) hx hb dX12_four_33 (by decide) ?_
  refine lv_iload_n hx hb dX12_four_3 rfl (lv_at hl 0 rfl) ?_
  refine lv_if_lt (tgt := 36) hx hb dX12_four_4 (by decide) (fun _ => ?_) (fun h => absurd (by decide) h)
  have hP9 := hP.sub (ws' := [(h701, .inr (12, (fsM g701).set 2 (.int 16))), ((g701 1), .inl (cA701, 1200, .inl f12))]) [0, 1] rfl
  have hD9 := hD.sub (ws' := [(h701, .inr (12, (fsM g701).set 2 (.int 16))), ((g701 1), .inl (cA701, 1200, .inl f12))]) [0, 1] (by decide) rfl
  have hK9 := hK.sub (tys' := [(cA701, .byte)]) [0] rfl
  exact W.vret hx hb hr (fun t ht hW => ⟨⟨(), rfl, trivial, f12, by rw [ht]; exact hP9, va_K.moved hW.alike hK9, hD9⟩, hS.F ht⟩) hS.2.2 dX12_four_36

def w_k_X12_four_4 : List Cond := .code yX12_four cX12_four 3 none :: ([.fieldLink RX12 7 "LineKeeperModel" "tape" "[B", .fieldLink RX12 382 "LineKeeperModel" "size" "I"] ++ wsX120)
theorem in_k_X12_four_4_12 : ∀ w ∈ wsX120, w ∈ w_k_X12_four_4 := fun _ h => List.mem_cons_of_mem _ (List.mem_append_right _ h)
set_option maxHeartbeats 4000000 in
set_option maxRecDepth 100000 in
theorem k_X12_four_4 (l : Launch) (dC : Nat → ClassId) (dI : Nat → Nat → Nat) (h701 : Nat) (x701 : Int32) (g701 : Nat → Nat) (cA701 : ClassId) (f701 : Nat → Int32) (sz : Nat) : Met l yX12_four w_k_X12_four_4 { frames := 0, cells := 0, slots := 0, locals := 0 } (va_Pc [.ref h701, .int x701] (vx_pre dC dI [(h701, .inr (12, (fsM g701).set 2 (.int 16))), ((g701 1), .inl (cA701, 1200, .inl f701))] [(cA701, .byte)] sz)) (va_Qv (fun _ : Unit => True) (fun _ t => ∃ (f901 : Nat → Int32), vx_B dC dI (va_A [(h701, .inr (12, (fsM g701).set 2 (.int 16))), ((g701 1), .inl (cA701, 1200, .inl f701))] sz) [(h701, .inr (12, (fsM g701).set 2 (.int 20))), ((g701 1), .inl (cA701, 1200, .inl f901))] [(cA701, .byte)] t) (va_A [(h701, .inr (12, (fsM g701).set 2 (.int 16))), ((g701 1), .inl (cA701, 1200, .inl f701))] sz)) 0 0 (va_A [(h701, .inr (12, (fsM g701).set 2 (.int 16))), ((g701 1), .inl (cA701, 1200, .inl f701))] sz) := by
  refine Met.ofW (cc := cX12_four) (maxL := 3) (ret := none) (by decide) rfl ?_
  intro p e s m args below meth c s₁ B hml hv
  obtain ⟨rfl, hsz, hP, hK, hD0, hN⟩ := hv
  have hx := B.exec
  have hb := B.bytes
  have hr := B.returns
  have hts := atoms_spec (ws := w_k_X12_four_4) B.pre
  have hown : s.vm.findClass RX12 = some m.cls := findClass_of_methodNamed B.named
  have hlocks := B.notSynchronized
  subst hsz
  have hD := hD0.self (sz := s.heap.size)
  generalize hAe : va_A [(h701, .inr (12, (fsM g701).set 2 (.int 16))), ((g701 1), .inl (cA701, 1200, .inl f701))] s.heap.size = A at hD ⊢
  have hA : ∀ q : Nat, s.heap.size ≤ q → A q := fun q h => by rw [← hAe]; exact Or.inr h
  obtain ⟨H, hHe⟩ : ∃ H, H = s.heap := ⟨_, rfl⟩
  rw [← hHe] at hP ⊢
  have hS : va_S A s.heap H [] := by rw [hHe]; exact va_S.rf
  have hl := lv_entry [.ref h701, .int x701] (n := 3) (Nat.le_of_ble_eq_true rfl)
  rw [lg_entry_eq]
  generalize (lg_sl [.ref h701, .int x701] ++ List.replicate (3 - (lg_sl [.ref h701, .int x701]).length) Slot.unset).toArray = ls at hl ⊢
  have hl : lv_has ls 3 [(0, .ref h701), (1, .int x701)] := hl
  refine lv_bipush (v := 24) hx hb dX12_four_0 (by decide) ?_
  refine lv_istore_n (lv' := [(2, .int 24), (0, .ref h701), (1, .int x701)]) hx hb dX12_four_2 rfl hl (by decide) rfl (fun ls hl => ?_)
  refine lv_iload_n hx hb dX12_four_3 rfl (lv_at hl 0 rfl) ?_
  refine lv_if_lt (tgt := 36) hx hb dX12_four_4 (by decide) (fun h => absurd h (by decide)) (fun _ => ?_)
  refine lv_aload_n hx hb dX12_four_7 rfl (lv_at hl 1 rfl) ?_
  refine va_get (D := (dC, dI)) (ci := 12) (v := .ref (g701 1)) (C := RX12) (T := TX12) (N := 87) hx hb hts in_k_X12_four_4_12 hown hK hP 0 rfl rfl 1 (by decide) (hts (.fieldLink RX12 7 "LineKeeperModel" "tape" "[B") (List.mem_of_getElem? (i := 1) rfl)) (fun _ h9 => h9) rfl dX12_four_8 ?_
  refine lv_aload_n hx hb dX12_four_11 rfl (lv_at hl 1 rfl) ?_
  refine va_get (D := (dC, dI)) (ci := 12) (v := .int 16) (C := RX12) (T := TX12) (N := 87) hx hb hts in_k_X12_four_4_12 hown hK hP 0 rfl rfl 2 (by decide) (hts (.fieldLink RX12 382 "LineKeeperModel" "size" "I") (List.mem_of_getElem? (i := 2) rfl)) (fun _ h9 => h9) rfl dX12_four_12 ?_
  refine lv_iload_n hx hb dX12_four_15 rfl (lv_at hl 2 rfl) ?_
  refine lv_iload_n hx hb dX12_four_16 rfl (lv_at hl 0 rfl) ?_
  refine lv_ishr hx hb dX12_four_17 ?_
  refine lv_topi (fun x1 ex1 => ?_)
  refine lv_i2b hx hb dX12_four_18 rfl ?_
  refine lv_topi (fun x2 ex2 => ?_)
  refine va_bast hx hb hK hP hD hS 1 0 rfl rfl (vx_in (by decide)) dX12_four_19 (fun H locs hP hD hS => ?_)
  generalize (upd f701 (16 : Int32).toNatClampNeg (vp_nar .byte x2)) = f3 at hP hD
  have hP : va_P (dC, dI) vwCl [(h701, .inr (12, (fsM g701).set 2 (.int 16))), ((g701 1), .inl (cA701, 1200, .inl f3))] H := hP
  have hD : va_D A [(h701, .inr (12, (fsM g701).set 2 (.int 16))), ((g701 1), .inl (cA701, 1200, .inl f3))] := hD
  refine lv_aload_n hx hb dX12_four_20 rfl (lv_at hl 1 rfl) ?_
  refine lv_dup hx hb dX12_four_21 rfl ?_
  refine va_get (D := (dC, dI)) (ci := 12) (v := .int 16) (C := RX12) (T := TX12) (N := 87) hx hb hts in_k_X12_four_4_12 hown hK hP 0 rfl rfl 2 (by decide) (hts (.fieldLink RX12 382 "LineKeeperModel" "size" "I") (List.mem_of_getElem? (i := 2) rfl)) (fun _ h9 => h9) rfl dX12_four_22 ?_
  refine lv_iconst (v := 1) hx hb dX12_four_25 (by decide) ?_
  refine lv_iadd hx hb dX12_four_26 ?_
  refine vx_topc (v := 17) (by decide) ?_
  refine va_put (D := (dC, dI)) (ci := 12) (v := .int 17) (ty := .int) (C := RX12) (T := TX12) (N := 87) hx hb hts in_k_X12_four_4_12 tyX12 tyX12_ok nmX12 hown hK hP hD hS 0 rfl rfl 2 (by decide) (hts (.fieldLink RX12 382 "LineKeeperModel" "size" "I") (List.mem_of_getElem? (i := 2) rfl)) (fun _ h9 => h9) rfl (tyX12_ok 2 (by decide)) rfl rfl (Nat.le_of_ble_eq_true rfl) dX12_four_27 (fun H locs hP hD hS => ?_)
  have hP : va_P (dC, dI) vwCl [(h701, .inr (12, (fsM g701).set 2 (.int 17))), ((g701 1), .inl (cA701, 1200, .inl f3))] H := hP
  have hD : va_D A [(h701, .inr (12, (fsM g701).set 2 (.int 17))), ((g701 1), .inl (cA701, 1200, .inl f3))] := hD
  refine lv_iinc (v := 16) (lv' := [(2, .int 16), (0, .ref h701), (1, .int x701)]) hx hb dX12_four_30 hl (k := 0) rfl (by decide) (by decide) rfl (fun ls hl => ?_)
  refine lv_goto (tgt := 3) hx hb dX12_four_33 (by decide) ?_
  refine lv_iload_n hx hb dX12_four_3 rfl (lv_at hl 0 rfl) ?_
  refine lv_if_lt (tgt := 36) hx hb dX12_four_4 (by decide) (fun h => absurd h (by decide)) (fun _ => ?_)
  refine lv_aload_n hx hb dX12_four_7 rfl (lv_at hl 1 rfl) ?_
  refine va_get (D := (dC, dI)) (ci := 12) (v := .ref (g701 1)) (C := RX12) (T := TX12) (N := 87) hx hb hts in_k_X12_four_4_12 hown hK hP 0 rfl rfl 1 (by decide) (hts (.fieldLink RX12 7 "LineKeeperModel" "tape" "[B") (List.mem_of_getElem? (i := 1) rfl)) (fun _ h9 => h9) rfl dX12_four_8 ?_
  refine lv_aload_n hx hb dX12_four_11 rfl (lv_at hl 1 rfl) ?_
  refine va_get (D := (dC, dI)) (ci := 12) (v := .int 17) (C := RX12) (T := TX12) (N := 87) hx hb hts in_k_X12_four_4_12 hown hK hP 0 rfl rfl 2 (by decide) (hts (.fieldLink RX12 382 "LineKeeperModel" "size" "I") (List.mem_of_getElem? (i := 2) rfl)) (fun _ h9 => h9) rfl dX12_four_12 ?_
  refine lv_iload_n hx hb dX12_four_15 rfl (lv_at hl 2 rfl) ?_
  refine lv_iload_n hx hb dX12_four_16 rfl (lv_at hl 0 rfl) ?_
  refine lv_ishr hx hb dX12_four_17 ?_
  refine lv_topi (fun x4 ex4 => ?_)
  refine lv_i2b hx hb dX12_four_18 rfl ?_
  refine lv_topi (fun x5 ex5 => ?_)
  refine va_bast hx hb hK hP hD hS 1 0 rfl rfl (vx_in (by decide)) dX12_four_19 (fun H locs hP hD hS => ?_)
  generalize (upd f3 (17 : Int32).toNatClampNeg (vp_nar .byte x5)) = f6 at hP hD
  have hP : va_P (dC, dI) vwCl [(h701, .inr (12, (fsM g701).set 2 (.int 17))), ((g701 1), .inl (cA701, 1200, .inl f6))] H := hP
  have hD : va_D A [(h701, .inr (12, (fsM g701).set 2 (.int 17))), ((g701 1), .inl (cA701, 1200, .inl f6))] := hD
  refine lv_aload_n hx hb dX12_four_20 rfl (lv_at hl 1 rfl) ?_
  refine lv_dup hx hb dX12_four_21 rfl ?_
  refine va_get (D := (dC, dI)) (ci := 12) (v := .int 17) (C := RX12) (T := TX12) (N := 87) hx hb hts in_k_X12_four_4_12 hown hK hP 0 rfl rfl 2 (by decide) (hts (.fieldLink RX12 382 "LineKeeperModel" "size" "I") (List.mem_of_getElem? (i := 2) rfl)) (fun _ h9 => h9) rfl dX12_four_22 ?_
  refine lv_iconst (v := 1) hx hb dX12_four_25 (by decide) ?_
  refine lv_iadd hx hb dX12_four_26 ?_
  refine vx_topc (v := 18) (by decide) ?_
  refine va_put (D := (dC, dI)) (ci := 12) (v := .int 18) (ty := .int) (C := RX12) (T := TX12) (N := 87) hx hb hts in_k_X12_four_4_12 tyX12 tyX12_ok nmX12 hown hK hP hD hS 0 rfl rfl 2 (by decide) (hts (.fieldLink RX12 382 "LineKeeperModel" "size" "I") (List.mem_of_getElem? (i := 2) rfl)) (fun _ h9 => h9) rfl (tyX12_ok 2 (by decide)) rfl rfl (Nat.le_of_ble_eq_true rfl) dX12_four_27 (fun H locs hP hD hS => ?_)
  have hP : va_P (dC, dI) vwCl [(h701, .inr (12, (fsM g701).set 2 (.int 18))), ((g701 1), .inl (cA701, 1200, .inl f6))] H := hP
  have hD : va_D A [(h701, .inr (12, (fsM g701).set 2 (.int 18))), ((g701 1), .inl (cA701, 1200, .inl f6))] := hD
  refine lv_iinc (v := 8) (lv' := [(2, .int 8), (0, .ref h701), (1, .int x701)]) hx hb dX12_four_30 hl (k := 0) rfl (by decide) (by decide) rfl (fun ls hl => ?_)
  refine lv_goto (tgt := 3) hx hb dX12_four_33 (by decide) ?_
  refine lv_iload_n hx hb dX12_four_3 rfl (lv_at hl 0 rfl) ?_
  refine lv_if_lt (tgt := 36) hx hb dX12_four_4 (by decide) (fun h => absurd h (by decide)) (fun _ => ?_)
  refine lv_aload_n hx hb dX12_four_7 rfl (lv_at hl 1 rfl) ?_
  refine va_get (D := (dC, dI)) (ci := 12) (v := .ref (g701 1)) (C := RX12) (T := TX12) (N := 87) hx hb hts in_k_X12_four_4_12 hown hK hP 0 rfl rfl 1 (by decide) (hts (.fieldLink RX12 7 "LineKeeperModel" "tape" "[B") (List.mem_of_getElem? (i := 1) rfl)) (fun _ h9 => h9) rfl dX12_four_8 ?_
  refine lv_aload_n hx hb dX12_four_11 rfl (lv_at hl 1 rfl) ?_
  refine va_get (D := (dC, dI)) (ci := 12) (v := .int 18) (C := RX12) (T := TX12) (N := 87) hx hb hts in_k_X12_four_4_12 hown hK hP 0 rfl rfl 2 (by decide) (hts (.fieldLink RX12 382 "LineKeeperModel" "size" "I") (List.mem_of_getElem? (i := 2) rfl)) (fun _ h9 => h9) rfl dX12_four_12 ?_
  refine lv_iload_n hx hb dX12_four_15 rfl (lv_at hl 2 rfl) ?_
  refine lv_iload_n hx hb dX12_four_16 rfl (lv_at hl 0 rfl) ?_
  refine lv_ishr hx hb dX12_four_17 ?_
  refine lv_topi (fun x7 ex7 => ?_)
  refine lv_i2b hx hb dX12_four_18 rfl ?_
  refine lv_topi (fun x8 ex8 => ?_)
  refine va_bast hx hb hK hP hD hS 1 0 rfl rfl (vx_in (by decide)) dX12_four_19 (fun H locs hP hD hS => ?_)
  generalize (upd f6 (18 : Int32).toNatClampNeg (vp_nar .byte x8)) = f9 at hP hD
  have hP : va_P (dC, dI) vwCl [(h701, .inr (12, (fsM g701).set 2 (.int 18))), ((g701 1), .inl (cA701, 1200, .inl f9))] H := hP
  have hD : va_D A [(h701, .inr (12, (fsM g701).set 2 (.int 18))), ((g701 1), .inl (cA701, 1200, .inl f9))] := hD
  refine lv_aload_n hx hb dX12_four_20 rfl (lv_at hl 1 rfl) ?_
  refine lv_dup hx hb dX12_four_21 rfl ?_
  refine va_get (D := (dC, dI)) (ci := 12) (v := .int 18) (C := RX12) (T := TX12) (N := 87) hx hb hts in_k_X12_four_4_12 hown hK hP 0 rfl rfl 2 (by decide) (hts (.fieldLink RX12 382 "LineKeeperModel" "size" "I") (List.mem_of_getElem? (i := 2) rfl)) (fun _ h9 => h9) rfl dX12_four_22 ?_
  refine lv_iconst (v := 1) hx hb dX12_four_25 (by decide) ?_
  refine lv_iadd hx hb dX12_four_26 ?_
  refine vx_topc (v := 19) (by decide) ?_
  refine va_put (D := (dC, dI)) (ci := 12) (v := .int 19) (ty := .int) (C := RX12) (T := TX12) (N := 87) hx hb hts in_k_X12_four_4_12 tyX12 tyX12_ok nmX12 hown hK hP hD hS 0 rfl rfl 2 (by decide) (hts (.fieldLink RX12 382 "LineKeeperModel" "size" "I") (List.mem_of_getElem? (i := 2) rfl)) (fun _ h9 => h9) rfl (tyX12_ok 2 (by decide)) rfl rfl (Nat.le_of_ble_eq_true rfl) dX12_four_27 (fun H locs hP hD hS => ?_)
  have hP : va_P (dC, dI) vwCl [(h701, .inr (12, (fsM g701).set 2 (.int 19))), ((g701 1), .inl (cA701, 1200, .inl f9))] H := hP
  have hD : va_D A [(h701, .inr (12, (fsM g701).set 2 (.int 19))), ((g701 1), .inl (cA701, 1200, .inl f9))] := hD
  refine lv_iinc (v := 0) (lv' := [(2, .int 0), (0, .ref h701), (1, .int x701)]) hx hb dX12_four_30 hl (k := 0) rfl (by decide) (by decide) rfl (fun ls hl => ?_)
  refine lv_goto (tgt := 3) hx hb dX12_four_33 (by decide) ?_
  refine lv_iload_n hx hb dX12_four_3 rfl (lv_at hl 0 rfl) ?_
  refine lv_if_lt (tgt := 36) hx hb dX12_four_4 (by decide) (fun h => absurd h (by decide)) (fun _ => ?_)
  refine lv_aload_n hx hb dX12_four_7 rfl (lv_at hl 1 rfl) ?_
  refine va_get (D := (dC, dI)) (ci := 12) (v := .ref (g701 1)) (C := RX12) (T := TX12) (N := 87) hx hb hts in_k_X12_four_4_12 hown hK hP 0 rfl rfl 1 (by decide) (hts (.fieldLink RX12 7 "LineKeeperModel" "tape" "[B") (List.mem_of_getElem? (i := 1) rfl)) (fun _ h9 => h9) rfl dX12_four_8 ?_
  refine lv_aload_n hx hb dX12_four_11 rfl (lv_at hl 1 rfl) ?_
  refine va_get (D := (dC, dI)) (ci := 12) (v := .int 19) (C := RX12) (T := TX12) (N := 87) hx hb hts in_k_X12_four_4_12 hown hK hP 0 rfl rfl 2 (by decide) (hts (.fieldLink RX12 382 "LineKeeperModel" "size" "I") (List.mem_of_getElem? (i := 2) rfl)) (fun _ h9 => h9) rfl dX12_four_12 ?_
  refine lv_iload_n hx hb dX12_four_15 rfl (lv_at hl 2 rfl) ?_
  refine lv_iload_n hx hb dX12_four_16 rfl (lv_at hl 0 rfl) ?_
  refine lv_ishr hx hb dX12_four_17 ?_
  refine lv_topi (fun x10 ex10 => ?_)
  refine lv_i2b hx hb dX12_four_18 rfl ?_
  refine lv_topi (fun x11 ex11 => ?_)
  refine va_bast hx hb hK hP hD hS 1 0 rfl rfl (vx_in (by decide)) dX12_four_19 (fun H locs hP hD hS => ?_)
  generalize (upd f9 (19 : Int32).toNatClampNeg (vp_nar .byte x11)) = f12 at hP hD
  have hP : va_P (dC, dI) vwCl [(h701, .inr (12, (fsM g701).set 2 (.int 19))), ((g701 1), .inl (cA701, 1200, .inl f12))] H := hP
  have hD : va_D A [(h701, .inr (12, (fsM g701).set 2 (.int 19))), ((g701 1), .inl (cA701, 1200, .inl f12))] := hD
  refine lv_aload_n hx hb dX12_four_20 rfl (lv_at hl 1 rfl) ?_
  refine lv_dup hx hb dX12_four_21 rfl ?_
  refine va_get (D := (dC, dI)) (ci := 12) (v := .int 19) (C := RX12) (T := TX12) (N := 87) hx hb hts in_k_X12_four_4_12 hown hK hP 0 rfl rfl 2 (by decide) (hts (.fieldLink RX12 382 "LineKeeperModel" "size" "I") (List.mem_of_getElem? (i := 2) rfl)) (fun _ h9 => h9) rfl dX12_four_22 ?_
  refine lv_iconst (v := 1) hx hb dX12_four_25 (by decide) ?_
  refine lv_iadd hx hb dX12_four_26 ?_
  refine vx_topc (v := 20) (by decide) ?_
  refine va_put (D := (dC, dI)) (ci := 12) (v := .int 20) (ty := .int) (C := RX12) (T := TX12) (N := 87) hx hb hts in_k_X12_four_4_12 tyX12 tyX12_ok nmX12 hown hK hP hD hS 0 rfl rfl 2 (by decide) (hts (.fieldLink RX12 382 "LineKeeperModel" "size" "I") (List.mem_of_getElem? (i := 2) rfl)) (fun _ h9 => h9) rfl (tyX12_ok 2 (by decide)) rfl rfl (Nat.le_of_ble_eq_true rfl) dX12_four_27 (fun H locs hP hD hS => ?_)
  have hP : va_P (dC, dI) vwCl [(h701, .inr (12, (fsM g701).set 2 (.int 20))), ((g701 1), .inl (cA701, 1200, .inl f12))] H := hP
  have hD : va_D A [(h701, .inr (12, (fsM g701).set 2 (.int 20))), ((g701 1), .inl (cA701, 1200, .inl f12))] := hD
  refine lv_iinc (v := (-8)) (lv' := [(2, .int (-8)), (0, .ref h701), (1, .int x701)]) hx hb dX12_four_30 hl (k := 0) rfl (by decide) (by decide) rfl (fun ls hl => ?_)
  refine lv_goto (tgt := 3) hx hb dX12_four_33 (by decide) ?_
  refine lv_iload_n hx hb dX12_four_3 rfl (lv_at hl 0 rfl) ?_
  refine lv_if_lt (tgt := 36) hx hb dX12_four_4 (by decide) (fun _ => ?_) (fun h => absurd (by decide) h)
  have hP9 := hP.sub (ws' := [(h701, .inr (12, (fsM g701).set 2 (.int 20))), ((g701 1), .inl (cA701, 1200, .inl f12))]) [0, 1] rfl
  have hD9 := hD.sub (ws' := [(h701, .inr (12, (fsM g701).set 2 (.int 20))), ((g701 1), .inl (cA701, 1200, .inl f12))]) [0, 1] (by decide) rfl
  have hK9 := hK.sub (tys' := [(cA701, .byte)]) [0] rfl
  exact W.vret hx hb hr (fun t ht hW => ⟨⟨(), rfl, trivial, f12, by rw [ht]; exact hP9, va_K.moved hW.alike hK9, hD9⟩, hS.F ht⟩) hS.2.2 dX12_four_36

def w_m_feed : List Cond := .code yX12_feed cX12_feed 6 (some .int) :: ([.fieldLink RX12 185 "LineKeeperModel" "code" "I", .fieldLink RX12 382 "LineKeeperModel" "size" "I", .fieldLink RX12 7 "LineKeeperModel" "tape" "[B", .code yX12_four cX12_four 3 none, .initialized RX12, .methodLink RX12 385 yX12_four, .instanceMethod yX12_four, .selects RX12 yX12_four yX12_four] ++ wsX120)
theorem in_m_feed_12 : ∀ w ∈ wsX120, w ∈ w_m_feed := fun _ h => List.mem_cons_of_mem _ (List.mem_append_right _ h)
set_option maxRecDepth 100000 in
theorem g_m_feed_k_X12_four_0_385 : GoodIn w_m_feed (wsV RX12 385 RX12 yX12_four w_k_X12_four_0) := goodIn_r _ [6, 7, 8, 5, 4, 3, 2, 9, 10, 11, 12, 13, 14, 15, 16, 17, 18, 19, 20, 21, 22, 23, 24, 25, 26, 27, 28, 29, 30, 31, 32, 33, 34, 35, 36, 37, 38, 39, 40, 41, 42, 43, 44, 45, 46, 47, 48, 49, 50, 51, 52, 53, 54, 55, 56, 57, 58, 59, 60, 61, 62, 63, 64, 65, 66, 67, 68, 69, 70, 71, 72, 73, 74, 75, 76, 77, 78, 79, 80, 81, 82, 83, 84, 85, 86, 87, 88, 89, 90, 91, 92, 93, 94, 95] (by decide +kernel) (by decide +kernel)
set_option maxRecDepth 100000 in
theorem g_m_feed_k_X12_four_1_385 : GoodIn w_m_feed (wsV RX12 385 RX12 yX12_four w_k_X12_four_1) := goodIn_r _ [6, 7, 8, 5, 4, 3, 2, 9, 10, 11, 12, 13, 14, 15, 16, 17, 18, 19, 20, 21, 22, 23, 24, 25, 26, 27, 28, 29, 30, 31, 32, 33, 34, 35, 36, 37, 38, 39, 40, 41, 42, 43, 44, 45, 46, 47, 48, 49, 50, 51, 52, 53, 54, 55, 56, 57, 58, 59, 60, 61, 62, 63, 64, 65, 66, 67, 68, 69, 70, 71, 72, 73, 74, 75, 76, 77, 78, 79, 80, 81, 82, 83, 84, 85, 86, 87, 88, 89, 90, 91, 92, 93, 94, 95] (by decide +kernel) (by decide +kernel)
set_option maxRecDepth 100000 in
theorem g_m_feed_k_X12_four_2_385 : GoodIn w_m_feed (wsV RX12 385 RX12 yX12_four w_k_X12_four_2) := goodIn_r _ [6, 7, 8, 5, 4, 3, 2, 9, 10, 11, 12, 13, 14, 15, 16, 17, 18, 19, 20, 21, 22, 23, 24, 25, 26, 27, 28, 29, 30, 31, 32, 33, 34, 35, 36, 37, 38, 39, 40, 41, 42, 43, 44, 45, 46, 47, 48, 49, 50, 51, 52, 53, 54, 55, 56, 57, 58, 59, 60, 61, 62, 63, 64, 65, 66, 67, 68, 69, 70, 71, 72, 73, 74, 75, 76, 77, 78, 79, 80, 81, 82, 83, 84, 85, 86, 87, 88, 89, 90, 91, 92, 93, 94, 95] (by decide +kernel) (by decide +kernel)
set_option maxRecDepth 100000 in
theorem g_m_feed_k_X12_four_3_385 : GoodIn w_m_feed (wsV RX12 385 RX12 yX12_four w_k_X12_four_3) := goodIn_r _ [6, 7, 8, 5, 4, 3, 2, 9, 10, 11, 12, 13, 14, 15, 16, 17, 18, 19, 20, 21, 22, 23, 24, 25, 26, 27, 28, 29, 30, 31, 32, 33, 34, 35, 36, 37, 38, 39, 40, 41, 42, 43, 44, 45, 46, 47, 48, 49, 50, 51, 52, 53, 54, 55, 56, 57, 58, 59, 60, 61, 62, 63, 64, 65, 66, 67, 68, 69, 70, 71, 72, 73, 74, 75, 76, 77, 78, 79, 80, 81, 82, 83, 84, 85, 86, 87, 88, 89, 90, 91, 92, 93, 94, 95] (by decide +kernel) (by decide +kernel)
set_option maxRecDepth 100000 in
theorem g_m_feed_k_X12_four_4_385 : GoodIn w_m_feed (wsV RX12 385 RX12 yX12_four w_k_X12_four_4) := goodIn_r _ [6, 7, 8, 5, 4, 3, 2, 9, 10, 11, 12, 13, 14, 15, 16, 17, 18, 19, 20, 21, 22, 23, 24, 25, 26, 27, 28, 29, 30, 31, 32, 33, 34, 35, 36, 37, 38, 39, 40, 41, 42, 43, 44, 45, 46, 47, 48, 49, 50, 51, 52, 53, 54, 55, 56, 57, 58, 59, 60, 61, 62, 63, 64, 65, 66, 67, 68, 69, 70, 71, 72, 73, 74, 75, 76, 77, 78, 79, 80, 81, 82, 83, 84, 85, 86, 87, 88, 89, 90, 91, 92, 93, 94, 95] (by decide +kernel) (by decide +kernel)
set_option maxHeartbeats 4000000 in
set_option maxRecDepth 100000 in
theorem m_feed (l : Launch) (dC : Nat → ClassId) (dI : Nat → Nat → Nat) (h0 : Nat) (g : Nat → Nat) (cA801 : ClassId) (f801 : Nat → Int32) (p1 : Int32) (p2 : Int32) (p3 : Int32) (p4 : Int32) (p5 : Int32) (sz : Nat) : Met l yX12_feed w_m_feed { frames := 1, cells := 0, slots := 0, locals := 22 } (va_Pc [.ref h0, .int p1, .int p2, .int p3, .int p4, .int p5] (vx_pre dC dI [(h0, .inr (12, fsM g)), ((g 1), .inl (cA801, 1200, .inl f801))] [(cA801, .byte)] sz)) (va_Qi (fun (r : Int32) (_ : Unit) => r = 20) (fun _ t => vx_B dC dI (va_A [(h0, .inr (12, fsM g)), ((g 1), .inl (cA801, 1200, .inl f801))] sz) [] [] t) (va_A [(h0, .inr (12, fsM g)), ((g 1), .inl (cA801, 1200, .inl f801))] sz)) 0 0 (va_A [(h0, .inr (12, fsM g)), ((g 1), .inl (cA801, 1200, .inl f801))] sz) := by
  refine Met.ofW (cc := cX12_feed) (maxL := 6) (ret := (some .int)) (by decide) rfl ?_
  intro p e s m args below meth c s₁ B hml hv
  obtain ⟨rfl, hsz, hP, hK, hD0, hN⟩ := hv
  have hx := B.exec
  have hb := B.bytes
  have hr := B.returns
  have hts := atoms_spec (ws := w_m_feed) B.pre
  have hown : s.vm.findClass RX12 = some m.cls := findClass_of_methodNamed B.named
  have hlocks := B.notSynchronized
  subst hsz
  have hD := hD0.self (sz := s.heap.size)
  generalize hAe : va_A [(h0, .inr (12, fsM g)), ((g 1), .inl (cA801, 1200, .inl f801))] s.heap.size = A at hD ⊢
  have hA : ∀ q : Nat, s.heap.size ≤ q → A q := fun q h => by rw [← hAe]; exact Or.inr h
  obtain ⟨H, hHe⟩ : ∃ H, H = s.heap := ⟨_, rfl⟩
  rw [← hHe] at hP ⊢
  have hS : va_S A s.heap H [] := by rw [hHe]; exact va_S.rf
  have hl := lv_entry [.ref h0, .int p1, .int p2, .int p3, .int p4, .int p5] (n := 6) (Nat.le_of_ble_eq_true rfl)
  rw [lg_entry_eq]
  generalize (lg_sl [.ref h0, .int p1, .int p2, .int p3, .int p4, .int p5] ++ List.replicate (6 - (lg_sl [.ref h0, .int p1, .int p2, .int p3, .int p4, .int p5]).length) Slot.unset).toArray = ls at hl ⊢
  have hl : lv_has ls 6 [(0, .ref h0), (1, .int p1), (2, .int p2), (3, .int p3), (4, .int p4), (5, .int p5)] := hl
  refine lv_aload_n hx hb dX12_feed_0 rfl (lv_at hl 0 rfl) ?_
  refine lv_iconst (v := 0) hx hb dX12_feed_1 (by decide) ?_
  refine va_put (D := (dC, dI)) (ci := 12) (v := .int 0) (ty := .int) (C := RX12) (T := TX12) (N := 87) hx hb hts in_m_feed_12 tyX12 tyX12_ok nmX12 hown hK hP hD hS 0 rfl rfl 0 (by decide) (hts (.fieldLink RX12 185 "LineKeeperModel" "code" "I") (List.mem_of_getElem? (i := 1) rfl)) (fun _ h9 => h9) rfl (tyX12_ok 0 (by decide)) rfl rfl (Nat.le_of_ble_eq_true rfl) dX12_feed_2 (fun H locs hP hD hS => ?_)
  have hP : va_P (dC, dI) vwCl [(h0, .inr (12, fsM g)), ((g 1), .inl (cA801, 1200, .inl f801))] H := hP
  have hD : va_D A [(h0, .inr (12, fsM g)), ((g 1), .inl (cA801, 1200, .inl f801))] := hD
  refine lv_aload_n hx hb dX12_feed_5 rfl (lv_at hl 0 rfl) ?_
  refine va_get (D := (dC, dI)) (ci := 12) (v := .int 0) (C := RX12) (T := TX12) (N := 87) hx hb hts in_m_feed_12 hown hK hP 0 rfl rfl 2 (by decide) (hts (.fieldLink RX12 382 "LineKeeperModel" "size" "I") (List.mem_of_getElem? (i := 2) rfl)) (fun _ h9 => h9) rfl dX12_feed_6 ?_
  refine lv_bipush (v := 20) hx hb dX12_feed_9 (by decide) ?_
  refine lv_iadd hx hb dX12_feed_11 ?_
  refine vx_topc (v := 20) (by decide) ?_
  refine lv_sipush (v := 1200) hx hb dX12_feed_12 (by decide) ?_
  refine lv_icmp_le (tgt := 20) hx hb dX12_feed_15 (by decide) (fun _ => ?_) (fun h => absurd (by decide) h)
  refine lv_aload_n hx hb dX12_feed_20 rfl (lv_at hl 0 rfl) ?_
  refine lv_iload_n hx hb dX12_feed_21 rfl (lv_at hl 1 rfl) ?_
  have hPc := hP.sub (ws' := [(h0, .inr (12, fsM g)), ((g 1), .inl (cA801, 1200, .inl f801))]) [0, 1] rfl
  have hDc := hD.sub (ws' := [(h0, .inr (12, fsM g)), ((g 1), .inl (cA801, 1200, .inl f801))]) [0, 1] (by decide) rfl
  have hKc := hK.sub (tys' := [(cA801, .byte)]) [0] rfl
  have hFc := va_free (wc := [(h0, .inr (12, fsM g)), ((g 1), .inl (cA801, 1200, .inl f801))]) hD hS hA [0, 1] rfl
  refine va_callv (va_runV (As := [.int p1]) (rest := []) ⟨hx, hb, hml, hown, hts⟩ (k_X12_four_0 l dC dI h0 p1 g cA801 f801 H.size ) (cwV 1 hts g_m_feed_k_X12_four_0_385 rfl rfl rfl (by decide +kernel) ⟨(Nat.le_of_ble_eq_true rfl), (Nat.le_of_ble_eq_true rfl)⟩) (vx_preV (ci := 12) (q0 := 0) hPc hKc hDc hN rfl rfl) rfl rfl hl.1 rfl (lv_room (Nat.le_of_ble_eq_true rfl)) dX12_feed_22 ⟨(Nat.le_of_ble_eq_true rfl), (Nat.le_of_ble_eq_true rfl)⟩) hS (fun q _ h => hFc q h) hFc (fun u t H1 locs ht hvm hw hB hz1 hk1 hS => ?_)
  obtain ⟨f2, hP1, hK1, hD1⟩ := hB
  rw [ht] at hP1
  obtain ⟨hP, hD⟩ := va_join (wr := []) (w1 := [(h0, .inr (12, (fsM g).set 2 (.int 4))), ((g 1), .inl (cA801, 1200, .inl f2))]) hP hD [0, 1] [] rfl rfl (by decide) (by decide) hk1 hFc hP1 hD1
  generalize H1 = H at hP hS ⊢
  have hP : va_P (dC, dI) vwCl [(h0, .inr (12, (fsM g).set 2 (.int 4))), ((g 1), .inl (cA801, 1200, .inl f2))] H := hP
  have hD : va_D A [(h0, .inr (12, (fsM g).set 2 (.int 4))), ((g 1), .inl (cA801, 1200, .inl f2))] := hD
  refine W.widen (k := 0) (n := 0) (by decide) (by decide) ?_
  refine lv_aload_n hx hb dX12_feed_25 rfl (lv_at hl 0 rfl) ?_
  refine lv_iload_n hx hb dX12_feed_26 rfl (lv_at hl 2 rfl) ?_
  have hPc := hP.sub (ws' := [(h0, .inr (12, (fsM g).set 2 (.int 4))), ((g 1), .inl (cA801, 1200, .inl f2))]) [0, 1] rfl
  have hDc := hD.sub (ws' := [(h0, .inr (12, (fsM g).set 2 (.int 4))), ((g 1), .inl (cA801, 1200, .inl f2))]) [0, 1] (by decide) rfl
  have hKc := hK.sub (tys' := [(cA801, .byte)]) [0] rfl
  have hFc := va_free (wc := [(h0, .inr (12, (fsM g).set 2 (.int 4))), ((g 1), .inl (cA801, 1200, .inl f2))]) hD hS hA [0, 1] rfl
  refine va_callv (va_runV (As := [.int p2]) (rest := []) ⟨hx, hb, hml, hown, hts⟩ (k_X12_four_1 l dC dI h0 p2 g cA801 f2 H.size ) (cwV 1 hts g_m_feed_k_X12_four_1_385 rfl rfl rfl (by decide +kernel) ⟨(Nat.le_of_ble_eq_true rfl), (Nat.le_of_ble_eq_true rfl)⟩) (vx_preV (ci := 12) (q0 := 0) hPc hKc hDc hN rfl rfl) rfl rfl hl.1 rfl (lv_room (Nat.le_of_ble_eq_true rfl)) dX12_feed_27 ⟨(Nat.le_of_ble_eq_true rfl), (Nat.le_of_ble_eq_true rfl)⟩) hS (fun q _ h => hFc q h) hFc (fun u t H1 locs ht hvm hw hB hz1 hk1 hS => ?_)
  obtain ⟨f4, hP1, hK1, hD1⟩ := hB
  rw [ht] at hP1
  obtain ⟨hP, hD⟩ := va_join (wr := []) (w1 := [(h0, .inr (12, (fsM g).set 2 (.int 8))), ((g 1), .inl (cA801, 1200, .inl f4))]) hP hD [0, 1] [] rfl rfl (by decide) (by decide) hk1 hFc hP1 hD1
  generalize H1 = H at hP hS ⊢
  have hP : va_P (dC, dI) vwCl [(h0, .inr (12, (fsM g).set 2 (.int 8))), ((g 1), .inl (cA801, 1200, .inl f4))] H := hP
  have hD : va_D A [(h0, .inr (12, (fsM g).set 2 (.int 8))), ((g 1), .inl (cA801, 1200, .inl f4))] := hD
  refine W.widen (k := 0) (n := 0) (by decide) (by decide) ?_
  refine lv_aload_n hx hb dX12_feed_30 rfl (lv_at hl 0 rfl) ?_
  refine lv_iload_n hx hb dX12_feed_31 rfl (lv_at hl 3 rfl) ?_
  have hPc := hP.sub (ws' := [(h0, .inr (12, (fsM g).set 2 (.int 8))), ((g 1), .inl (cA801, 1200, .inl f4))]) [0, 1] rfl
  have hDc := hD.sub (ws' := [(h0, .inr (12, (fsM g).set 2 (.int 8))), ((g 1), .inl (cA801, 1200, .inl f4))]) [0, 1] (by decide) rfl
  have hKc := hK.sub (tys' := [(cA801, .byte)]) [0] rfl
  have hFc := va_free (wc := [(h0, .inr (12, (fsM g).set 2 (.int 8))), ((g 1), .inl (cA801, 1200, .inl f4))]) hD hS hA [0, 1] rfl
  refine va_callv (va_runV (As := [.int p3]) (rest := []) ⟨hx, hb, hml, hown, hts⟩ (k_X12_four_2 l dC dI h0 p3 g cA801 f4 H.size ) (cwV 1 hts g_m_feed_k_X12_four_2_385 rfl rfl rfl (by decide +kernel) ⟨(Nat.le_of_ble_eq_true rfl), (Nat.le_of_ble_eq_true rfl)⟩) (vx_preV (ci := 12) (q0 := 0) hPc hKc hDc hN rfl rfl) rfl rfl hl.1 rfl (lv_room (Nat.le_of_ble_eq_true rfl)) dX12_feed_32 ⟨(Nat.le_of_ble_eq_true rfl), (Nat.le_of_ble_eq_true rfl)⟩) hS (fun q _ h => hFc q h) hFc (fun u t H1 locs ht hvm hw hB hz1 hk1 hS => ?_)
  obtain ⟨f6, hP1, hK1, hD1⟩ := hB
  rw [ht] at hP1
  obtain ⟨hP, hD⟩ := va_join (wr := []) (w1 := [(h0, .inr (12, (fsM g).set 2 (.int 12))), ((g 1), .inl (cA801, 1200, .inl f6))]) hP hD [0, 1] [] rfl rfl (by decide) (by decide) hk1 hFc hP1 hD1
  generalize H1 = H at hP hS ⊢
  have hP : va_P (dC, dI) vwCl [(h0, .inr (12, (fsM g).set 2 (.int 12))), ((g 1), .inl (cA801, 1200, .inl f6))] H := hP
  have hD : va_D A [(h0, .inr (12, (fsM g).set 2 (.int 12))), ((g 1), .inl (cA801, 1200, .inl f6))] := hD
  refine W.widen (k := 0) (n := 0) (by decide) (by decide) ?_
  refine lv_aload_n hx hb dX12_feed_35 rfl (lv_at hl 0 rfl) ?_
  refine lv_iload hx hb dX12_feed_36 (lv_at hl 4 rfl) ?_
  have hPc := hP.sub (ws' := [(h0, .inr (12, (fsM g).set 2 (.int 12))), ((g 1), .inl (cA801, 1200, .inl f6))]) [0, 1] rfl
  have hDc := hD.sub (ws' := [(h0, .inr (12, (fsM g).set 2 (.int 12))), ((g 1), .inl (cA801, 1200, .inl f6))]) [0, 1] (by decide) rfl
  have hKc := hK.sub (tys' := [(cA801, .byte)]) [0] rfl
  have hFc := va_free (wc := [(h0, .inr (12, (fsM g).set 2 (.int 12))), ((g 1), .inl (cA801, 1200, .inl f6))]) hD hS hA [0, 1] rfl
  refine va_callv (va_runV (As := [.int p4]) (rest := []) ⟨hx, hb, hml, hown, hts⟩ (k_X12_four_3 l dC dI h0 p4 g cA801 f6 H.size ) (cwV 1 hts g_m_feed_k_X12_four_3_385 rfl rfl rfl (by decide +kernel) ⟨(Nat.le_of_ble_eq_true rfl), (Nat.le_of_ble_eq_true rfl)⟩) (vx_preV (ci := 12) (q0 := 0) hPc hKc hDc hN rfl rfl) rfl rfl hl.1 rfl (lv_room (Nat.le_of_ble_eq_true rfl)) dX12_feed_38 ⟨(Nat.le_of_ble_eq_true rfl), (Nat.le_of_ble_eq_true rfl)⟩) hS (fun q _ h => hFc q h) hFc (fun u t H1 locs ht hvm hw hB hz1 hk1 hS => ?_)
  obtain ⟨f8, hP1, hK1, hD1⟩ := hB
  rw [ht] at hP1
  obtain ⟨hP, hD⟩ := va_join (wr := []) (w1 := [(h0, .inr (12, (fsM g).set 2 (.int 16))), ((g 1), .inl (cA801, 1200, .inl f8))]) hP hD [0, 1] [] rfl rfl (by decide) (by decide) hk1 hFc hP1 hD1
  generalize H1 = H at hP hS ⊢
  have hP : va_P (dC, dI) vwCl [(h0, .inr (12, (fsM g).set 2 (.int 16))), ((g 1), .inl (cA801, 1200, .inl f8))] H := hP
  have hD : va_D A [(h0, .inr (12, (fsM g).set 2 (.int 16))), ((g 1), .inl (cA801, 1200, .inl f8))] := hD
  refine W.widen (k := 0) (n := 0) (by decide) (by decide) ?_
  refine lv_aload_n hx hb dX12_feed_41 rfl (lv_at hl 0 rfl) ?_
  refine lv_iload hx hb dX12_feed_42 (lv_at hl 5 rfl) ?_
  have hPc := hP.sub (ws' := [(h0, .inr (12, (fsM g).set 2 (.int 16))), ((g 1), .inl (cA801, 1200, .inl f8))]) [0, 1] rfl
  have hDc := hD.sub (ws' := [(h0, .inr (12, (fsM g).set 2 (.int 16))), ((g 1), .inl (cA801, 1200, .inl f8))]) [0, 1] (by decide) rfl
  have hKc := hK.sub (tys' := [(cA801, .byte)]) [0] rfl
  have hFc := va_free (wc := [(h0, .inr (12, (fsM g).set 2 (.int 16))), ((g 1), .inl (cA801, 1200, .inl f8))]) hD hS hA [0, 1] rfl
  refine va_callv (va_runV (As := [.int p5]) (rest := []) ⟨hx, hb, hml, hown, hts⟩ (k_X12_four_4 l dC dI h0 p5 g cA801 f8 H.size ) (cwV 1 hts g_m_feed_k_X12_four_4_385 rfl rfl rfl (by decide +kernel) ⟨(Nat.le_of_ble_eq_true rfl), (Nat.le_of_ble_eq_true rfl)⟩) (vx_preV (ci := 12) (q0 := 0) hPc hKc hDc hN rfl rfl) rfl rfl hl.1 rfl (lv_room (Nat.le_of_ble_eq_true rfl)) dX12_feed_44 ⟨(Nat.le_of_ble_eq_true rfl), (Nat.le_of_ble_eq_true rfl)⟩) hS (fun q _ h => hFc q h) hFc (fun u t H1 locs ht hvm hw hB hz1 hk1 hS => ?_)
  obtain ⟨f10, hP1, hK1, hD1⟩ := hB
  rw [ht] at hP1
  obtain ⟨hP, hD⟩ := va_join (wr := []) (w1 := [(h0, .inr (12, (fsM g).set 2 (.int 20))), ((g 1), .inl (cA801, 1200, .inl f10))]) hP hD [0, 1] [] rfl rfl (by decide) (by decide) hk1 hFc hP1 hD1
  generalize H1 = H at hP hS ⊢
  have hP : va_P (dC, dI) vwCl [(h0, .inr (12, (fsM g).set 2 (.int 20))), ((g 1), .inl (cA801, 1200, .inl f10))] H := hP
  have hD : va_D A [(h0, .inr (12, (fsM g).set 2 (.int 20))), ((g 1), .inl (cA801, 1200, .inl f10))] := hD
  refine W.widen (k := 0) (n := 0) (by decide) (by decide) ?_
  refine lv_aload_n hx hb dX12_feed_47 rfl (lv_at hl 0 rfl) ?_
  refine va_get (D := (dC, dI)) (ci := 12) (v := .int 20) (C := RX12) (T := TX12) (N := 87) hx hb hts in_m_feed_12 hown hK hP 0 rfl rfl 2 (by decide) (hts (.fieldLink RX12 382 "LineKeeperModel" "size" "I") (List.mem_of_getElem? (i := 2) rfl)) (fun _ h9 => h9) rfl dX12_feed_48 ?_
  have hP9 := hP.sub (ws' := []) [] rfl
  have hD9 := hD.sub (ws' := []) [] (by decide) rfl
  have hK9 := hK.sub (tys' := []) [] rfl
  exact W.iret (v := 20) hx hb hr (fun t ht hW => ⟨⟨20, (), rfl, rfl, by rw [ht]; exact hP9, va_K.moved hW.alike hK9, hD9⟩, hS.F ht⟩) hS.2.2 dX12_feed_51

def w_m_end : List Cond := .code yX12_end cX12_end 2 (some .int) :: ([.fieldLink RX12 185 "LineKeeperModel" "code" "I", .fieldLink RX12 382 "LineKeeperModel" "size" "I", .code yX12_in cX12_in 3 (some .boolean), .initialized RX12, .methodLink RX12 188 yX12_in, .static yX12_in] ++ wsX120)
theorem in_m_end_12 : ∀ w ∈ wsX120, w ∈ w_m_end := fun _ h => List.mem_cons_of_mem _ (List.mem_append_right _ h)
set_option maxRecDepth 100000 in
theorem g_m_end_k_in_188 : GoodIn w_m_end (wsS RX12 188 yX12_in w_k_in) := goodIn_r _ [5, 6, 4, 3] (by decide +kernel) (by decide +kernel)
set_option maxHeartbeats 4000000 in
set_option maxRecDepth 100000 in
theorem m_end (l : Launch) (dC : Nat → ClassId) (dI : Nat → Nat → Nat) (h0 : Nat) (g : Nat → Nat) (p1 : Int32) (sz : Nat) : Met l yX12_end w_m_end { frames := 1, cells := 0, slots := 0, locals := 22 } (va_Pc [.ref h0, .int p1] (vx_pre dC dI [(h0, .inr (12, fsM g))] [] sz)) (va_Qi (fun (r : Int32) (_ : Unit) => r = md_end p1) (fun _ t => vx_B dC dI (va_A [(h0, .inr (12, fsM g))] sz) [] [] t) (va_A [(h0, .inr (12, fsM g))] sz)) 0 0 (va_A [(h0, .inr (12, fsM g))] sz) := by
  refine Met.ofW (cc := cX12_end) (maxL := 2) (ret := (some .int)) (by decide) rfl ?_
  intro p e s m args below meth c s₁ B hml hv
  obtain ⟨rfl, hsz, hP, hK, hD0, hN⟩ := hv
  have hx := B.exec
  have hb := B.bytes
  have hr := B.returns
  have hts := atoms_spec (ws := w_m_end) B.pre
  have hown : s.vm.findClass RX12 = some m.cls := findClass_of_methodNamed B.named
  have hlocks := B.notSynchronized
  subst hsz
  have hD := hD0.self (sz := s.heap.size)
  generalize hAe : va_A [(h0, .inr (12, fsM g))] s.heap.size = A at hD ⊢
  have hA : ∀ q : Nat, s.heap.size ≤ q → A q := fun q h => by rw [← hAe]; exact Or.inr h
  obtain ⟨H, hHe⟩ : ∃ H, H = s.heap := ⟨_, rfl⟩
  rw [← hHe] at hP ⊢
  have hS : va_S A s.heap H [] := by rw [hHe]; exact va_S.rf
  have hl := lv_entry [.ref h0, .int p1] (n := 2) (Nat.le_of_ble_eq_true rfl)
  rw [lg_entry_eq]
  generalize (lg_sl [.ref h0, .int p1] ++ List.replicate (2 - (lg_sl [.ref h0, .int p1]).length) Slot.unset).toArray = ls at hl ⊢
  have hl : lv_has ls 2 [(0, .ref h0), (1, .int p1)] := hl
  refine lv_aload_n hx hb dX12_end_0 rfl (lv_at hl 0 rfl) ?_
  refine lv_iconst (v := 0) hx hb dX12_end_1 (by decide) ?_
  refine va_put (D := (dC, dI)) (ci := 12) (v := .int 0) (ty := .int) (C := RX12) (T := TX12) (N := 87) hx hb hts in_m_end_12 tyX12 tyX12_ok nmX12 hown hK hP hD hS 0 rfl rfl 0 (by decide) (hts (.fieldLink RX12 185 "LineKeeperModel" "code" "I") (List.mem_of_getElem? (i := 1) rfl)) (fun _ h9 => h9) rfl (tyX12_ok 0 (by decide)) rfl rfl (Nat.le_of_ble_eq_true rfl) dX12_end_2 (fun H locs hP hD hS => ?_)
  have hP : va_P (dC, dI) vwCl [(h0, .inr (12, fsM g))] H := hP
  have hD : va_D A [(h0, .inr (12, fsM g))] := hD
  refine lv_iload_n hx hb dX12_end_5 rfl (lv_at hl 1 rfl) ?_
  refine lv_iconst (v := 0) hx hb dX12_end_6 (by decide) ?_
  refine lv_aload_n hx hb dX12_end_7 rfl (lv_at hl 0 rfl) ?_
  refine va_get (D := (dC, dI)) (ci := 12) (v := .int 0) (C := RX12) (T := TX12) (N := 87) hx hb hts in_m_end_12 hown hK hP 0 rfl rfl 2 (by decide) (hts (.fieldLink RX12 382 "LineKeeperModel" "size" "I") (List.mem_of_getElem? (i := 2) rfl)) (fun _ h9 => h9) rfl dX12_end_8 ?_
  have hPc := hP.sub (ws' := []) [] rfl
  have hDc := hD.sub (ws' := []) [] (by decide) rfl
  have hKc := hK.sub (tys' := []) [] rfl
  have hFc := va_free (wc := []) hD hS hA [] rfl
  refine va_calli (va_runS (As := [.int p1, .int 0, .int 0]) (rest := []) ⟨hx, hb, hml, hown, hts⟩ (k_in l dC dI p1 0 0 H.size ) (cwS 3 hts g_m_end_k_in_188 rfl rfl rfl (by decide +kernel) ⟨(Nat.le_of_ble_eq_true rfl), (Nat.le_of_ble_eq_true rfl)⟩) (vx_preS hPc hKc hDc hN) rfl rfl hl.1 rfl (lv_room (Nat.le_of_ble_eq_true rfl)) dX12_end_11 ⟨(Nat.le_of_ble_eq_true rfl), (Nat.le_of_ble_eq_true rfl)⟩) hS (fun q _ h => hFc q h) hFc (fun r1 u t H1 locs ht hvm hw hB hz1 hk1 hS => ?_)
  obtain ⟨hP1, hK1, hD1⟩ := hB
  rw [ht] at hP1
  obtain ⟨hP, hD⟩ := va_join (wr := [(h0, .inr (12, fsM g))]) (w1 := []) hP hD [] [0] rfl rfl (by decide) (by decide) hk1 hFc hP1 hD1
  generalize H1 = H at hP hS ⊢
  have hP : va_P (dC, dI) vwCl [(h0, .inr (12, fsM g))] H := hP
  have hD : va_D A [(h0, .inr (12, fsM g))] := hD
  refine W.widen (k := 0) (n := 0) (by decide) (by decide) ?_
  try dsimp only at hw
  have hw_r1 := hw
  refine lv_if_ne (tgt := 19) hx hb dX12_end_14 (by decide) (fun c2 => ?_) (fun c2 => ?_)
  · refine lv_aload_n hx hb dX12_end_19 rfl (lv_at hl 0 rfl) ?_
    refine lv_iload_n hx hb dX12_end_20 rfl (lv_at hl 1 rfl) ?_
    refine va_put (D := (dC, dI)) (ci := 12) (v := .int p1) (ty := .int) (C := RX12) (T := TX12) (N := 87) hx hb hts in_m_end_12 tyX12 tyX12_ok nmX12 hown hK hP hD hS 0 rfl rfl 2 (by decide) (hts (.fieldLink RX12 382 "LineKeeperModel" "size" "I") (List.mem_of_getElem? (i := 2) rfl)) (fun _ h9 => h9) rfl (tyX12_ok 2 (by decide)) rfl rfl (Nat.le_of_ble_eq_true rfl) dX12_end_21 (fun H locs hP hD hS => ?_)
    have hP : va_P (dC, dI) vwCl [(h0, .inr (12, (fsM g).set 2 (.int p1)))] H := hP
    have hD : va_D A [(h0, .inr (12, (fsM g).set 2 (.int p1)))] := hD
    refine lv_iload_n hx hb dX12_end_24 rfl (lv_at hl 1 rfl) ?_
    have hP9 := hP.sub (ws' := []) [] rfl
    have hD9 := hD.sub (ws' := []) [] (by decide) rfl
    have hK9 := hK.sub (tys' := []) [] rfl
    exact W.iret (v := p1) hx hb hr (fun t ht hW => ⟨⟨p1, (), rfl, md_end_n hw_r1 c2, by rw [ht]; exact hP9, va_K.moved hW.alike hK9, hD9⟩, hS.F ht⟩) hS.2.2 dX12_end_25
  · refine lv_iconst (v := (-1)) hx hb dX12_end_17 (by decide) ?_
    have hP9 := hP.sub (ws' := []) [] rfl
    have hD9 := hD.sub (ws' := []) [] (by decide) rfl
    have hK9 := hK.sub (tys' := []) [] rfl
    exact W.iret (v := (-1)) hx hb hr (fun t ht hW => ⟨⟨(-1), (), rfl, md_end_m hw_r1 c2, by rw [ht]; exact hP9, va_K.moved hW.alike hK9, hD9⟩, hS.F ht⟩) hS.2.2 dX12_end_18

def w_k_X12_see_0 : List Cond := .code yX12_see cX12_see 2 (some .int) :: ([.fieldLink RX12 207 "LineKeeperModel" "length" "I"] ++ wsX120)
theorem in_k_X12_see_0_12 : ∀ w ∈ wsX120, w ∈ w_k_X12_see_0 := fun _ h => List.mem_cons_of_mem _ (List.mem_append_right _ h)
set_option maxHeartbeats 4000000 in
set_option maxRecDepth 100000 in
theorem k_X12_see_0 (l : Launch) (dC : Nat → ClassId) (dI : Nat → Nat → Nat) (h701 : Nat) (g701 : Nat → Nat) (sz : Nat) : Met l yX12_see w_k_X12_see_0 { frames := 0, cells := 0, slots := 0, locals := 0 } (va_Pc [.ref h701, .int 0] (vx_pre dC dI [(h701, .inr (12, fsM g701))] [] sz)) (va_Qi (fun (r : Int32) (_ : Unit) => r = (-1)) (fun _ t => vx_B dC dI (va_A [(h701, .inr (12, fsM g701))] sz) [(h701, .inr (12, fsM g701))] [] t) (va_A [(h701, .inr (12, fsM g701))] sz)) 0 0 (va_A [(h701, .inr (12, fsM g701))] sz) := by
  refine Met.ofW (cc := cX12_see) (maxL := 2) (ret := (some .int)) (by decide) rfl ?_
  intro p e s m args below meth c s₁ B hml hv
  obtain ⟨rfl, hsz, hP, hK, hD0, hN⟩ := hv
  have hx := B.exec
  have hb := B.bytes
  have hr := B.returns
  have hts := atoms_spec (ws := w_k_X12_see_0) B.pre
  have hown : s.vm.findClass RX12 = some m.cls := findClass_of_methodNamed B.named
  have hlocks := B.notSynchronized
  subst hsz
  have hD := hD0.self (sz := s.heap.size)
  generalize hAe : va_A [(h701, .inr (12, fsM g701))] s.heap.size = A at hD ⊢
  have hA : ∀ q : Nat, s.heap.size ≤ q → A q := fun q h => by rw [← hAe]; exact Or.inr h
  obtain ⟨H, hHe⟩ : ∃ H, H = s.heap := ⟨_, rfl⟩
  rw [← hHe] at hP ⊢
  have hS : va_S A s.heap H [] := by rw [hHe]; exact va_S.rf
  have hl := lv_entry [.ref h701, .int 0] (n := 2) (Nat.le_of_ble_eq_true rfl)
  rw [lg_entry_eq]
  generalize (lg_sl [.ref h701, .int 0] ++ List.replicate (2 - (lg_sl [.ref h701, .int 0]).length) Slot.unset).toArray = ls at hl ⊢
  have hl : lv_has ls 2 [(0, .ref h701), (1, .int 0)] := hl
  refine lv_iload_n hx hb dX12_see_0 rfl (lv_at hl 1 rfl) ?_
  refine lv_aload_n hx hb dX12_see_1 rfl (lv_at hl 0 rfl) ?_
  refine va_get (D := (dC, dI)) (ci := 12) (v := .int 0) (C := RX12) (T := TX12) (N := 87) hx hb hts in_k_X12_see_0_12 hown hK hP 0 rfl rfl 21 (by decide) (hts (.fieldLink RX12 207 "LineKeeperModel" "length" "I") (List.mem_of_getElem? (i := 1) rfl)) (fun _ h9 => h9) rfl dX12_see_2 ?_
  refine lv_icmp_ge (tgt := 21) hx hb dX12_see_5 (by decide) (fun _ => ?_) (fun h => absurd (by decide) h)
  refine lv_iconst (v := (-1)) hx hb dX12_see_21 (by decide) ?_
  have hP9 := hP.sub (ws' := [(h701, .inr (12, fsM g701))]) [0] rfl
  have hD9 := hD.sub (ws' := [(h701, .inr (12, fsM g701))]) [0] (by decide) rfl
  have hK9 := hK.sub (tys' := []) [] rfl
  exact W.iret (v := (-1)) hx hb hr (fun t ht hW => ⟨⟨(-1), (), rfl, rfl, by rw [ht]; exact hP9, va_K.moved hW.alike hK9, hD9⟩, hS.F ht⟩) hS.2.2 dX12_see_22

def w_k_X12_advance_0 : List Cond := .code yX12_advance cX12_advance 3 none :: ([.fieldLink RX12 210 "LineKeeperModel" "next" "I", .fieldLink RX12 207 "LineKeeperModel" "length" "I", .code yX12_see cX12_see 2 (some .int), .initialized RX12, .methodLink RX12 213 yX12_see, .instanceMethod yX12_see, .selects RX12 yX12_see yX12_see, .fieldLink RX12 216 "LineKeeperModel" "place" "I", .fieldLink RX12 219 "LineKeeperModel" "word" "J", .fieldLink RX12 223 "LineKeeperModel" "value" "I", .fieldLink RX12 226 "LineKeeperModel" "sort" "I"] ++ wsX120)
theorem in_k_X12_advance_0_12 : ∀ w ∈ wsX120, w ∈ w_k_X12_advance_0 := fun _ h => List.mem_cons_of_mem _ (List.mem_append_right _ h)
set_option maxRecDepth 100000 in
theorem g_k_X12_advance_0_k_X12_see_0_213 : GoodIn w_k_X12_advance_0 (wsV RX12 213 RX12 yX12_see w_k_X12_see_0) := goodIn_r _ [5, 6, 7, 4, 3, 2, 12, 13, 14, 15, 16, 17, 18, 19, 20, 21, 22, 23, 24, 25, 26, 27, 28, 29, 30, 31, 32, 33, 34, 35, 36, 37, 38, 39, 40, 41, 42, 43, 44, 45, 46, 47, 48, 49, 50, 51, 52, 53, 54, 55, 56, 57, 58, 59, 60, 61, 62, 63, 64, 65, 66, 67, 68, 69, 70, 71, 72, 73, 74, 75, 76, 77, 78, 79, 80, 81, 82, 83, 84, 85, 86, 87, 88, 89, 90, 91, 92, 93, 94, 95, 96, 97, 98] (by decide +kernel) (by decide +kernel)
set_option maxHeartbeats 4000000 in
set_option maxRecDepth 100000 in
theorem k_X12_advance_0 (l : Launch) (dC : Nat → ClassId) (dI : Nat → Nat → Nat) (h701 : Nat) (g701 : Nat → Nat) (sz : Nat) : Met l yX12_advance w_k_X12_advance_0 { frames := 1, cells := 0, slots := 0, locals := 21 } (va_Pc [.ref h701] (vx_pre dC dI [(h701, .inr (12, fsM g701))] [] sz)) (va_Qv (fun _ : Unit => True) (fun _ t => vx_B dC dI (va_A [(h701, .inr (12, fsM g701))] sz) [(h701, .inr (12, (fsM g701).set 23 (.int (-1))))] [] t) (va_A [(h701, .inr (12, fsM g701))] sz)) 0 0 (va_A [(h701, .inr (12, fsM g701))] sz) := by
  refine Met.ofW (cc := cX12_advance) (maxL := 3) (ret := none) (by decide) rfl ?_
  intro p e s m args below meth c s₁ B hml hv
  obtain ⟨rfl, hsz, hP, hK, hD0, hN⟩ := hv
  have hx := B.exec
  have hb := B.bytes
  have hr := B.returns
  have hts := atoms_spec (ws := w_k_X12_advance_0) B.pre
  have hown : s.vm.findClass RX12 = some m.cls := findClass_of_methodNamed B.named
  have hlocks := B.notSynchronized
  subst hsz
  have hD := hD0.self (sz := s.heap.size)
  generalize hAe : va_A [(h701, .inr (12, fsM g701))] s.heap.size = A at hD ⊢
  have hA : ∀ q : Nat, s.heap.size ≤ q → A q := fun q h => by rw [← hAe]; exact Or.inr h
  obtain ⟨H, hHe⟩ : ∃ H, H = s.heap := ⟨_, rfl⟩
  rw [← hHe] at hP ⊢
  have hS : va_S A s.heap H [] := by rw [hHe]; exact va_S.rf
  have hl := lv_entry [.ref h701] (n := 3) (Nat.le_of_ble_eq_true rfl)
  rw [lg_entry_eq]
  generalize (lg_sl [.ref h701] ++ List.replicate (3 - (lg_sl [.ref h701]).length) Slot.unset).toArray = ls at hl ⊢
  have hl : lv_has ls 3 [(0, .ref h701)] := hl
  refine lv_aload_n hx hb dX12_advance_0 rfl (lv_at hl 0 rfl) ?_
  refine lv_aload_n hx hb dX12_advance_1 rfl (lv_at hl 0 rfl) ?_
  refine va_get (D := (dC, dI)) (ci := 12) (v := .int 0) (C := RX12) (T := TX12) (N := 87) hx hb hts in_k_X12_advance_0_12 hown hK hP 0 rfl rfl 20 (by decide) (hts (.fieldLink RX12 210 "LineKeeperModel" "next" "I") (List.mem_of_getElem? (i := 1) rfl)) (fun _ h9 => h9) rfl dX12_advance_2 ?_
  have hPc := hP.sub (ws' := [(h701, .inr (12, fsM g701))]) [0] rfl
  have hDc := hD.sub (ws' := [(h701, .inr (12, fsM g701))]) [0] (by decide) rfl
  have hKc := hK.sub (tys' := []) [] rfl
  have hFc := va_free (wc := [(h701, .inr (12, fsM g701))]) hD hS hA [0] rfl
  refine va_calli (va_runV (As := [.int 0]) (rest := []) ⟨hx, hb, hml, hown, hts⟩ (k_X12_see_0 l dC dI h701 g701 H.size ) (cwV 1 hts g_k_X12_advance_0_k_X12_see_0_213 rfl rfl rfl (by decide +kernel) ⟨(Nat.le_of_ble_eq_true rfl), (Nat.le_of_ble_eq_true rfl)⟩) (vx_preV (ci := 12) (q0 := 0) hPc hKc hDc hN rfl rfl) rfl rfl hl.1 rfl (lv_room (Nat.le_of_ble_eq_true rfl)) dX12_advance_5 ⟨(Nat.le_of_ble_eq_true rfl), (Nat.le_of_ble_eq_true rfl)⟩) hS (fun q _ h => hFc q h) hFc (fun r1 u t H1 locs ht hvm hw hB hz1 hk1 hS => ?_)
  obtain ⟨hP1, hK1, hD1⟩ := hB
  rw [ht] at hP1
  obtain ⟨hP, hD⟩ := va_join (wr := []) (w1 := [(h701, .inr (12, fsM g701))]) hP hD [0] [] rfl rfl (by decide) (by decide) hk1 hFc hP1 hD1
  generalize H1 = H at hP hS ⊢
  have hP : va_P (dC, dI) vwCl [(h701, .inr (12, fsM g701))] H := hP
  have hD : va_D A [(h701, .inr (12, fsM g701))] := hD
  refine W.widen (k := 0) (n := 0) (by decide) (by decide) ?_
  try dsimp only at hw
  subst hw
  refine lv_bipush (v := 10) hx hb dX12_advance_8 (by decide) ?_
  refine lv_icmp_eq (tgt := 26) hx hb dX12_advance_10 (by decide) (fun h => absurd h (by decide)) (fun _ => ?_)
  refine lv_aload_n hx hb dX12_advance_13 rfl (lv_at hl 0 rfl) ?_
  refine lv_aload_n hx hb dX12_advance_14 rfl (lv_at hl 0 rfl) ?_
  refine va_get (D := (dC, dI)) (ci := 12) (v := .int 0) (C := RX12) (T := TX12) (N := 87) hx hb hts in_k_X12_advance_0_12 hown hK hP 0 rfl rfl 20 (by decide) (hts (.fieldLink RX12 210 "LineKeeperModel" "next" "I") (List.mem_of_getElem? (i := 1) rfl)) (fun _ h9 => h9) rfl dX12_advance_15 ?_
  have hPc := hP.sub (ws' := [(h701, .inr (12, fsM g701))]) [0] rfl
  have hDc := hD.sub (ws' := [(h701, .inr (12, fsM g701))]) [0] (by decide) rfl
  have hKc := hK.sub (tys' := []) [] rfl
  have hFc := va_free (wc := [(h701, .inr (12, fsM g701))]) hD hS hA [0] rfl
  refine va_calli (va_runV (As := [.int 0]) (rest := []) ⟨hx, hb, hml, hown, hts⟩ (k_X12_see_0 l dC dI h701 g701 H.size ) (cwV 1 hts g_k_X12_advance_0_k_X12_see_0_213 rfl rfl rfl (by decide +kernel) ⟨(Nat.le_of_ble_eq_true rfl), (Nat.le_of_ble_eq_true rfl)⟩) (vx_preV (ci := 12) (q0 := 0) hPc hKc hDc hN rfl rfl) rfl rfl hl.1 rfl (lv_room (Nat.le_of_ble_eq_true rfl)) dX12_advance_18 ⟨(Nat.le_of_ble_eq_true rfl), (Nat.le_of_ble_eq_true rfl)⟩) hS (fun q _ h => hFc q h) hFc (fun r2 u t H1 locs ht hvm hw hB hz1 hk1 hS => ?_)
  obtain ⟨hP1, hK1, hD1⟩ := hB
  rw [ht] at hP1
  obtain ⟨hP, hD⟩ := va_join (wr := []) (w1 := [(h701, .inr (12, fsM g701))]) hP hD [0] [] rfl rfl (by decide) (by decide) hk1 hFc hP1 hD1
  generalize H1 = H at hP hS ⊢
  have hP : va_P (dC, dI) vwCl [(h701, .inr (12, fsM g701))] H := hP
  have hD : va_D A [(h701, .inr (12, fsM g701))] := hD
  refine W.widen (k := 0) (n := 0) (by decide) (by decide) ?_
  try dsimp only at hw
  subst hw
  refine lv_bipush (v := 32) hx hb dX12_advance_21 (by decide) ?_
  refine lv_icmp_ne (tgt := 39) hx hb dX12_advance_23 (by decide) (fun _ => ?_) (fun h => absurd h (by decide))
  refine lv_aload_n hx hb dX12_advance_39 rfl (lv_at hl 0 rfl) ?_
  refine lv_aload_n hx hb dX12_advance_40 rfl (lv_at hl 0 rfl) ?_
  refine va_get (D := (dC, dI)) (ci := 12) (v := .int 0) (C := RX12) (T := TX12) (N := 87) hx hb hts in_k_X12_advance_0_12 hown hK hP 0 rfl rfl 20 (by decide) (hts (.fieldLink RX12 210 "LineKeeperModel" "next" "I") (List.mem_of_getElem? (i := 1) rfl)) (fun _ h9 => h9) rfl dX12_advance_41 ?_
  refine va_put (D := (dC, dI)) (ci := 12) (v := .int 0) (ty := .int) (C := RX12) (T := TX12) (N := 87) hx hb hts in_k_X12_advance_0_12 tyX12 tyX12_ok nmX12 hown hK hP hD hS 0 rfl rfl 19 (by decide) (hts (.fieldLink RX12 216 "LineKeeperModel" "place" "I") (List.mem_of_getElem? (i := 8) rfl)) (fun _ h9 => h9) rfl (tyX12_ok 19 (by decide)) rfl rfl (Nat.le_of_ble_eq_true rfl) dX12_advance_44 (fun H locs hP hD hS => ?_)
  have hP : va_P (dC, dI) vwCl [(h701, .inr (12, fsM g701))] H := hP
  have hD : va_D A [(h701, .inr (12, fsM g701))] := hD
  refine lv_aload_n hx hb dX12_advance_47 rfl (lv_at hl 0 rfl) ?_
  refine lv_aload_n hx hb dX12_advance_48 rfl (lv_at hl 0 rfl) ?_
  refine va_get (D := (dC, dI)) (ci := 12) (v := .int 0) (C := RX12) (T := TX12) (N := 87) hx hb hts in_k_X12_advance_0_12 hown hK hP 0 rfl rfl 20 (by decide) (hts (.fieldLink RX12 210 "LineKeeperModel" "next" "I") (List.mem_of_getElem? (i := 1) rfl)) (fun _ h9 => h9) rfl dX12_advance_49 ?_
  have hPc := hP.sub (ws' := [(h701, .inr (12, fsM g701))]) [0] rfl
  have hDc := hD.sub (ws' := [(h701, .inr (12, fsM g701))]) [0] (by decide) rfl
  have hKc := hK.sub (tys' := []) [] rfl
  have hFc := va_free (wc := [(h701, .inr (12, fsM g701))]) hD hS hA [0] rfl
  refine va_calli (va_runV (As := [.int 0]) (rest := []) ⟨hx, hb, hml, hown, hts⟩ (k_X12_see_0 l dC dI h701 g701 H.size ) (cwV 1 hts g_k_X12_advance_0_k_X12_see_0_213 rfl rfl rfl (by decide +kernel) ⟨(Nat.le_of_ble_eq_true rfl), (Nat.le_of_ble_eq_true rfl)⟩) (vx_preV (ci := 12) (q0 := 0) hPc hKc hDc hN rfl rfl) rfl rfl hl.1 rfl (lv_room (Nat.le_of_ble_eq_true rfl)) dX12_advance_52 ⟨(Nat.le_of_ble_eq_true rfl), (Nat.le_of_ble_eq_true rfl)⟩) hS (fun q _ h => hFc q h) hFc (fun r3 u t H1 locs ht hvm hw hB hz1 hk1 hS => ?_)
  obtain ⟨hP1, hK1, hD1⟩ := hB
  rw [ht] at hP1
  obtain ⟨hP, hD⟩ := va_join (wr := []) (w1 := [(h701, .inr (12, fsM g701))]) hP hD [0] [] rfl rfl (by decide) (by decide) hk1 hFc hP1 hD1
  generalize H1 = H at hP hS ⊢
  have hP : va_P (dC, dI) vwCl [(h701, .inr (12, fsM g701))] H := hP
  have hD : va_D A [(h701, .inr (12, fsM g701))] := hD
  refine W.widen (k := 0) (n := 0) (by decide) (by decide) ?_
  try dsimp only at hw
  subst hw
  refine lv_istore_n (lv' := [(1, .int (-1)), (0, .ref h701)]) hx hb dX12_advance_55 rfl hl (by decide) rfl (fun ls hl => ?_)
  refine lv_aload_n hx hb dX12_advance_56 rfl (lv_at hl 1 rfl) ?_
  refine lv_lconst (v := 0) hx hb dX12_advance_57 (by decide) ?_
  refine va_put (D := (dC, dI)) (ci := 12) (v := .long 0) (ty := .long) (C := RX12) (T := TX12) (N := 87) hx hb hts in_k_X12_advance_0_12 tyX12 tyX12_ok nmX12 hown hK hP hD hS 0 rfl rfl 24 (by decide) (hts (.fieldLink RX12 219 "LineKeeperModel" "word" "J") (List.mem_of_getElem? (i := 9) rfl)) (fun _ h9 => h9) rfl (tyX12_ok 24 (by decide)) rfl rfl (Nat.le_of_ble_eq_true rfl) dX12_advance_58 (fun H locs hP hD hS => ?_)
  have hP : va_P (dC, dI) vwCl [(h701, .inr (12, fsM g701))] H := hP
  have hD : va_D A [(h701, .inr (12, fsM g701))] := hD
  refine lv_aload_n hx hb dX12_advance_61 rfl (lv_at hl 1 rfl) ?_
  refine lv_iload_n hx hb dX12_advance_62 rfl (lv_at hl 0 rfl) ?_
  refine va_put (D := (dC, dI)) (ci := 12) (v := .int (-1)) (ty := .int) (C := RX12) (T := TX12) (N := 87) hx hb hts in_k_X12_advance_0_12 tyX12 tyX12_ok nmX12 hown hK hP hD hS 0 rfl rfl 23 (by decide) (hts (.fieldLink RX12 223 "LineKeeperModel" "value" "I") (List.mem_of_getElem? (i := 10) rfl)) (fun _ h9 => h9) rfl (tyX12_ok 23 (by decide)) rfl rfl (Nat.le_of_ble_eq_true rfl) dX12_advance_63 (fun H locs hP hD hS => ?_)
  have hP : va_P (dC, dI) vwCl [(h701, .inr (12, (fsM g701).set 23 (.int (-1))))] H := hP
  have hD : va_D A [(h701, .inr (12, (fsM g701).set 23 (.int (-1))))] := hD
  refine lv_iload_n hx hb dX12_advance_66 rfl (lv_at hl 0 rfl) ?_
  refine lv_if_ge (tgt := 78) hx hb dX12_advance_67 (by decide) (fun h => absurd h (by decide)) (fun _ => ?_)
  refine lv_aload_n hx hb dX12_advance_70 rfl (lv_at hl 1 rfl) ?_
  refine lv_iconst (v := 0) hx hb dX12_advance_71 (by decide) ?_
  refine va_put (D := (dC, dI)) (ci := 12) (v := .int 0) (ty := .int) (C := RX12) (T := TX12) (N := 87) hx hb hts in_k_X12_advance_0_12 tyX12 tyX12_ok nmX12 hown hK hP hD hS 0 rfl rfl 22 (by decide) (hts (.fieldLink RX12 226 "LineKeeperModel" "sort" "I") (List.mem_of_getElem? (i := 11) rfl)) (fun _ h9 => h9) rfl (tyX12_ok 22 (by decide)) rfl rfl (Nat.le_of_ble_eq_true rfl) dX12_advance_72 (fun H locs hP hD hS => ?_)
  have hP : va_P (dC, dI) vwCl [(h701, .inr (12, (fsM g701).set 23 (.int (-1))))] H := hP
  have hD : va_D A [(h701, .inr (12, (fsM g701).set 23 (.int (-1))))] := hD
  refine lv_goto (tgt := 282) hx hb dX12_advance_75 (by decide) ?_
  have hP9 := hP.sub (ws' := [(h701, .inr (12, (fsM g701).set 23 (.int (-1))))]) [0] rfl
  have hD9 := hD.sub (ws' := [(h701, .inr (12, (fsM g701).set 23 (.int (-1))))]) [0] (by decide) rfl
  have hK9 := hK.sub (tys' := []) [] rfl
  exact W.vret hx hb hr (fun t ht hW => ⟨⟨(), rfl, trivial, by rw [ht]; exact hP9, va_K.moved hW.alike hK9, hD9⟩, hS.F ht⟩) hS.2.2 dX12_advance_282

def w_k_X12_goOver_0 : List Cond := .code yX12_goOver cX12_goOver 3 (some .boolean) :: ([.fieldLink RX12 255 "LineKeeperModel" "phase" "I", .fieldLink RX12 210 "LineKeeperModel" "next" "I", .fieldLink RX12 268 "LineKeeperModel" "routine" "I", .fieldLink RX12 343 "LineKeeperModel" "line" "I", .fieldLink RX12 304 "LineKeeperModel" "openE" "I", .fieldLink RX12 333 "LineKeeperModel" "openBlocks" "I", .fieldLink RX12 69 "LineKeeperModel" "newFirst" "[I", .fieldLink RX12 207 "LineKeeperModel" "length" "I", .code yX12_see cX12_see 2 (some .int), .initialized RX12, .methodLink RX12 213 yX12_see, .instanceMethod yX12_see, .selects RX12 yX12_see yX12_see, .fieldLink RX12 216 "LineKeeperModel" "place" "I", .fieldLink RX12 219 "LineKeeperModel" "word" "J", .fieldLink RX12 223 "LineKeeperModel" "value" "I", .fieldLink RX12 226 "LineKeeperModel" "sort" "I", .code yX12_advance cX12_advance 3 none, .methodLink RX12 265 yX12_advance, .instanceMethod yX12_advance, .selects RX12 yX12_advance yX12_advance] ++ wsX120)
theorem in_k_X12_goOver_0_12 : ∀ w ∈ wsX120, w ∈ w_k_X12_goOver_0 := fun _ h => List.mem_cons_of_mem _ (List.mem_append_right _ h)
set_option maxRecDepth 100000 in
theorem g_k_X12_goOver_0_k_X12_advance_0_265 : GoodIn w_k_X12_goOver_0 (wsV RX12 265 RX12 yX12_advance w_k_X12_advance_0) := goodIn_r _ [19, 20, 21, 10, 18, 2, 8, 9, 10, 11, 12, 13, 14, 15, 16, 17, 22, 23, 24, 25, 26, 27, 28, 29, 30, 31, 32, 33, 34, 35, 36, 37, 38, 39, 40, 41, 42, 43, 44, 45, 46, 47, 48, 49, 50, 51, 52, 53, 54, 55, 56, 57, 58, 59, 60, 61, 62, 63, 64, 65, 66, 67, 68, 69, 70, 71, 72, 73, 74, 75, 76, 77, 78, 79, 80, 81, 82, 83, 84, 85, 86, 87, 88, 89, 90, 91, 92, 93, 94, 95, 96, 97, 98, 99, 100, 101, 102, 103, 104, 105, 106, 107, 108] (by decide +kernel) (by decide +kernel)
set_option maxHeartbeats 4000000 in
set_option maxRecDepth 100000 in
theorem k_X12_goOver_0 (l : Launch) (dC : Nat → ClassId) (dI : Nat → Nat → Nat) (h701 : Nat) (g701 : Nat → Nat) (cA701 : ClassId) (f701 : Nat → Int32) (cA702 : ClassId) (f702 : Nat → Int32) (cA703 : ClassId) (f703 : Nat → Int32) (sz : Nat) : Met l yX12_goOver w_k_X12_goOver_0 { frames := 2, cells := 0, slots := 0, locals := 43 } (va_Pc [.ref h701, .int 0] (vx_pre dC dI [(h701, .inr (12, fsM g701)), ((g701 35), .inl (cA701, 6, .inl f701)), ((g701 36), .inl (cA702, 6, .inl f702)), ((g701 37), .inl (cA703, 6, .inl f703))] [(cA701, .int), (cA702, .int), (cA703, .int)] sz)) (va_Qi (fun (r : Int32) (_ : Unit) => r = 1) (fun _ t => ∃ (f901 : Nat → Int32), vx_B dC dI (va_A [(h701, .inr (12, fsM g701)), ((g701 35), .inl (cA701, 6, .inl f701)), ((g701 36), .inl (cA702, 6, .inl f702)), ((g701 37), .inl (cA703, 6, .inl f703))] sz) [(h701, .inr (12, (fsM g701).set 23 (.int (-1)))), ((g701 35), .inl (cA701, 6, .inl f701)), ((g701 36), .inl (cA702, 6, .inl f702)), ((g701 37), .inl (cA703, 6, .inl f901))] [(cA701, .int), (cA702, .int), (cA703, .int)] t) (va_A [(h701, .inr (12, fsM g701)), ((g701 35), .inl (cA701, 6, .inl f701)), ((g701 36), .inl (cA702, 6, .inl f702)), ((g701 37), .inl (cA703, 6, .inl f703))] sz)) 0 0 (va_A [(h701, .inr (12, fsM g701)), ((g701 35), .inl (cA701, 6, .inl f701)), ((g701 36), .inl (cA702, 6, .inl f702)), ((g701 37), .inl (cA703, 6, .inl f703))] sz) := by
  refine Met.ofW (cc := cX12_goOver) (maxL := 3) (ret := (some .boolean)) (by decide) rfl ?_
  intro p e s m args below meth c s₁ B hml hv
  obtain ⟨rfl, hsz, hP, hK, hD0, hN⟩ := hv
  have hx := B.exec
  have hb := B.bytes
  have hr := B.returns
  have hts := atoms_spec (ws := w_k_X12_goOver_0) B.pre
  have hown : s.vm.findClass RX12 = some m.cls := findClass_of_methodNamed B.named
  have hlocks := B.notSynchronized
  subst hsz
  have hD := hD0.self (sz := s.heap.size)
  generalize hAe : va_A [(h701, .inr (12, fsM g701)), ((g701 35), .inl (cA701, 6, .inl f701)), ((g701 36), .inl (cA702, 6, .inl f702)), ((g701 37), .inl (cA703, 6, .inl f703))] s.heap.size = A at hD ⊢
  have hA : ∀ q : Nat, s.heap.size ≤ q → A q := fun q h => by rw [← hAe]; exact Or.inr h
  obtain ⟨H, hHe⟩ : ∃ H, H = s.heap := ⟨_, rfl⟩
  rw [← hHe] at hP ⊢
  have hS : va_S A s.heap H [] := by rw [hHe]; exact va_S.rf
  have hl := lv_entry [.ref h701, .int 0] (n := 3) (Nat.le_of_ble_eq_true rfl)
  rw [lg_entry_eq]
  generalize (lg_sl [.ref h701, .int 0] ++ List.replicate (3 - (lg_sl [.ref h701, .int 0]).length) Slot.unset).toArray = ls at hl ⊢
  have hl : lv_has ls 3 [(0, .ref h701), (1, .int 0)] := hl
  refine lv_aload_n hx hb dX12_goOver_0 rfl (lv_at hl 0 rfl) ?_
  refine lv_iload_n hx hb dX12_goOver_1 rfl (lv_at hl 1 rfl) ?_
  refine va_put (D := (dC, dI)) (ci := 12) (v := .int 0) (ty := .int) (C := RX12) (T := TX12) (N := 87) hx hb hts in_k_X12_goOver_0_12 tyX12 tyX12_ok nmX12 hown hK hP hD hS 0 rfl rfl 25 (by decide) (hts (.fieldLink RX12 255 "LineKeeperModel" "phase" "I") (List.mem_of_getElem? (i := 1) rfl)) (fun _ h9 => h9) rfl (tyX12_ok 25 (by decide)) rfl rfl (Nat.le_of_ble_eq_true rfl) dX12_goOver_2 (fun H locs hP hD hS => ?_)
  have hP : va_P (dC, dI) vwCl [(h701, .inr (12, fsM g701)), ((g701 35), .inl (cA701, 6, .inl f701)), ((g701 36), .inl (cA702, 6, .inl f702)), ((g701 37), .inl (cA703, 6, .inl f703))] H := hP
  have hD : va_D A [(h701, .inr (12, fsM g701)), ((g701 35), .inl (cA701, 6, .inl f701)), ((g701 36), .inl (cA702, 6, .inl f702)), ((g701 37), .inl (cA703, 6, .inl f703))] := hD
  refine lv_aload_n hx hb dX12_goOver_5 rfl (lv_at hl 0 rfl) ?_
  refine lv_iconst (v := 0) hx hb dX12_goOver_6 (by decide) ?_
  refine va_put (D := (dC, dI)) (ci := 12) (v := .int 0) (ty := .int) (C := RX12) (T := TX12) (N := 87) hx hb hts in_k_X12_goOver_0_12 tyX12 tyX12_ok nmX12 hown hK hP hD hS 0 rfl rfl 20 (by decide) (hts (.fieldLink RX12 210 "LineKeeperModel" "next" "I") (List.mem_of_getElem? (i := 2) rfl)) (fun _ h9 => h9) rfl (tyX12_ok 20 (by decide)) rfl rfl (Nat.le_of_ble_eq_true rfl) dX12_goOver_7 (fun H locs hP hD hS => ?_)
  have hP : va_P (dC, dI) vwCl [(h701, .inr (12, fsM g701)), ((g701 35), .inl (cA701, 6, .inl f701)), ((g701 36), .inl (cA702, 6, .inl f702)), ((g701 37), .inl (cA703, 6, .inl f703))] H := hP
  have hD : va_D A [(h701, .inr (12, fsM g701)), ((g701 35), .inl (cA701, 6, .inl f701)), ((g701 36), .inl (cA702, 6, .inl f702)), ((g701 37), .inl (cA703, 6, .inl f703))] := hD
  refine lv_aload_n hx hb dX12_goOver_10 rfl (lv_at hl 0 rfl) ?_
  refine lv_iconst (v := 0) hx hb dX12_goOver_11 (by decide) ?_
  refine va_put (D := (dC, dI)) (ci := 12) (v := .int 0) (ty := .int) (C := RX12) (T := TX12) (N := 87) hx hb hts in_k_X12_goOver_0_12 tyX12 tyX12_ok nmX12 hown hK hP hD hS 0 rfl rfl 30 (by decide) (hts (.fieldLink RX12 268 "LineKeeperModel" "routine" "I") (List.mem_of_getElem? (i := 3) rfl)) (fun _ h9 => h9) rfl (tyX12_ok 30 (by decide)) rfl rfl (Nat.le_of_ble_eq_true rfl) dX12_goOver_12 (fun H locs hP hD hS => ?_)
  have hP : va_P (dC, dI) vwCl [(h701, .inr (12, fsM g701)), ((g701 35), .inl (cA701, 6, .inl f701)), ((g701 36), .inl (cA702, 6, .inl f702)), ((g701 37), .inl (cA703, 6, .inl f703))] H := hP
  have hD : va_D A [(h701, .inr (12, fsM g701)), ((g701 35), .inl (cA701, 6, .inl f701)), ((g701 36), .inl (cA702, 6, .inl f702)), ((g701 37), .inl (cA703, 6, .inl f703))] := hD
  refine lv_aload_n hx hb dX12_goOver_15 rfl (lv_at hl 0 rfl) ?_
  refine lv_iconst (v := 0) hx hb dX12_goOver_16 (by decide) ?_
  refine va_put (D := (dC, dI)) (ci := 12) (v := .int 0) (ty := .int) (C := RX12) (T := TX12) (N := 87) hx hb hts in_k_X12_goOver_0_12 tyX12 tyX12_ok nmX12 hown hK hP hD hS 0 rfl rfl 31 (by decide) (hts (.fieldLink RX12 343 "LineKeeperModel" "line" "I") (List.mem_of_getElem? (i := 4) rfl)) (fun _ h9 => h9) rfl (tyX12_ok 31 (by decide)) rfl rfl (Nat.le_of_ble_eq_true rfl) dX12_goOver_17 (fun H locs hP hD hS => ?_)
  have hP : va_P (dC, dI) vwCl [(h701, .inr (12, fsM g701)), ((g701 35), .inl (cA701, 6, .inl f701)), ((g701 36), .inl (cA702, 6, .inl f702)), ((g701 37), .inl (cA703, 6, .inl f703))] H := hP
  have hD : va_D A [(h701, .inr (12, fsM g701)), ((g701 35), .inl (cA701, 6, .inl f701)), ((g701 36), .inl (cA702, 6, .inl f702)), ((g701 37), .inl (cA703, 6, .inl f703))] := hD
  refine lv_aload_n hx hb dX12_goOver_20 rfl (lv_at hl 0 rfl) ?_
  refine lv_iconst (v := 0) hx hb dX12_goOver_21 (by decide) ?_
  refine va_put (D := (dC, dI)) (ci := 12) (v := .int 0) (ty := .int) (C := RX12) (T := TX12) (N := 87) hx hb hts in_k_X12_goOver_0_12 tyX12 tyX12_ok nmX12 hown hK hP hD hS 0 rfl rfl 28 (by decide) (hts (.fieldLink RX12 304 "LineKeeperModel" "openE" "I") (List.mem_of_getElem? (i := 5) rfl)) (fun _ h9 => h9) rfl (tyX12_ok 28 (by decide)) rfl rfl (Nat.le_of_ble_eq_true rfl) dX12_goOver_22 (fun H locs hP hD hS => ?_)
  have hP : va_P (dC, dI) vwCl [(h701, .inr (12, fsM g701)), ((g701 35), .inl (cA701, 6, .inl f701)), ((g701 36), .inl (cA702, 6, .inl f702)), ((g701 37), .inl (cA703, 6, .inl f703))] H := hP
  have hD : va_D A [(h701, .inr (12, fsM g701)), ((g701 35), .inl (cA701, 6, .inl f701)), ((g701 36), .inl (cA702, 6, .inl f702)), ((g701 37), .inl (cA703, 6, .inl f703))] := hD
  refine lv_aload_n hx hb dX12_goOver_25 rfl (lv_at hl 0 rfl) ?_
  refine lv_iconst (v := 0) hx hb dX12_goOver_26 (by decide) ?_
  refine va_put (D := (dC, dI)) (ci := 12) (v := .int 0) (ty := .int) (C := RX12) (T := TX12) (N := 87) hx hb hts in_k_X12_goOver_0_12 tyX12 tyX12_ok nmX12 hown hK hP hD hS 0 rfl rfl 29 (by decide) (hts (.fieldLink RX12 333 "LineKeeperModel" "openBlocks" "I") (List.mem_of_getElem? (i := 6) rfl)) (fun _ h9 => h9) rfl (tyX12_ok 29 (by decide)) rfl rfl (Nat.le_of_ble_eq_true rfl) dX12_goOver_27 (fun H locs hP hD hS => ?_)
  have hP : va_P (dC, dI) vwCl [(h701, .inr (12, fsM g701)), ((g701 35), .inl (cA701, 6, .inl f701)), ((g701 36), .inl (cA702, 6, .inl f702)), ((g701 37), .inl (cA703, 6, .inl f703))] H := hP
  have hD : va_D A [(h701, .inr (12, fsM g701)), ((g701 35), .inl (cA701, 6, .inl f701)), ((g701 36), .inl (cA702, 6, .inl f702)), ((g701 37), .inl (cA703, 6, .inl f703))] := hD
  refine lv_iload_n hx hb dX12_goOver_30 rfl (lv_at hl 1 rfl) ?_
  refine lv_iconst (v := 1) hx hb dX12_goOver_31 (by decide) ?_
  refine lv_icmp_ne (tgt := 68) hx hb dX12_goOver_32 (by decide) (fun _ => ?_) (fun h => absurd h (by decide))
  refine lv_iconst (v := 0) hx hb dX12_goOver_68 (by decide) ?_
  refine lv_istore_n (lv' := [(2, .int 0), (0, .ref h701), (1, .int 0)]) hx hb dX12_goOver_69 rfl hl (by decide) rfl (fun ls hl => ?_)
  refine lv_iload_n hx hb dX12_goOver_70 rfl (lv_at hl 0 rfl) ?_
  refine lv_bipush (v := 6) hx hb dX12_goOver_71 (by decide) ?_
  refine lv_icmp_ge (tgt := 89) hx hb dX12_goOver_73 (by decide) (fun h => absurd h (by decide)) (fun _ => ?_)
  refine lv_aload_n hx hb dX12_goOver_76 rfl (lv_at hl 1 rfl) ?_
  refine va_get (D := (dC, dI)) (ci := 12) (v := .ref (g701 37)) (C := RX12) (T := TX12) (N := 87) hx hb hts in_k_X12_goOver_0_12 hown hK hP 0 rfl rfl 37 (by decide) (hts (.fieldLink RX12 69 "LineKeeperModel" "newFirst" "[I") (List.mem_of_getElem? (i := 7) rfl)) (fun _ h9 => h9) rfl dX12_goOver_77 ?_
  refine lv_iload_n hx hb dX12_goOver_80 rfl (lv_at hl 0 rfl) ?_
  refine lv_iconst (v := 0) hx hb dX12_goOver_81 (by decide) ?_
  refine va_iast hx hb hK hP hD hS 3 2 rfl rfl (vx_in (by decide)) dX12_goOver_82 (fun H locs hP hD hS => ?_)
  generalize (upd f703 (0 : Int32).toNatClampNeg 0) = f1 at hP hD
  have hP : va_P (dC, dI) vwCl [(h701, .inr (12, fsM g701)), ((g701 35), .inl (cA701, 6, .inl f701)), ((g701 36), .inl (cA702, 6, .inl f702)), ((g701 37), .inl (cA703, 6, .inl f1))] H := hP
  have hD : va_D A [(h701, .inr (12, fsM g701)), ((g701 35), .inl (cA701, 6, .inl f701)), ((g701 36), .inl (cA702, 6, .inl f702)), ((g701 37), .inl (cA703, 6, .inl f1))] := hD
  refine lv_iinc (v := 1) (lv' := [(2, .int 1), (0, .ref h701), (1, .int 0)]) hx hb dX12_goOver_83 hl (k := 0) rfl (by decide) (by decide) rfl (fun ls hl => ?_)
  refine lv_goto (tgt := 70) hx hb dX12_goOver_86 (by decide) ?_
  refine lv_iload_n hx hb dX12_goOver_70 rfl (lv_at hl 0 rfl) ?_
  refine lv_bipush (v := 6) hx hb dX12_goOver_71 (by decide) ?_
  refine lv_icmp_ge (tgt := 89) hx hb dX12_goOver_73 (by decide) (fun h => absurd h (by decide)) (fun _ => ?_)
  refine lv_aload_n hx hb dX12_goOver_76 rfl (lv_at hl 1 rfl) ?_
  refine va_get (D := (dC, dI)) (ci := 12) (v := .ref (g701 37)) (C := RX12) (T := TX12) (N := 87) hx hb hts in_k_X12_goOver_0_12 hown hK hP 0 rfl rfl 37 (by decide) (hts (.fieldLink RX12 69 "LineKeeperModel" "newFirst" "[I") (List.mem_of_getElem? (i := 7) rfl)) (fun _ h9 => h9) rfl dX12_goOver_77 ?_
  refine lv_iload_n hx hb dX12_goOver_80 rfl (lv_at hl 0 rfl) ?_
  refine lv_iconst (v := 0) hx hb dX12_goOver_81 (by decide) ?_
  refine va_iast hx hb hK hP hD hS 3 2 rfl rfl (vx_in (by decide)) dX12_goOver_82 (fun H locs hP hD hS => ?_)
  generalize (upd f1 (1 : Int32).toNatClampNeg 0) = f2 at hP hD
  have hP : va_P (dC, dI) vwCl [(h701, .inr (12, fsM g701)), ((g701 35), .inl (cA701, 6, .inl f701)), ((g701 36), .inl (cA702, 6, .inl f702)), ((g701 37), .inl (cA703, 6, .inl f2))] H := hP
  have hD : va_D A [(h701, .inr (12, fsM g701)), ((g701 35), .inl (cA701, 6, .inl f701)), ((g701 36), .inl (cA702, 6, .inl f702)), ((g701 37), .inl (cA703, 6, .inl f2))] := hD
  refine lv_iinc (v := 2) (lv' := [(2, .int 2), (0, .ref h701), (1, .int 0)]) hx hb dX12_goOver_83 hl (k := 0) rfl (by decide) (by decide) rfl (fun ls hl => ?_)
  refine lv_goto (tgt := 70) hx hb dX12_goOver_86 (by decide) ?_
  refine lv_iload_n hx hb dX12_goOver_70 rfl (lv_at hl 0 rfl) ?_
  refine lv_bipush (v := 6) hx hb dX12_goOver_71 (by decide) ?_
  refine lv_icmp_ge (tgt := 89) hx hb dX12_goOver_73 (by decide) (fun h => absurd h (by decide)) (fun _ => ?_)
  refine lv_aload_n hx hb dX12_goOver_76 rfl (lv_at hl 1 rfl) ?_
  refine va_get (D := (dC, dI)) (ci := 12) (v := .ref (g701 37)) (C := RX12) (T := TX12) (N := 87) hx hb hts in_k_X12_goOver_0_12 hown hK hP 0 rfl rfl 37 (by decide) (hts (.fieldLink RX12 69 "LineKeeperModel" "newFirst" "[I") (List.mem_of_getElem? (i := 7) rfl)) (fun _ h9 => h9) rfl dX12_goOver_77 ?_
  refine lv_iload_n hx hb dX12_goOver_80 rfl (lv_at hl 0 rfl) ?_
  refine lv_iconst (v := 0) hx hb dX12_goOver_81 (by decide) ?_
  refine va_iast hx hb hK hP hD hS 3 2 rfl rfl (vx_in (by decide)) dX12_goOver_82 (fun H locs hP hD hS => ?_)
  generalize (upd f2 (2 : Int32).toNatClampNeg 0) = f3 at hP hD
  have hP : va_P (dC, dI) vwCl [(h701, .inr (12, fsM g701)), ((g701 35), .inl (cA701, 6, .inl f701)), ((g701 36), .inl (cA702, 6, .inl f702)), ((g701 37), .inl (cA703, 6, .inl f3))] H := hP
  have hD : va_D A [(h701, .inr (12, fsM g701)), ((g701 35), .inl (cA701, 6, .inl f701)), ((g701 36), .inl (cA702, 6, .inl f702)), ((g701 37), .inl (cA703, 6, .inl f3))] := hD
  refine lv_iinc (v := 3) (lv' := [(2, .int 3), (0, .ref h701), (1, .int 0)]) hx hb dX12_goOver_83 hl (k := 0) rfl (by decide) (by decide) rfl (fun ls hl => ?_)
  refine lv_goto (tgt := 70) hx hb dX12_goOver_86 (by decide) ?_
  refine lv_iload_n hx hb dX12_goOver_70 rfl (lv_at hl 0 rfl) ?_
  refine lv_bipush (v := 6) hx hb dX12_goOver_71 (by decide) ?_
  refine lv_icmp_ge (tgt := 89) hx hb dX12_goOver_73 (by decide) (fun h => absurd h (by decide)) (fun _ => ?_)
  refine lv_aload_n hx hb dX12_goOver_76 rfl (lv_at hl 1 rfl) ?_
  refine va_get (D := (dC, dI)) (ci := 12) (v := .ref (g701 37)) (C := RX12) (T := TX12) (N := 87) hx hb hts in_k_X12_goOver_0_12 hown hK hP 0 rfl rfl 37 (by decide) (hts (.fieldLink RX12 69 "LineKeeperModel" "newFirst" "[I") (List.mem_of_getElem? (i := 7) rfl)) (fun _ h9 => h9) rfl dX12_goOver_77 ?_
  refine lv_iload_n hx hb dX12_goOver_80 rfl (lv_at hl 0 rfl) ?_
  refine lv_iconst (v := 0) hx hb dX12_goOver_81 (by decide) ?_
  refine va_iast hx hb hK hP hD hS 3 2 rfl rfl (vx_in (by decide)) dX12_goOver_82 (fun H locs hP hD hS => ?_)
  generalize (upd f3 (3 : Int32).toNatClampNeg 0) = f4 at hP hD
  have hP : va_P (dC, dI) vwCl [(h701, .inr (12, fsM g701)), ((g701 35), .inl (cA701, 6, .inl f701)), ((g701 36), .inl (cA702, 6, .inl f702)), ((g701 37), .inl (cA703, 6, .inl f4))] H := hP
  have hD : va_D A [(h701, .inr (12, fsM g701)), ((g701 35), .inl (cA701, 6, .inl f701)), ((g701 36), .inl (cA702, 6, .inl f702)), ((g701 37), .inl (cA703, 6, .inl f4))] := hD
  refine lv_iinc (v := 4) (lv' := [(2, .int 4), (0, .ref h701), (1, .int 0)]) hx hb dX12_goOver_83 hl (k := 0) rfl (by decide) (by decide) rfl (fun ls hl => ?_)
  refine lv_goto (tgt := 70) hx hb dX12_goOver_86 (by decide) ?_
  refine lv_iload_n hx hb dX12_goOver_70 rfl (lv_at hl 0 rfl) ?_
  refine lv_bipush (v := 6) hx hb dX12_goOver_71 (by decide) ?_
  refine lv_icmp_ge (tgt := 89) hx hb dX12_goOver_73 (by decide) (fun h => absurd h (by decide)) (fun _ => ?_)
  refine lv_aload_n hx hb dX12_goOver_76 rfl (lv_at hl 1 rfl) ?_
  refine va_get (D := (dC, dI)) (ci := 12) (v := .ref (g701 37)) (C := RX12) (T := TX12) (N := 87) hx hb hts in_k_X12_goOver_0_12 hown hK hP 0 rfl rfl 37 (by decide) (hts (.fieldLink RX12 69 "LineKeeperModel" "newFirst" "[I") (List.mem_of_getElem? (i := 7) rfl)) (fun _ h9 => h9) rfl dX12_goOver_77 ?_
  refine lv_iload_n hx hb dX12_goOver_80 rfl (lv_at hl 0 rfl) ?_
  refine lv_iconst (v := 0) hx hb dX12_goOver_81 (by decide) ?_
  refine va_iast hx hb hK hP hD hS 3 2 rfl rfl (vx_in (by decide)) dX12_goOver_82 (fun H locs hP hD hS => ?_)
  generalize (upd f4 (4 : Int32).toNatClampNeg 0) = f5 at hP hD
  have hP : va_P (dC, dI) vwCl [(h701, .inr (12, fsM g701)), ((g701 35), .inl (cA701, 6, .inl f701)), ((g701 36), .inl (cA702, 6, .inl f702)), ((g701 37), .inl (cA703, 6, .inl f5))] H := hP
  have hD : va_D A [(h701, .inr (12, fsM g701)), ((g701 35), .inl (cA701, 6, .inl f701)), ((g701 36), .inl (cA702, 6, .inl f702)), ((g701 37), .inl (cA703, 6, .inl f5))] := hD
  refine lv_iinc (v := 5) (lv' := [(2, .int 5), (0, .ref h701), (1, .int 0)]) hx hb dX12_goOver_83 hl (k := 0) rfl (by decide) (by decide) rfl (fun ls hl => ?_)
  refine lv_goto (tgt := 70) hx hb dX12_goOver_86 (by decide) ?_
  refine lv_iload_n hx hb dX12_goOver_70 rfl (lv_at hl 0 rfl) ?_
  refine lv_bipush (v := 6) hx hb dX12_goOver_71 (by decide) ?_
  refine lv_icmp_ge (tgt := 89) hx hb dX12_goOver_73 (by decide) (fun h => absurd h (by decide)) (fun _ => ?_)
  refine lv_aload_n hx hb dX12_goOver_76 rfl (lv_at hl 1 rfl) ?_
  refine va_get (D := (dC, dI)) (ci := 12) (v := .ref (g701 37)) (C := RX12) (T := TX12) (N := 87) hx hb hts in_k_X12_goOver_0_12 hown hK hP 0 rfl rfl 37 (by decide) (hts (.fieldLink RX12 69 "LineKeeperModel" "newFirst" "[I") (List.mem_of_getElem? (i := 7) rfl)) (fun _ h9 => h9) rfl dX12_goOver_77 ?_
  refine lv_iload_n hx hb dX12_goOver_80 rfl (lv_at hl 0 rfl) ?_
  refine lv_iconst (v := 0) hx hb dX12_goOver_81 (by decide) ?_
  refine va_iast hx hb hK hP hD hS 3 2 rfl rfl (vx_in (by decide)) dX12_goOver_82 (fun H locs hP hD hS => ?_)
  generalize (upd f5 (5 : Int32).toNatClampNeg 0) = f6 at hP hD
  have hP : va_P (dC, dI) vwCl [(h701, .inr (12, fsM g701)), ((g701 35), .inl (cA701, 6, .inl f701)), ((g701 36), .inl (cA702, 6, .inl f702)), ((g701 37), .inl (cA703, 6, .inl f6))] H := hP
  have hD : va_D A [(h701, .inr (12, fsM g701)), ((g701 35), .inl (cA701, 6, .inl f701)), ((g701 36), .inl (cA702, 6, .inl f702)), ((g701 37), .inl (cA703, 6, .inl f6))] := hD
  refine lv_iinc (v := 6) (lv' := [(2, .int 6), (0, .ref h701), (1, .int 0)]) hx hb dX12_goOver_83 hl (k := 0) rfl (by decide) (by decide) rfl (fun ls hl => ?_)
  refine lv_goto (tgt := 70) hx hb dX12_goOver_86 (by decide) ?_
  refine lv_iload_n hx hb dX12_goOver_70 rfl (lv_at hl 0 rfl) ?_
  refine lv_bipush (v := 6) hx hb dX12_goOver_71 (by decide) ?_
  refine lv_icmp_ge (tgt := 89) hx hb dX12_goOver_73 (by decide) (fun _ => ?_) (fun h => absurd (by decide) h)
  refine lv_aload_n hx hb dX12_goOver_89 rfl (lv_at hl 1 rfl) ?_
  have hPc := hP.sub (ws' := [(h701, .inr (12, fsM g701))]) [0] rfl
  have hDc := hD.sub (ws' := [(h701, .inr (12, fsM g701))]) [0] (by decide) rfl
  have hKc := hK.sub (tys' := []) [] rfl
  have hFc := va_free (wc := [(h701, .inr (12, fsM g701))]) hD hS hA [0] rfl
  refine va_callv (va_runV (As := []) (rest := []) ⟨hx, hb, hml, hown, hts⟩ (k_X12_advance_0 l dC dI h701 g701 H.size ) (cwV 0 hts g_k_X12_goOver_0_k_X12_advance_0_265 rfl rfl rfl (by decide +kernel) ⟨(Nat.le_of_ble_eq_true rfl), (Nat.le_of_ble_eq_true rfl)⟩) (vx_preV (ci := 12) (q0 := 0) hPc hKc hDc hN rfl rfl) rfl rfl hl.1 rfl (lv_room (Nat.le_of_ble_eq_true rfl)) dX12_goOver_90 ⟨(Nat.le_of_ble_eq_true rfl), (Nat.le_of_ble_eq_true rfl)⟩) hS (fun q _ h => hFc q h) hFc (fun u t H1 locs ht hvm hw hB hz1 hk1 hS => ?_)
  obtain ⟨hP1, hK1, hD1⟩ := hB
  rw [ht] at hP1
  obtain ⟨hP, hD⟩ := va_join (wr := [((g701 35), .inl (cA701, 6, .inl f701)), ((g701 36), .inl (cA702, 6, .inl f702)), ((g701 37), .inl (cA703, 6, .inl f6))]) (w1 := [(h701, .inr (12, (fsM g701).set 23 (.int (-1))))]) hP hD [0] [1, 2, 3] rfl rfl (by decide) (by decide) hk1 hFc hP1 hD1
  generalize H1 = H at hP hS ⊢
  have hP : va_P (dC, dI) vwCl [((g701 35), .inl (cA701, 6, .inl f701)), ((g701 36), .inl (cA702, 6, .inl f702)), ((g701 37), .inl (cA703, 6, .inl f6)), (h701, .inr (12, (fsM g701).set 23 (.int (-1))))] H := hP
  have hD : va_D A [((g701 35), .inl (cA701, 6, .inl f701)), ((g701 36), .inl (cA702, 6, .inl f702)), ((g701 37), .inl (cA703, 6, .inl f6)), (h701, .inr (12, (fsM g701).set 23 (.int (-1))))] := hD
  refine W.widen (k := 0) (n := 0) (by decide) (by decide) ?_
  refine lv_aload_n hx hb dX12_goOver_93 rfl (lv_at hl 1 rfl) ?_
  refine va_get (D := (dC, dI)) (ci := 12) (v := .int 0) (C := RX12) (T := TX12) (N := 87) hx hb hts in_k_X12_goOver_0_12 hown hK hP 3 rfl rfl 22 (by decide) (hts (.fieldLink RX12 226 "LineKeeperModel" "sort" "I") (List.mem_of_getElem? (i := 17) rfl)) (fun _ h9 => h9) rfl dX12_goOver_94 ?_
  refine lv_if_eq (tgt := 109) hx hb dX12_goOver_97 (by decide) (fun _ => ?_) (fun h => absurd (by decide) h)
  refine lv_iconst (v := 1) hx hb dX12_goOver_109 (by decide) ?_
  have hP9 := hP.sub (ws' := [(h701, .inr (12, (fsM g701).set 23 (.int (-1)))), ((g701 35), .inl (cA701, 6, .inl f701)), ((g701 36), .inl (cA702, 6, .inl f702)), ((g701 37), .inl (cA703, 6, .inl f6))]) [3, 0, 1, 2] rfl
  have hD9 := hD.sub (ws' := [(h701, .inr (12, (fsM g701).set 23 (.int (-1)))), ((g701 35), .inl (cA701, 6, .inl f701)), ((g701 36), .inl (cA702, 6, .inl f702)), ((g701 37), .inl (cA703, 6, .inl f6))]) [3, 0, 1, 2] (by decide) rfl
  have hK9 := hK.sub (tys' := [(cA701, .int), (cA702, .int), (cA703, .int)]) [0, 1, 2] rfl
  exact W.zret (ty := .boolean) (v := 1) hx hb hr rfl (fun t ht hW => ⟨⟨1, (), rfl, rfl, f6, by rw [ht]; exact hP9, va_K.moved hW.alike hK9, hD9⟩, hS.F ht⟩) hS.2.2 dX12_goOver_110

def w_k_X12_see_1 : List Cond := .code yX12_see cX12_see 2 (some .int) :: ([.fieldLink RX12 207 "LineKeeperModel" "length" "I"] ++ wsX120)
theorem in_k_X12_see_1_12 : ∀ w ∈ wsX120, w ∈ w_k_X12_see_1 := fun _ h => List.mem_cons_of_mem _ (List.mem_append_right _ h)
set_option maxHeartbeats 4000000 in
set_option maxRecDepth 100000 in
theorem k_X12_see_1 (l : Launch) (dC : Nat → ClassId) (dI : Nat → Nat → Nat) (h701 : Nat) (g701 : Nat → Nat) (sz : Nat) : Met l yX12_see w_k_X12_see_1 { frames := 0, cells := 0, slots := 0, locals := 0 } (va_Pc [.ref h701, .int 0] (vx_pre dC dI [(h701, .inr (12, ((fsM g701).set 23 (.int (-1))).set 25 (.int 1)))] [] sz)) (va_Qi (fun (r : Int32) (_ : Unit) => r = (-1)) (fun _ t => vx_B dC dI (va_A [(h701, .inr (12, ((fsM g701).set 23 (.int (-1))).set 25 (.int 1)))] sz) [(h701, .inr (12, ((fsM g701).set 23 (.int (-1))).set 25 (.int 1)))] [] t) (va_A [(h701, .inr (12, ((fsM g701).set 23 (.int (-1))).set 25 (.int 1)))] sz)) 0 0 (va_A [(h701, .inr (12, ((fsM g701).set 23 (.int (-1))).set 25 (.int 1)))] sz) := by
  refine Met.ofW (cc := cX12_see) (maxL := 2) (ret := (some .int)) (by decide) rfl ?_
  intro p e s m args below meth c s₁ B hml hv
  obtain ⟨rfl, hsz, hP, hK, hD0, hN⟩ := hv
  have hx := B.exec
  have hb := B.bytes
  have hr := B.returns
  have hts := atoms_spec (ws := w_k_X12_see_1) B.pre
  have hown : s.vm.findClass RX12 = some m.cls := findClass_of_methodNamed B.named
  have hlocks := B.notSynchronized
  subst hsz
  have hD := hD0.self (sz := s.heap.size)
  generalize hAe : va_A [(h701, .inr (12, ((fsM g701).set 23 (.int (-1))).set 25 (.int 1)))] s.heap.size = A at hD ⊢
  have hA : ∀ q : Nat, s.heap.size ≤ q → A q := fun q h => by rw [← hAe]; exact Or.inr h
  obtain ⟨H, hHe⟩ : ∃ H, H = s.heap := ⟨_, rfl⟩
  rw [← hHe] at hP ⊢
  have hS : va_S A s.heap H [] := by rw [hHe]; exact va_S.rf
  have hl := lv_entry [.ref h701, .int 0] (n := 2) (Nat.le_of_ble_eq_true rfl)
  rw [lg_entry_eq]
  generalize (lg_sl [.ref h701, .int 0] ++ List.replicate (2 - (lg_sl [.ref h701, .int 0]).length) Slot.unset).toArray = ls at hl ⊢
  have hl : lv_has ls 2 [(0, .ref h701), (1, .int 0)] := hl
  refine lv_iload_n hx hb dX12_see_0 rfl (lv_at hl 1 rfl) ?_
  refine lv_aload_n hx hb dX12_see_1 rfl (lv_at hl 0 rfl) ?_
  refine va_get (D := (dC, dI)) (ci := 12) (v := .int 0) (C := RX12) (T := TX12) (N := 87) hx hb hts in_k_X12_see_1_12 hown hK hP 0 rfl rfl 21 (by decide) (hts (.fieldLink RX12 207 "LineKeeperModel" "length" "I") (List.mem_of_getElem? (i := 1) rfl)) (fun _ h9 => h9) rfl dX12_see_2 ?_
  refine lv_icmp_ge (tgt := 21) hx hb dX12_see_5 (by decide) (fun _ => ?_) (fun h => absurd (by decide) h)
  refine lv_iconst (v := (-1)) hx hb dX12_see_21 (by decide) ?_
  have hP9 := hP.sub (ws' := [(h701, .inr (12, ((fsM g701).set 23 (.int (-1))).set 25 (.int 1)))]) [0] rfl
  have hD9 := hD.sub (ws' := [(h701, .inr (12, ((fsM g701).set 23 (.int (-1))).set 25 (.int 1)))]) [0] (by decide) rfl
  have hK9 := hK.sub (tys' := []) [] rfl
  exact W.iret (v := (-1)) hx hb hr (fun t ht hW => ⟨⟨(-1), (), rfl, rfl, by rw [ht]; exact hP9, va_K.moved hW.alike hK9, hD9⟩, hS.F ht⟩) hS.2.2 dX12_see_22

def w_k_X12_advance_1 : List Cond := .code yX12_advance cX12_advance 3 none :: ([.fieldLink RX12 210 "LineKeeperModel" "next" "I", .fieldLink RX12 207 "LineKeeperModel" "length" "I", .code yX12_see cX12_see 2 (some .int), .initialized RX12, .methodLink RX12 213 yX12_see, .instanceMethod yX12_see, .selects RX12 yX12_see yX12_see, .fieldLink RX12 216 "LineKeeperModel" "place" "I", .fieldLink RX12 219 "LineKeeperModel" "word" "J", .fieldLink RX12 223 "LineKeeperModel" "value" "I", .fieldLink RX12 226 "LineKeeperModel" "sort" "I"] ++ wsX120)
theorem in_k_X12_advance_1_12 : ∀ w ∈ wsX120, w ∈ w_k_X12_advance_1 := fun _ h => List.mem_cons_of_mem _ (List.mem_append_right _ h)
set_option maxRecDepth 100000 in
theorem g_k_X12_advance_1_k_X12_see_1_213 : GoodIn w_k_X12_advance_1 (wsV RX12 213 RX12 yX12_see w_k_X12_see_1) := goodIn_r _ [5, 6, 7, 4, 3, 2, 12, 13, 14, 15, 16, 17, 18, 19, 20, 21, 22, 23, 24, 25, 26, 27, 28, 29, 30, 31, 32, 33, 34, 35, 36, 37, 38, 39, 40, 41, 42, 43, 44, 45, 46, 47, 48, 49, 50, 51, 52, 53, 54, 55, 56, 57, 58, 59, 60, 61, 62, 63, 64, 65, 66, 67, 68, 69, 70, 71, 72, 73, 74, 75, 76, 77, 78, 79, 80, 81, 82, 83, 84, 85, 86, 87, 88, 89, 90, 91, 92, 93, 94, 95, 96, 97, 98] (by decide +kernel) (by decide +kernel)
set_option maxHeartbeats 4000000 in
set_option maxRecDepth 100000 in
theorem k_X12_advance_1 (l : Launch) (dC : Nat → ClassId) (dI : Nat → Nat → Nat) (h701 : Nat) (g701 : Nat → Nat) (sz : Nat) : Met l yX12_advance w_k_X12_advance_1 { frames := 1, cells := 0, slots := 0, locals := 21 } (va_Pc [.ref h701] (vx_pre dC dI [(h701, .inr (12, ((fsM g701).set 23 (.int (-1))).set 25 (.int 1)))] [] sz)) (va_Qv (fun _ : Unit => True) (fun _ t => vx_B dC dI (va_A [(h701, .inr (12, ((fsM g701).set 23 (.int (-1))).set 25 (.int 1)))] sz) [(h701, .inr (12, ((fsM g701).set 23 (.int (-1))).set 25 (.int 1)))] [] t) (va_A [(h701, .inr (12, ((fsM g701).set 23 (.int (-1))).set 25 (.int 1)))] sz)) 0 0 (va_A [(h701, .inr (12, ((fsM g701).set 23 (.int (-1))).set 25 (.int 1)))] sz) := by
  refine Met.ofW (cc := cX12_advance) (maxL := 3) (ret := none) (by decide) rfl ?_
  intro p e s m args below meth c s₁ B hml hv
  obtain ⟨rfl, hsz, hP, hK, hD0, hN⟩ := hv
  have hx := B.exec
  have hb := B.bytes
  have hr := B.returns
  have hts := atoms_spec (ws := w_k_X12_advance_1) B.pre
  have hown : s.vm.findClass RX12 = some m.cls := findClass_of_methodNamed B.named
  have hlocks := B.notSynchronized
  subst hsz
  have hD := hD0.self (sz := s.heap.size)
  generalize hAe : va_A [(h701, .inr (12, ((fsM g701).set 23 (.int (-1))).set 25 (.int 1)))] s.heap.size = A at hD ⊢
  have hA : ∀ q : Nat, s.heap.size ≤ q → A q := fun q h => by rw [← hAe]; exact Or.inr h
  obtain ⟨H, hHe⟩ : ∃ H, H = s.heap := ⟨_, rfl⟩
  rw [← hHe] at hP ⊢
  have hS : va_S A s.heap H [] := by rw [hHe]; exact va_S.rf
  have hl := lv_entry [.ref h701] (n := 3) (Nat.le_of_ble_eq_true rfl)
  rw [lg_entry_eq]
  generalize (lg_sl [.ref h701] ++ List.replicate (3 - (lg_sl [.ref h701]).length) Slot.unset).toArray = ls at hl ⊢
  have hl : lv_has ls 3 [(0, .ref h701)] := hl
  refine lv_aload_n hx hb dX12_advance_0 rfl (lv_at hl 0 rfl) ?_
  refine lv_aload_n hx hb dX12_advance_1 rfl (lv_at hl 0 rfl) ?_
  refine va_get (D := (dC, dI)) (ci := 12) (v := .int 0) (C := RX12) (T := TX12) (N := 87) hx hb hts in_k_X12_advance_1_12 hown hK hP 0 rfl rfl 20 (by decide) (hts (.fieldLink RX12 210 "LineKeeperModel" "next" "I") (List.mem_of_getElem? (i := 1) rfl)) (fun _ h9 => h9) rfl dX12_advance_2 ?_
  have hPc := hP.sub (ws' := [(h701, .inr (12, ((fsM g701).set 23 (.int (-1))).set 25 (.int 1)))]) [0] rfl
  have hDc := hD.sub (ws' := [(h701, .inr (12, ((fsM g701).set 23 (.int (-1))).set 25 (.int 1)))]) [0] (by decide) rfl
  have hKc := hK.sub (tys' := []) [] rfl
  have hFc := va_free (wc := [(h701, .inr (12, ((fsM g701).set 23 (.int (-1))).set 25 (.int 1)))]) hD hS hA [0] rfl
  refine va_calli (va_runV (As := [.int 0]) (rest := []) ⟨hx, hb, hml, hown, hts⟩ (k_X12_see_1 l dC dI h701 g701 H.size ) (cwV 1 hts g_k_X12_advance_1_k_X12_see_1_213 rfl rfl rfl (by decide +kernel) ⟨(Nat.le_of_ble_eq_true rfl), (Nat.le_of_ble_eq_true rfl)⟩) (vx_preV (ci := 12) (q0 := 0) hPc hKc hDc hN rfl rfl) rfl rfl hl.1 rfl (lv_room (Nat.le_of_ble_eq_true rfl)) dX12_advance_5 ⟨(Nat.le_of_ble_eq_true rfl), (Nat.le_of_ble_eq_true rfl)⟩) hS (fun q _ h => hFc q h) hFc (fun r1 u t H1 locs ht hvm hw hB hz1 hk1 hS => ?_)
  obtain ⟨hP1, hK1, hD1⟩ := hB
  rw [ht] at hP1
  obtain ⟨hP, hD⟩ := va_join (wr := []) (w1 := [(h701, .inr (12, ((fsM g701).set 23 (.int (-1))).set 25 (.int 1)))]) hP hD [0] [] rfl rfl (by decide) (by decide) hk1 hFc hP1 hD1
  generalize H1 = H at hP hS ⊢
  have hP : va_P (dC, dI) vwCl [(h701, .inr (12, ((fsM g701).set 23 (.int (-1))).set 25 (.int 1)))] H := hP
  have hD : va_D A [(h701, .inr (12, ((fsM g701).set 23 (.int (-1))).set 25 (.int 1)))] := hD
  refine W.widen (k := 0) (n := 0) (by decide) (by decide) ?_
  try dsimp only at hw
  subst hw
  refine lv_bipush (v := 10) hx hb dX12_advance_8 (by decide) ?_
  refine lv_icmp_eq (tgt := 26) hx hb dX12_advance_10 (by decide) (fun h => absurd h (by decide)) (fun _ => ?_)
  refine lv_aload_n hx hb dX12_advance_13 rfl (lv_at hl 0 rfl) ?_
  refine lv_aload_n hx hb dX12_advance_14 rfl (lv_at hl 0 rfl) ?_
  refine va_get (D := (dC, dI)) (ci := 12) (v := .int 0) (C := RX12) (T := TX12) (N := 87) hx hb hts in_k_X12_advance_1_12 hown hK hP 0 rfl rfl 20 (by decide) (hts (.fieldLink RX12 210 "LineKeeperModel" "next" "I") (List.mem_of_getElem? (i := 1) rfl)) (fun _ h9 => h9) rfl dX12_advance_15 ?_
  have hPc := hP.sub (ws' := [(h701, .inr (12, ((fsM g701).set 23 (.int (-1))).set 25 (.int 1)))]) [0] rfl
  have hDc := hD.sub (ws' := [(h701, .inr (12, ((fsM g701).set 23 (.int (-1))).set 25 (.int 1)))]) [0] (by decide) rfl
  have hKc := hK.sub (tys' := []) [] rfl
  have hFc := va_free (wc := [(h701, .inr (12, ((fsM g701).set 23 (.int (-1))).set 25 (.int 1)))]) hD hS hA [0] rfl
  refine va_calli (va_runV (As := [.int 0]) (rest := []) ⟨hx, hb, hml, hown, hts⟩ (k_X12_see_1 l dC dI h701 g701 H.size ) (cwV 1 hts g_k_X12_advance_1_k_X12_see_1_213 rfl rfl rfl (by decide +kernel) ⟨(Nat.le_of_ble_eq_true rfl), (Nat.le_of_ble_eq_true rfl)⟩) (vx_preV (ci := 12) (q0 := 0) hPc hKc hDc hN rfl rfl) rfl rfl hl.1 rfl (lv_room (Nat.le_of_ble_eq_true rfl)) dX12_advance_18 ⟨(Nat.le_of_ble_eq_true rfl), (Nat.le_of_ble_eq_true rfl)⟩) hS (fun q _ h => hFc q h) hFc (fun r2 u t H1 locs ht hvm hw hB hz1 hk1 hS => ?_)
  obtain ⟨hP1, hK1, hD1⟩ := hB
  rw [ht] at hP1
  obtain ⟨hP, hD⟩ := va_join (wr := []) (w1 := [(h701, .inr (12, ((fsM g701).set 23 (.int (-1))).set 25 (.int 1)))]) hP hD [0] [] rfl rfl (by decide) (by decide) hk1 hFc hP1 hD1
  generalize H1 = H at hP hS ⊢
  have hP : va_P (dC, dI) vwCl [(h701, .inr (12, ((fsM g701).set 23 (.int (-1))).set 25 (.int 1)))] H := hP
  have hD : va_D A [(h701, .inr (12, ((fsM g701).set 23 (.int (-1))).set 25 (.int 1)))] := hD
  refine W.widen (k := 0) (n := 0) (by decide) (by decide) ?_
  try dsimp only at hw
  subst hw
  refine lv_bipush (v := 32) hx hb dX12_advance_21 (by decide) ?_
  refine lv_icmp_ne (tgt := 39) hx hb dX12_advance_23 (by decide) (fun _ => ?_) (fun h => absurd h (by decide))
  refine lv_aload_n hx hb dX12_advance_39 rfl (lv_at hl 0 rfl) ?_
  refine lv_aload_n hx hb dX12_advance_40 rfl (lv_at hl 0 rfl) ?_
  refine va_get (D := (dC, dI)) (ci := 12) (v := .int 0) (C := RX12) (T := TX12) (N := 87) hx hb hts in_k_X12_advance_1_12 hown hK hP 0 rfl rfl 20 (by decide) (hts (.fieldLink RX12 210 "LineKeeperModel" "next" "I") (List.mem_of_getElem? (i := 1) rfl)) (fun _ h9 => h9) rfl dX12_advance_41 ?_
  refine va_put (D := (dC, dI)) (ci := 12) (v := .int 0) (ty := .int) (C := RX12) (T := TX12) (N := 87) hx hb hts in_k_X12_advance_1_12 tyX12 tyX12_ok nmX12 hown hK hP hD hS 0 rfl rfl 19 (by decide) (hts (.fieldLink RX12 216 "LineKeeperModel" "place" "I") (List.mem_of_getElem? (i := 8) rfl)) (fun _ h9 => h9) rfl (tyX12_ok 19 (by decide)) rfl rfl (Nat.le_of_ble_eq_true rfl) dX12_advance_44 (fun H locs hP hD hS => ?_)
  have hP : va_P (dC, dI) vwCl [(h701, .inr (12, ((fsM g701).set 23 (.int (-1))).set 25 (.int 1)))] H := hP
  have hD : va_D A [(h701, .inr (12, ((fsM g701).set 23 (.int (-1))).set 25 (.int 1)))] := hD
  refine lv_aload_n hx hb dX12_advance_47 rfl (lv_at hl 0 rfl) ?_
  refine lv_aload_n hx hb dX12_advance_48 rfl (lv_at hl 0 rfl) ?_
  refine va_get (D := (dC, dI)) (ci := 12) (v := .int 0) (C := RX12) (T := TX12) (N := 87) hx hb hts in_k_X12_advance_1_12 hown hK hP 0 rfl rfl 20 (by decide) (hts (.fieldLink RX12 210 "LineKeeperModel" "next" "I") (List.mem_of_getElem? (i := 1) rfl)) (fun _ h9 => h9) rfl dX12_advance_49 ?_
  have hPc := hP.sub (ws' := [(h701, .inr (12, ((fsM g701).set 23 (.int (-1))).set 25 (.int 1)))]) [0] rfl
  have hDc := hD.sub (ws' := [(h701, .inr (12, ((fsM g701).set 23 (.int (-1))).set 25 (.int 1)))]) [0] (by decide) rfl
  have hKc := hK.sub (tys' := []) [] rfl
  have hFc := va_free (wc := [(h701, .inr (12, ((fsM g701).set 23 (.int (-1))).set 25 (.int 1)))]) hD hS hA [0] rfl
  refine va_calli (va_runV (As := [.int 0]) (rest := []) ⟨hx, hb, hml, hown, hts⟩ (k_X12_see_1 l dC dI h701 g701 H.size ) (cwV 1 hts g_k_X12_advance_1_k_X12_see_1_213 rfl rfl rfl (by decide +kernel) ⟨(Nat.le_of_ble_eq_true rfl), (Nat.le_of_ble_eq_true rfl)⟩) (vx_preV (ci := 12) (q0 := 0) hPc hKc hDc hN rfl rfl) rfl rfl hl.1 rfl (lv_room (Nat.le_of_ble_eq_true rfl)) dX12_advance_52 ⟨(Nat.le_of_ble_eq_true rfl), (Nat.le_of_ble_eq_true rfl)⟩) hS (fun q _ h => hFc q h) hFc (fun r3 u t H1 locs ht hvm hw hB hz1 hk1 hS => ?_)
  obtain ⟨hP1, hK1, hD1⟩ := hB
  rw [ht] at hP1
  obtain ⟨hP, hD⟩ := va_join (wr := []) (w1 := [(h701, .inr (12, ((fsM g701).set 23 (.int (-1))).set 25 (.int 1)))]) hP hD [0] [] rfl rfl (by decide) (by decide) hk1 hFc hP1 hD1
  generalize H1 = H at hP hS ⊢
  have hP : va_P (dC, dI) vwCl [(h701, .inr (12, ((fsM g701).set 23 (.int (-1))).set 25 (.int 1)))] H := hP
  have hD : va_D A [(h701, .inr (12, ((fsM g701).set 23 (.int (-1))).set 25 (.int 1)))] := hD
  refine W.widen (k := 0) (n := 0) (by decide) (by decide) ?_
  try dsimp only at hw
  subst hw
  refine lv_istore_n (lv' := [(1, .int (-1)), (0, .ref h701)]) hx hb dX12_advance_55 rfl hl (by decide) rfl (fun ls hl => ?_)
  refine lv_aload_n hx hb dX12_advance_56 rfl (lv_at hl 1 rfl) ?_
  refine lv_lconst (v := 0) hx hb dX12_advance_57 (by decide) ?_
  refine va_put (D := (dC, dI)) (ci := 12) (v := .long 0) (ty := .long) (C := RX12) (T := TX12) (N := 87) hx hb hts in_k_X12_advance_1_12 tyX12 tyX12_ok nmX12 hown hK hP hD hS 0 rfl rfl 24 (by decide) (hts (.fieldLink RX12 219 "LineKeeperModel" "word" "J") (List.mem_of_getElem? (i := 9) rfl)) (fun _ h9 => h9) rfl (tyX12_ok 24 (by decide)) rfl rfl (Nat.le_of_ble_eq_true rfl) dX12_advance_58 (fun H locs hP hD hS => ?_)
  have hP : va_P (dC, dI) vwCl [(h701, .inr (12, ((fsM g701).set 23 (.int (-1))).set 25 (.int 1)))] H := hP
  have hD : va_D A [(h701, .inr (12, ((fsM g701).set 23 (.int (-1))).set 25 (.int 1)))] := hD
  refine lv_aload_n hx hb dX12_advance_61 rfl (lv_at hl 1 rfl) ?_
  refine lv_iload_n hx hb dX12_advance_62 rfl (lv_at hl 0 rfl) ?_
  refine va_put (D := (dC, dI)) (ci := 12) (v := .int (-1)) (ty := .int) (C := RX12) (T := TX12) (N := 87) hx hb hts in_k_X12_advance_1_12 tyX12 tyX12_ok nmX12 hown hK hP hD hS 0 rfl rfl 23 (by decide) (hts (.fieldLink RX12 223 "LineKeeperModel" "value" "I") (List.mem_of_getElem? (i := 10) rfl)) (fun _ h9 => h9) rfl (tyX12_ok 23 (by decide)) rfl rfl (Nat.le_of_ble_eq_true rfl) dX12_advance_63 (fun H locs hP hD hS => ?_)
  have hP : va_P (dC, dI) vwCl [(h701, .inr (12, ((fsM g701).set 23 (.int (-1))).set 25 (.int 1)))] H := hP
  have hD : va_D A [(h701, .inr (12, ((fsM g701).set 23 (.int (-1))).set 25 (.int 1)))] := hD
  refine lv_iload_n hx hb dX12_advance_66 rfl (lv_at hl 0 rfl) ?_
  refine lv_if_ge (tgt := 78) hx hb dX12_advance_67 (by decide) (fun h => absurd h (by decide)) (fun _ => ?_)
  refine lv_aload_n hx hb dX12_advance_70 rfl (lv_at hl 1 rfl) ?_
  refine lv_iconst (v := 0) hx hb dX12_advance_71 (by decide) ?_
  refine va_put (D := (dC, dI)) (ci := 12) (v := .int 0) (ty := .int) (C := RX12) (T := TX12) (N := 87) hx hb hts in_k_X12_advance_1_12 tyX12 tyX12_ok nmX12 hown hK hP hD hS 0 rfl rfl 22 (by decide) (hts (.fieldLink RX12 226 "LineKeeperModel" "sort" "I") (List.mem_of_getElem? (i := 11) rfl)) (fun _ h9 => h9) rfl (tyX12_ok 22 (by decide)) rfl rfl (Nat.le_of_ble_eq_true rfl) dX12_advance_72 (fun H locs hP hD hS => ?_)
  have hP : va_P (dC, dI) vwCl [(h701, .inr (12, ((fsM g701).set 23 (.int (-1))).set 25 (.int 1)))] H := hP
  have hD : va_D A [(h701, .inr (12, ((fsM g701).set 23 (.int (-1))).set 25 (.int 1)))] := hD
  refine lv_goto (tgt := 282) hx hb dX12_advance_75 (by decide) ?_
  have hP9 := hP.sub (ws' := [(h701, .inr (12, ((fsM g701).set 23 (.int (-1))).set 25 (.int 1)))]) [0] rfl
  have hD9 := hD.sub (ws' := [(h701, .inr (12, ((fsM g701).set 23 (.int (-1))).set 25 (.int 1)))]) [0] (by decide) rfl
  have hK9 := hK.sub (tys' := []) [] rfl
  exact W.vret hx hb hr (fun t ht hW => ⟨⟨(), rfl, trivial, by rw [ht]; exact hP9, va_K.moved hW.alike hK9, hD9⟩, hS.F ht⟩) hS.2.2 dX12_advance_282

def w_k_X12_goOver_1 : List Cond := .code yX12_goOver cX12_goOver 3 (some .boolean) :: ([.fieldLink RX12 255 "LineKeeperModel" "phase" "I", .fieldLink RX12 210 "LineKeeperModel" "next" "I", .fieldLink RX12 268 "LineKeeperModel" "routine" "I", .fieldLink RX12 343 "LineKeeperModel" "line" "I", .fieldLink RX12 304 "LineKeeperModel" "openE" "I", .fieldLink RX12 333 "LineKeeperModel" "openBlocks" "I", .fieldLink RX12 376 "LineKeeperModel" "toldRoutines" "I", .fieldLink RX12 63 "LineKeeperModel" "newNames" "[I", .fieldLink RX12 66 "LineKeeperModel" "newParams" "[I", .fieldLink RX12 69 "LineKeeperModel" "newFirst" "[I", .fieldLink RX12 207 "LineKeeperModel" "length" "I", .code yX12_see cX12_see 2 (some .int), .initialized RX12, .methodLink RX12 213 yX12_see, .instanceMethod yX12_see, .selects RX12 yX12_see yX12_see, .fieldLink RX12 216 "LineKeeperModel" "place" "I", .fieldLink RX12 219 "LineKeeperModel" "word" "J", .fieldLink RX12 223 "LineKeeperModel" "value" "I", .fieldLink RX12 226 "LineKeeperModel" "sort" "I", .code yX12_advance cX12_advance 3 none, .methodLink RX12 265 yX12_advance, .instanceMethod yX12_advance, .selects RX12 yX12_advance yX12_advance] ++ wsX120)
theorem in_k_X12_goOver_1_12 : ∀ w ∈ wsX120, w ∈ w_k_X12_goOver_1 := fun _ h => List.mem_cons_of_mem _ (List.mem_append_right _ h)
set_option maxRecDepth 100000 in
theorem g_k_X12_goOver_1_k_X12_advance_1_265 : GoodIn w_k_X12_goOver_1 (wsV RX12 265 RX12 yX12_advance w_k_X12_advance_1) := goodIn_r _ [22, 23, 24, 13, 21, 2, 11, 12, 13, 14, 15, 16, 17, 18, 19, 20, 25, 26, 27, 28, 29, 30, 31, 32, 33, 34, 35, 36, 37, 38, 39, 40, 41, 42, 43, 44, 45, 46, 47, 48, 49, 50, 51, 52, 53, 54, 55, 56, 57, 58, 59, 60, 61, 62, 63, 64, 65, 66, 67, 68, 69, 70, 71, 72, 73, 74, 75, 76, 77, 78, 79, 80, 81, 82, 83, 84, 85, 86, 87, 88, 89, 90, 91, 92, 93, 94, 95, 96, 97, 98, 99, 100, 101, 102, 103, 104, 105, 106, 107, 108, 109, 110, 111] (by decide +kernel) (by decide +kernel)
set_option maxHeartbeats 4000000 in
set_option maxRecDepth 100000 in
theorem k_X12_goOver_1 (l : Launch) (dC : Nat → ClassId) (dI : Nat → Nat → Nat) (h701 : Nat) (g701 : Nat → Nat) (cA701 : ClassId) (f701 : Nat → Int32) (cA702 : ClassId) (f702 : Nat → Int32) (cA703 : ClassId) (f703 : Nat → Int32) (sz : Nat) : Met l yX12_goOver w_k_X12_goOver_1 { frames := 2, cells := 0, slots := 0, locals := 43 } (va_Pc [.ref h701, .int 1] (vx_pre dC dI [(h701, .inr (12, (fsM g701).set 23 (.int (-1)))), ((g701 35), .inl (cA701, 6, .inl f701)), ((g701 36), .inl (cA702, 6, .inl f702)), ((g701 37), .inl (cA703, 6, .inl f703))] [(cA701, .int), (cA702, .int), (cA703, .int)] sz)) (va_Qi (fun (r : Int32) (_ : Unit) => r = 1) (fun _ t => ∃ (f901 : Nat → Int32), ∃ (f902 : Nat → Int32), ∃ (f903 : Nat → Int32), vx_B dC dI (va_A [(h701, .inr (12, (fsM g701).set 23 (.int (-1)))), ((g701 35), .inl (cA701, 6, .inl f701)), ((g701 36), .inl (cA702, 6, .inl f702)), ((g701 37), .inl (cA703, 6, .inl f703))] sz) [(h701, .inr (12, ((fsM g701).set 23 (.int (-1))).set 25 (.int 1))), ((g701 35), .inl (cA701, 6, .inl f901)), ((g701 36), .inl (cA702, 6, .inl f902)), ((g701 37), .inl (cA703, 6, .inl f903))] [(cA701, .int), (cA702, .int), (cA703, .int)] t) (va_A [(h701, .inr (12, (fsM g701).set 23 (.int (-1)))), ((g701 35), .inl (cA701, 6, .inl f701)), ((g701 36), .inl (cA702, 6, .inl f702)), ((g701 37), .inl (cA703, 6, .inl f703))] sz)) 0 0 (va_A [(h701, .inr (12, (fsM g701).set 23 (.int (-1)))), ((g701 35), .inl (cA701, 6, .inl f701)), ((g701 36), .inl (cA702, 6, .inl f702)), ((g701 37), .inl (cA703, 6, .inl f703))] sz) := by
  refine Met.ofW (cc := cX12_goOver) (maxL := 3) (ret := (some .boolean)) (by decide) rfl ?_
  intro p e s m args below meth c s₁ B hml hv
  obtain ⟨rfl, hsz, hP, hK, hD0, hN⟩ := hv
  have hx := B.exec
  have hb := B.bytes
  have hr := B.returns
  have hts := atoms_spec (ws := w_k_X12_goOver_1) B.pre
  have hown : s.vm.findClass RX12 = some m.cls := findClass_of_methodNamed B.named
  have hlocks := B.notSynchronized
  subst hsz
  have hD := hD0.self (sz := s.heap.size)
  generalize hAe : va_A [(h701, .inr (12, (fsM g701).set 23 (.int (-1)))), ((g701 35), .inl (cA701, 6, .inl f701)), ((g701 36), .inl (cA702, 6, .inl f702)), ((g701 37), .inl (cA703, 6, .inl f703))] s.heap.size = A at hD ⊢
  have hA : ∀ q : Nat, s.heap.size ≤ q → A q := fun q h => by rw [← hAe]; exact Or.inr h
  obtain ⟨H, hHe⟩ : ∃ H, H = s.heap := ⟨_, rfl⟩
  rw [← hHe] at hP ⊢
  have hS : va_S A s.heap H [] := by rw [hHe]; exact va_S.rf
  have hl := lv_entry [.ref h701, .int 1] (n := 3) (Nat.le_of_ble_eq_true rfl)
  rw [lg_entry_eq]
  generalize (lg_sl [.ref h701, .int 1] ++ List.replicate (3 - (lg_sl [.ref h701, .int 1]).length) Slot.unset).toArray = ls at hl ⊢
  have hl : lv_has ls 3 [(0, .ref h701), (1, .int 1)] := hl
  refine lv_aload_n hx hb dX12_goOver_0 rfl (lv_at hl 0 rfl) ?_
  refine lv_iload_n hx hb dX12_goOver_1 rfl (lv_at hl 1 rfl) ?_
  refine va_put (D := (dC, dI)) (ci := 12) (v := .int 1) (ty := .int) (C := RX12) (T := TX12) (N := 87) hx hb hts in_k_X12_goOver_1_12 tyX12 tyX12_ok nmX12 hown hK hP hD hS 0 rfl rfl 25 (by decide) (hts (.fieldLink RX12 255 "LineKeeperModel" "phase" "I") (List.mem_of_getElem? (i := 1) rfl)) (fun _ h9 => h9) rfl (tyX12_ok 25 (by decide)) rfl rfl (Nat.le_of_ble_eq_true rfl) dX12_goOver_2 (fun H locs hP hD hS => ?_)
  have hP : va_P (dC, dI) vwCl [(h701, .inr (12, ((fsM g701).set 23 (.int (-1))).set 25 (.int 1))), ((g701 35), .inl (cA701, 6, .inl f701)), ((g701 36), .inl (cA702, 6, .inl f702)), ((g701 37), .inl (cA703, 6, .inl f703))] H := hP
  have hD : va_D A [(h701, .inr (12, ((fsM g701).set 23 (.int (-1))).set 25 (.int 1))), ((g701 35), .inl (cA701, 6, .inl f701)), ((g701 36), .inl (cA702, 6, .inl f702)), ((g701 37), .inl (cA703, 6, .inl f703))] := hD
  refine lv_aload_n hx hb dX12_goOver_5 rfl (lv_at hl 0 rfl) ?_
  refine lv_iconst (v := 0) hx hb dX12_goOver_6 (by decide) ?_
  refine va_put (D := (dC, dI)) (ci := 12) (v := .int 0) (ty := .int) (C := RX12) (T := TX12) (N := 87) hx hb hts in_k_X12_goOver_1_12 tyX12 tyX12_ok nmX12 hown hK hP hD hS 0 rfl rfl 20 (by decide) (hts (.fieldLink RX12 210 "LineKeeperModel" "next" "I") (List.mem_of_getElem? (i := 2) rfl)) (fun _ h9 => h9) rfl (tyX12_ok 20 (by decide)) rfl rfl (Nat.le_of_ble_eq_true rfl) dX12_goOver_7 (fun H locs hP hD hS => ?_)
  have hP : va_P (dC, dI) vwCl [(h701, .inr (12, ((fsM g701).set 23 (.int (-1))).set 25 (.int 1))), ((g701 35), .inl (cA701, 6, .inl f701)), ((g701 36), .inl (cA702, 6, .inl f702)), ((g701 37), .inl (cA703, 6, .inl f703))] H := hP
  have hD : va_D A [(h701, .inr (12, ((fsM g701).set 23 (.int (-1))).set 25 (.int 1))), ((g701 35), .inl (cA701, 6, .inl f701)), ((g701 36), .inl (cA702, 6, .inl f702)), ((g701 37), .inl (cA703, 6, .inl f703))] := hD
  refine lv_aload_n hx hb dX12_goOver_10 rfl (lv_at hl 0 rfl) ?_
  refine lv_iconst (v := 0) hx hb dX12_goOver_11 (by decide) ?_
  refine va_put (D := (dC, dI)) (ci := 12) (v := .int 0) (ty := .int) (C := RX12) (T := TX12) (N := 87) hx hb hts in_k_X12_goOver_1_12 tyX12 tyX12_ok nmX12 hown hK hP hD hS 0 rfl rfl 30 (by decide) (hts (.fieldLink RX12 268 "LineKeeperModel" "routine" "I") (List.mem_of_getElem? (i := 3) rfl)) (fun _ h9 => h9) rfl (tyX12_ok 30 (by decide)) rfl rfl (Nat.le_of_ble_eq_true rfl) dX12_goOver_12 (fun H locs hP hD hS => ?_)
  have hP : va_P (dC, dI) vwCl [(h701, .inr (12, ((fsM g701).set 23 (.int (-1))).set 25 (.int 1))), ((g701 35), .inl (cA701, 6, .inl f701)), ((g701 36), .inl (cA702, 6, .inl f702)), ((g701 37), .inl (cA703, 6, .inl f703))] H := hP
  have hD : va_D A [(h701, .inr (12, ((fsM g701).set 23 (.int (-1))).set 25 (.int 1))), ((g701 35), .inl (cA701, 6, .inl f701)), ((g701 36), .inl (cA702, 6, .inl f702)), ((g701 37), .inl (cA703, 6, .inl f703))] := hD
  refine lv_aload_n hx hb dX12_goOver_15 rfl (lv_at hl 0 rfl) ?_
  refine lv_iconst (v := 0) hx hb dX12_goOver_16 (by decide) ?_
  refine va_put (D := (dC, dI)) (ci := 12) (v := .int 0) (ty := .int) (C := RX12) (T := TX12) (N := 87) hx hb hts in_k_X12_goOver_1_12 tyX12 tyX12_ok nmX12 hown hK hP hD hS 0 rfl rfl 31 (by decide) (hts (.fieldLink RX12 343 "LineKeeperModel" "line" "I") (List.mem_of_getElem? (i := 4) rfl)) (fun _ h9 => h9) rfl (tyX12_ok 31 (by decide)) rfl rfl (Nat.le_of_ble_eq_true rfl) dX12_goOver_17 (fun H locs hP hD hS => ?_)
  have hP : va_P (dC, dI) vwCl [(h701, .inr (12, ((fsM g701).set 23 (.int (-1))).set 25 (.int 1))), ((g701 35), .inl (cA701, 6, .inl f701)), ((g701 36), .inl (cA702, 6, .inl f702)), ((g701 37), .inl (cA703, 6, .inl f703))] H := hP
  have hD : va_D A [(h701, .inr (12, ((fsM g701).set 23 (.int (-1))).set 25 (.int 1))), ((g701 35), .inl (cA701, 6, .inl f701)), ((g701 36), .inl (cA702, 6, .inl f702)), ((g701 37), .inl (cA703, 6, .inl f703))] := hD
  refine lv_aload_n hx hb dX12_goOver_20 rfl (lv_at hl 0 rfl) ?_
  refine lv_iconst (v := 0) hx hb dX12_goOver_21 (by decide) ?_
  refine va_put (D := (dC, dI)) (ci := 12) (v := .int 0) (ty := .int) (C := RX12) (T := TX12) (N := 87) hx hb hts in_k_X12_goOver_1_12 tyX12 tyX12_ok nmX12 hown hK hP hD hS 0 rfl rfl 28 (by decide) (hts (.fieldLink RX12 304 "LineKeeperModel" "openE" "I") (List.mem_of_getElem? (i := 5) rfl)) (fun _ h9 => h9) rfl (tyX12_ok 28 (by decide)) rfl rfl (Nat.le_of_ble_eq_true rfl) dX12_goOver_22 (fun H locs hP hD hS => ?_)
  have hP : va_P (dC, dI) vwCl [(h701, .inr (12, ((fsM g701).set 23 (.int (-1))).set 25 (.int 1))), ((g701 35), .inl (cA701, 6, .inl f701)), ((g701 36), .inl (cA702, 6, .inl f702)), ((g701 37), .inl (cA703, 6, .inl f703))] H := hP
  have hD : va_D A [(h701, .inr (12, ((fsM g701).set 23 (.int (-1))).set 25 (.int 1))), ((g701 35), .inl (cA701, 6, .inl f701)), ((g701 36), .inl (cA702, 6, .inl f702)), ((g701 37), .inl (cA703, 6, .inl f703))] := hD
  refine lv_aload_n hx hb dX12_goOver_25 rfl (lv_at hl 0 rfl) ?_
  refine lv_iconst (v := 0) hx hb dX12_goOver_26 (by decide) ?_
  refine va_put (D := (dC, dI)) (ci := 12) (v := .int 0) (ty := .int) (C := RX12) (T := TX12) (N := 87) hx hb hts in_k_X12_goOver_1_12 tyX12 tyX12_ok nmX12 hown hK hP hD hS 0 rfl rfl 29 (by decide) (hts (.fieldLink RX12 333 "LineKeeperModel" "openBlocks" "I") (List.mem_of_getElem? (i := 6) rfl)) (fun _ h9 => h9) rfl (tyX12_ok 29 (by decide)) rfl rfl (Nat.le_of_ble_eq_true rfl) dX12_goOver_27 (fun H locs hP hD hS => ?_)
  have hP : va_P (dC, dI) vwCl [(h701, .inr (12, ((fsM g701).set 23 (.int (-1))).set 25 (.int 1))), ((g701 35), .inl (cA701, 6, .inl f701)), ((g701 36), .inl (cA702, 6, .inl f702)), ((g701 37), .inl (cA703, 6, .inl f703))] H := hP
  have hD : va_D A [(h701, .inr (12, ((fsM g701).set 23 (.int (-1))).set 25 (.int 1))), ((g701 35), .inl (cA701, 6, .inl f701)), ((g701 36), .inl (cA702, 6, .inl f702)), ((g701 37), .inl (cA703, 6, .inl f703))] := hD
  refine lv_iload_n hx hb dX12_goOver_30 rfl (lv_at hl 1 rfl) ?_
  refine lv_iconst (v := 1) hx hb dX12_goOver_31 (by decide) ?_
  refine lv_icmp_ne (tgt := 68) hx hb dX12_goOver_32 (by decide) (fun h => absurd (by decide) h) (fun _ => ?_)
  refine lv_aload_n hx hb dX12_goOver_35 rfl (lv_at hl 0 rfl) ?_
  refine lv_iconst (v := 0) hx hb dX12_goOver_36 (by decide) ?_
  refine va_put (D := (dC, dI)) (ci := 12) (v := .int 0) (ty := .int) (C := RX12) (T := TX12) (N := 87) hx hb hts in_k_X12_goOver_1_12 tyX12 tyX12_ok nmX12 hown hK hP hD hS 0 rfl rfl 43 (by decide) (hts (.fieldLink RX12 376 "LineKeeperModel" "toldRoutines" "I") (List.mem_of_getElem? (i := 7) rfl)) (fun _ h9 => h9) rfl (tyX12_ok 43 (by decide)) rfl rfl (Nat.le_of_ble_eq_true rfl) dX12_goOver_37 (fun H locs hP hD hS => ?_)
  have hP : va_P (dC, dI) vwCl [(h701, .inr (12, ((fsM g701).set 23 (.int (-1))).set 25 (.int 1))), ((g701 35), .inl (cA701, 6, .inl f701)), ((g701 36), .inl (cA702, 6, .inl f702)), ((g701 37), .inl (cA703, 6, .inl f703))] H := hP
  have hD : va_D A [(h701, .inr (12, ((fsM g701).set 23 (.int (-1))).set 25 (.int 1))), ((g701 35), .inl (cA701, 6, .inl f701)), ((g701 36), .inl (cA702, 6, .inl f702)), ((g701 37), .inl (cA703, 6, .inl f703))] := hD
  refine lv_iconst (v := 0) hx hb dX12_goOver_40 (by decide) ?_
  refine lv_istore_n (lv' := [(2, .int 0), (0, .ref h701), (1, .int 1)]) hx hb dX12_goOver_41 rfl hl (by decide) rfl (fun ls hl => ?_)
  refine lv_iload_n hx hb dX12_goOver_42 rfl (lv_at hl 0 rfl) ?_
  refine lv_bipush (v := 6) hx hb dX12_goOver_43 (by decide) ?_
  refine lv_icmp_ge (tgt := 68) hx hb dX12_goOver_45 (by decide) (fun h => absurd h (by decide)) (fun _ => ?_)
  refine lv_aload_n hx hb dX12_goOver_48 rfl (lv_at hl 1 rfl) ?_
  refine va_get (D := (dC, dI)) (ci := 12) (v := .ref (g701 35)) (C := RX12) (T := TX12) (N := 87) hx hb hts in_k_X12_goOver_1_12 hown hK hP 0 rfl rfl 35 (by decide) (hts (.fieldLink RX12 63 "LineKeeperModel" "newNames" "[I") (List.mem_of_getElem? (i := 8) rfl)) (fun _ h9 => h9) rfl dX12_goOver_49 ?_
  refine lv_iload_n hx hb dX12_goOver_52 rfl (lv_at hl 0 rfl) ?_
  refine lv_iconst (v := 0) hx hb dX12_goOver_53 (by decide) ?_
  refine va_iast hx hb hK hP hD hS 1 0 rfl rfl (vx_in (by decide)) dX12_goOver_54 (fun H locs hP hD hS => ?_)
  generalize (upd f701 (0 : Int32).toNatClampNeg 0) = f1 at hP hD
  have hP : va_P (dC, dI) vwCl [(h701, .inr (12, ((fsM g701).set 23 (.int (-1))).set 25 (.int 1))), ((g701 35), .inl (cA701, 6, .inl f1)), ((g701 36), .inl (cA702, 6, .inl f702)), ((g701 37), .inl (cA703, 6, .inl f703))] H := hP
  have hD : va_D A [(h701, .inr (12, ((fsM g701).set 23 (.int (-1))).set 25 (.int 1))), ((g701 35), .inl (cA701, 6, .inl f1)), ((g701 36), .inl (cA702, 6, .inl f702)), ((g701 37), .inl (cA703, 6, .inl f703))] := hD
  refine lv_aload_n hx hb dX12_goOver_55 rfl (lv_at hl 1 rfl) ?_
  refine va_get (D := (dC, dI)) (ci := 12) (v := .ref (g701 36)) (C := RX12) (T := TX12) (N := 87) hx hb hts in_k_X12_goOver_1_12 hown hK hP 0 rfl rfl 36 (by decide) (hts (.fieldLink RX12 66 "LineKeeperModel" "newParams" "[I") (List.mem_of_getElem? (i := 9) rfl)) (fun _ h9 => h9) rfl dX12_goOver_56 ?_
  refine lv_iload_n hx hb dX12_goOver_59 rfl (lv_at hl 0 rfl) ?_
  refine lv_iconst (v := 0) hx hb dX12_goOver_60 (by decide) ?_
  refine va_iast hx hb hK hP hD hS 2 1 rfl rfl (vx_in (by decide)) dX12_goOver_61 (fun H locs hP hD hS => ?_)
  generalize (upd f702 (0 : Int32).toNatClampNeg 0) = f2 at hP hD
  have hP : va_P (dC, dI) vwCl [(h701, .inr (12, ((fsM g701).set 23 (.int (-1))).set 25 (.int 1))), ((g701 35), .inl (cA701, 6, .inl f1)), ((g701 36), .inl (cA702, 6, .inl f2)), ((g701 37), .inl (cA703, 6, .inl f703))] H := hP
  have hD : va_D A [(h701, .inr (12, ((fsM g701).set 23 (.int (-1))).set 25 (.int 1))), ((g701 35), .inl (cA701, 6, .inl f1)), ((g701 36), .inl (cA702, 6, .inl f2)), ((g701 37), .inl (cA703, 6, .inl f703))] := hD
  refine lv_iinc (v := 1) (lv' := [(2, .int 1), (0, .ref h701), (1, .int 1)]) hx hb dX12_goOver_62 hl (k := 0) rfl (by decide) (by decide) rfl (fun ls hl => ?_)
  refine lv_goto (tgt := 42) hx hb dX12_goOver_65 (by decide) ?_
  refine lv_iload_n hx hb dX12_goOver_42 rfl (lv_at hl 0 rfl) ?_
  refine lv_bipush (v := 6) hx hb dX12_goOver_43 (by decide) ?_
  refine lv_icmp_ge (tgt := 68) hx hb dX12_goOver_45 (by decide) (fun h => absurd h (by decide)) (fun _ => ?_)
  refine lv_aload_n hx hb dX12_goOver_48 rfl (lv_at hl 1 rfl) ?_
  refine va_get (D := (dC, dI)) (ci := 12) (v := .ref (g701 35)) (C := RX12) (T := TX12) (N := 87) hx hb hts in_k_X12_goOver_1_12 hown hK hP 0 rfl rfl 35 (by decide) (hts (.fieldLink RX12 63 "LineKeeperModel" "newNames" "[I") (List.mem_of_getElem? (i := 8) rfl)) (fun _ h9 => h9) rfl dX12_goOver_49 ?_
  refine lv_iload_n hx hb dX12_goOver_52 rfl (lv_at hl 0 rfl) ?_
  refine lv_iconst (v := 0) hx hb dX12_goOver_53 (by decide) ?_
  refine va_iast hx hb hK hP hD hS 1 0 rfl rfl (vx_in (by decide)) dX12_goOver_54 (fun H locs hP hD hS => ?_)
  generalize (upd f1 (1 : Int32).toNatClampNeg 0) = f3 at hP hD
  have hP : va_P (dC, dI) vwCl [(h701, .inr (12, ((fsM g701).set 23 (.int (-1))).set 25 (.int 1))), ((g701 35), .inl (cA701, 6, .inl f3)), ((g701 36), .inl (cA702, 6, .inl f2)), ((g701 37), .inl (cA703, 6, .inl f703))] H := hP
  have hD : va_D A [(h701, .inr (12, ((fsM g701).set 23 (.int (-1))).set 25 (.int 1))), ((g701 35), .inl (cA701, 6, .inl f3)), ((g701 36), .inl (cA702, 6, .inl f2)), ((g701 37), .inl (cA703, 6, .inl f703))] := hD
  refine lv_aload_n hx hb dX12_goOver_55 rfl (lv_at hl 1 rfl) ?_
  refine va_get (D := (dC, dI)) (ci := 12) (v := .ref (g701 36)) (C := RX12) (T := TX12) (N := 87) hx hb hts in_k_X12_goOver_1_12 hown hK hP 0 rfl rfl 36 (by decide) (hts (.fieldLink RX12 66 "LineKeeperModel" "newParams" "[I") (List.mem_of_getElem? (i := 9) rfl)) (fun _ h9 => h9) rfl dX12_goOver_56 ?_
  refine lv_iload_n hx hb dX12_goOver_59 rfl (lv_at hl 0 rfl) ?_
  refine lv_iconst (v := 0) hx hb dX12_goOver_60 (by decide) ?_
  refine va_iast hx hb hK hP hD hS 2 1 rfl rfl (vx_in (by decide)) dX12_goOver_61 (fun H locs hP hD hS => ?_)
  generalize (upd f2 (1 : Int32).toNatClampNeg 0) = f4 at hP hD
  have hP : va_P (dC, dI) vwCl [(h701, .inr (12, ((fsM g701).set 23 (.int (-1))).set 25 (.int 1))), ((g701 35), .inl (cA701, 6, .inl f3)), ((g701 36), .inl (cA702, 6, .inl f4)), ((g701 37), .inl (cA703, 6, .inl f703))] H := hP
  have hD : va_D A [(h701, .inr (12, ((fsM g701).set 23 (.int (-1))).set 25 (.int 1))), ((g701 35), .inl (cA701, 6, .inl f3)), ((g701 36), .inl (cA702, 6, .inl f4)), ((g701 37), .inl (cA703, 6, .inl f703))] := hD
  refine lv_iinc (v := 2) (lv' := [(2, .int 2), (0, .ref h701), (1, .int 1)]) hx hb dX12_goOver_62 hl (k := 0) rfl (by decide) (by decide) rfl (fun ls hl => ?_)
  refine lv_goto (tgt := 42) hx hb dX12_goOver_65 (by decide) ?_
  refine lv_iload_n hx hb dX12_goOver_42 rfl (lv_at hl 0 rfl) ?_
  refine lv_bipush (v := 6) hx hb dX12_goOver_43 (by decide) ?_
  refine lv_icmp_ge (tgt := 68) hx hb dX12_goOver_45 (by decide) (fun h => absurd h (by decide)) (fun _ => ?_)
  refine lv_aload_n hx hb dX12_goOver_48 rfl (lv_at hl 1 rfl) ?_
  refine va_get (D := (dC, dI)) (ci := 12) (v := .ref (g701 35)) (C := RX12) (T := TX12) (N := 87) hx hb hts in_k_X12_goOver_1_12 hown hK hP 0 rfl rfl 35 (by decide) (hts (.fieldLink RX12 63 "LineKeeperModel" "newNames" "[I") (List.mem_of_getElem? (i := 8) rfl)) (fun _ h9 => h9) rfl dX12_goOver_49 ?_
  refine lv_iload_n hx hb dX12_goOver_52 rfl (lv_at hl 0 rfl) ?_
  refine lv_iconst (v := 0) hx hb dX12_goOver_53 (by decide) ?_
  refine va_iast hx hb hK hP hD hS 1 0 rfl rfl (vx_in (by decide)) dX12_goOver_54 (fun H locs hP hD hS => ?_)
  generalize (upd f3 (2 : Int32).toNatClampNeg 0) = f5 at hP hD
  have hP : va_P (dC, dI) vwCl [(h701, .inr (12, ((fsM g701).set 23 (.int (-1))).set 25 (.int 1))), ((g701 35), .inl (cA701, 6, .inl f5)), ((g701 36), .inl (cA702, 6, .inl f4)), ((g701 37), .inl (cA703, 6, .inl f703))] H := hP
  have hD : va_D A [(h701, .inr (12, ((fsM g701).set 23 (.int (-1))).set 25 (.int 1))), ((g701 35), .inl (cA701, 6, .inl f5)), ((g701 36), .inl (cA702, 6, .inl f4)), ((g701 37), .inl (cA703, 6, .inl f703))] := hD
  refine lv_aload_n hx hb dX12_goOver_55 rfl (lv_at hl 1 rfl) ?_
  refine va_get (D := (dC, dI)) (ci := 12) (v := .ref (g701 36)) (C := RX12) (T := TX12) (N := 87) hx hb hts in_k_X12_goOver_1_12 hown hK hP 0 rfl rfl 36 (by decide) (hts (.fieldLink RX12 66 "LineKeeperModel" "newParams" "[I") (List.mem_of_getElem? (i := 9) rfl)) (fun _ h9 => h9) rfl dX12_goOver_56 ?_
  refine lv_iload_n hx hb dX12_goOver_59 rfl (lv_at hl 0 rfl) ?_
  refine lv_iconst (v := 0) hx hb dX12_goOver_60 (by decide) ?_
  refine va_iast hx hb hK hP hD hS 2 1 rfl rfl (vx_in (by decide)) dX12_goOver_61 (fun H locs hP hD hS => ?_)
  generalize (upd f4 (2 : Int32).toNatClampNeg 0) = f6 at hP hD
  have hP : va_P (dC, dI) vwCl [(h701, .inr (12, ((fsM g701).set 23 (.int (-1))).set 25 (.int 1))), ((g701 35), .inl (cA701, 6, .inl f5)), ((g701 36), .inl (cA702, 6, .inl f6)), ((g701 37), .inl (cA703, 6, .inl f703))] H := hP
  have hD : va_D A [(h701, .inr (12, ((fsM g701).set 23 (.int (-1))).set 25 (.int 1))), ((g701 35), .inl (cA701, 6, .inl f5)), ((g701 36), .inl (cA702, 6, .inl f6)), ((g701 37), .inl (cA703, 6, .inl f703))] := hD
  refine lv_iinc (v := 3) (lv' := [(2, .int 3), (0, .ref h701), (1, .int 1)]) hx hb dX12_goOver_62 hl (k := 0) rfl (by decide) (by decide) rfl (fun ls hl => ?_)
  refine lv_goto (tgt := 42) hx hb dX12_goOver_65 (by decide) ?_
  refine lv_iload_n hx hb dX12_goOver_42 rfl (lv_at hl 0 rfl) ?_
  refine lv_bipush (v := 6) hx hb dX12_goOver_43 (by decide) ?_
  refine lv_icmp_ge (tgt := 68) hx hb dX12_goOver_45 (by decide) (fun h => absurd h (by decide)) (fun _ => ?_)
  refine lv_aload_n hx hb dX12_goOver_48 rfl (lv_at hl 1 rfl) ?_
  refine va_get (D := (dC, dI)) (ci := 12) (v := .ref (g701 35)) (C := RX12) (T := TX12) (N := 87) hx hb hts in_k_X12_goOver_1_12 hown hK hP 0 rfl rfl 35 (by decide) (hts (.fieldLink RX12 63 "LineKeeperModel" "newNames" "[I") (List.mem_of_getElem? (i := 8) rfl)) (fun _ h9 => h9) rfl dX12_goOver_49 ?_
  refine lv_iload_n hx hb dX12_goOver_52 rfl (lv_at hl 0 rfl) ?_
  refine lv_iconst (v := 0) hx hb dX12_goOver_53 (by decide) ?_
  refine va_iast hx hb hK hP hD hS 1 0 rfl rfl (vx_in (by decide)) dX12_goOver_54 (fun H locs hP hD hS => ?_)
  generalize (upd f5 (3 : Int32).toNatClampNeg 0) = f7 at hP hD
  have hP : va_P (dC, dI) vwCl [(h701, .inr (12, ((fsM g701).set 23 (.int (-1))).set 25 (.int 1))), ((g701 35), .inl (cA701, 6, .inl f7)), ((g701 36), .inl (cA702, 6, .inl f6)), ((g701 37), .inl (cA703, 6, .inl f703))] H := hP
  have hD : va_D A [(h701, .inr (12, ((fsM g701).set 23 (.int (-1))).set 25 (.int 1))), ((g701 35), .inl (cA701, 6, .inl f7)), ((g701 36), .inl (cA702, 6, .inl f6)), ((g701 37), .inl (cA703, 6, .inl f703))] := hD
  refine lv_aload_n hx hb dX12_goOver_55 rfl (lv_at hl 1 rfl) ?_
  refine va_get (D := (dC, dI)) (ci := 12) (v := .ref (g701 36)) (C := RX12) (T := TX12) (N := 87) hx hb hts in_k_X12_goOver_1_12 hown hK hP 0 rfl rfl 36 (by decide) (hts (.fieldLink RX12 66 "LineKeeperModel" "newParams" "[I") (List.mem_of_getElem? (i := 9) rfl)) (fun _ h9 => h9) rfl dX12_goOver_56 ?_
  refine lv_iload_n hx hb dX12_goOver_59 rfl (lv_at hl 0 rfl) ?_
  refine lv_iconst (v := 0) hx hb dX12_goOver_60 (by decide) ?_
  refine va_iast hx hb hK hP hD hS 2 1 rfl rfl (vx_in (by decide)) dX12_goOver_61 (fun H locs hP hD hS => ?_)
  generalize (upd f6 (3 : Int32).toNatClampNeg 0) = f8 at hP hD
  have hP : va_P (dC, dI) vwCl [(h701, .inr (12, ((fsM g701).set 23 (.int (-1))).set 25 (.int 1))), ((g701 35), .inl (cA701, 6, .inl f7)), ((g701 36), .inl (cA702, 6, .inl f8)), ((g701 37), .inl (cA703, 6, .inl f703))] H := hP
  have hD : va_D A [(h701, .inr (12, ((fsM g701).set 23 (.int (-1))).set 25 (.int 1))), ((g701 35), .inl (cA701, 6, .inl f7)), ((g701 36), .inl (cA702, 6, .inl f8)), ((g701 37), .inl (cA703, 6, .inl f703))] := hD
  refine lv_iinc (v := 4) (lv' := [(2, .int 4), (0, .ref h701), (1, .int 1)]) hx hb dX12_goOver_62 hl (k := 0) rfl (by decide) (by decide) rfl (fun ls hl => ?_)
  refine lv_goto (tgt := 42) hx hb dX12_goOver_65 (by decide) ?_
  refine lv_iload_n hx hb dX12_goOver_42 rfl (lv_at hl 0 rfl) ?_
  refine lv_bipush (v := 6) hx hb dX12_goOver_43 (by decide) ?_
  refine lv_icmp_ge (tgt := 68) hx hb dX12_goOver_45 (by decide) (fun h => absurd h (by decide)) (fun _ => ?_)
  refine lv_aload_n hx hb dX12_goOver_48 rfl (lv_at hl 1 rfl) ?_
  refine va_get (D := (dC, dI)) (ci := 12) (v := .ref (g701 35)) (C := RX12) (T := TX12) (N := 87) hx hb hts in_k_X12_goOver_1_12 hown hK hP 0 rfl rfl 35 (by decide) (hts (.fieldLink RX12 63 "LineKeeperModel" "newNames" "[I") (List.mem_of_getElem? (i := 8) rfl)) (fun _ h9 => h9) rfl dX12_goOver_49 ?_
  refine lv_iload_n hx hb dX12_goOver_52 rfl (lv_at hl 0 rfl) ?_
  refine lv_iconst (v := 0) hx hb dX12_goOver_53 (by decide) ?_
  refine va_iast hx hb hK hP hD hS 1 0 rfl rfl (vx_in (by decide)) dX12_goOver_54 (fun H locs hP hD hS => ?_)
  generalize (upd f7 (4 : Int32).toNatClampNeg 0) = f9 at hP hD
  have hP : va_P (dC, dI) vwCl [(h701, .inr (12, ((fsM g701).set 23 (.int (-1))).set 25 (.int 1))), ((g701 35), .inl (cA701, 6, .inl f9)), ((g701 36), .inl (cA702, 6, .inl f8)), ((g701 37), .inl (cA703, 6, .inl f703))] H := hP
  have hD : va_D A [(h701, .inr (12, ((fsM g701).set 23 (.int (-1))).set 25 (.int 1))), ((g701 35), .inl (cA701, 6, .inl f9)), ((g701 36), .inl (cA702, 6, .inl f8)), ((g701 37), .inl (cA703, 6, .inl f703))] := hD
  refine lv_aload_n hx hb dX12_goOver_55 rfl (lv_at hl 1 rfl) ?_
  refine va_get (D := (dC, dI)) (ci := 12) (v := .ref (g701 36)) (C := RX12) (T := TX12) (N := 87) hx hb hts in_k_X12_goOver_1_12 hown hK hP 0 rfl rfl 36 (by decide) (hts (.fieldLink RX12 66 "LineKeeperModel" "newParams" "[I") (List.mem_of_getElem? (i := 9) rfl)) (fun _ h9 => h9) rfl dX12_goOver_56 ?_
  refine lv_iload_n hx hb dX12_goOver_59 rfl (lv_at hl 0 rfl) ?_
  refine lv_iconst (v := 0) hx hb dX12_goOver_60 (by decide) ?_
  refine va_iast hx hb hK hP hD hS 2 1 rfl rfl (vx_in (by decide)) dX12_goOver_61 (fun H locs hP hD hS => ?_)
  generalize (upd f8 (4 : Int32).toNatClampNeg 0) = f10 at hP hD
  have hP : va_P (dC, dI) vwCl [(h701, .inr (12, ((fsM g701).set 23 (.int (-1))).set 25 (.int 1))), ((g701 35), .inl (cA701, 6, .inl f9)), ((g701 36), .inl (cA702, 6, .inl f10)), ((g701 37), .inl (cA703, 6, .inl f703))] H := hP
  have hD : va_D A [(h701, .inr (12, ((fsM g701).set 23 (.int (-1))).set 25 (.int 1))), ((g701 35), .inl (cA701, 6, .inl f9)), ((g701 36), .inl (cA702, 6, .inl f10)), ((g701 37), .inl (cA703, 6, .inl f703))] := hD
  refine lv_iinc (v := 5) (lv' := [(2, .int 5), (0, .ref h701), (1, .int 1)]) hx hb dX12_goOver_62 hl (k := 0) rfl (by decide) (by decide) rfl (fun ls hl => ?_)
  refine lv_goto (tgt := 42) hx hb dX12_goOver_65 (by decide) ?_
  refine lv_iload_n hx hb dX12_goOver_42 rfl (lv_at hl 0 rfl) ?_
  refine lv_bipush (v := 6) hx hb dX12_goOver_43 (by decide) ?_
  refine lv_icmp_ge (tgt := 68) hx hb dX12_goOver_45 (by decide) (fun h => absurd h (by decide)) (fun _ => ?_)
  refine lv_aload_n hx hb dX12_goOver_48 rfl (lv_at hl 1 rfl) ?_
  refine va_get (D := (dC, dI)) (ci := 12) (v := .ref (g701 35)) (C := RX12) (T := TX12) (N := 87) hx hb hts in_k_X12_goOver_1_12 hown hK hP 0 rfl rfl 35 (by decide) (hts (.fieldLink RX12 63 "LineKeeperModel" "newNames" "[I") (List.mem_of_getElem? (i := 8) rfl)) (fun _ h9 => h9) rfl dX12_goOver_49 ?_
  refine lv_iload_n hx hb dX12_goOver_52 rfl (lv_at hl 0 rfl) ?_
  refine lv_iconst (v := 0) hx hb dX12_goOver_53 (by decide) ?_
  refine va_iast hx hb hK hP hD hS 1 0 rfl rfl (vx_in (by decide)) dX12_goOver_54 (fun H locs hP hD hS => ?_)
  generalize (upd f9 (5 : Int32).toNatClampNeg 0) = f11 at hP hD
  have hP : va_P (dC, dI) vwCl [(h701, .inr (12, ((fsM g701).set 23 (.int (-1))).set 25 (.int 1))), ((g701 35), .inl (cA701, 6, .inl f11)), ((g701 36), .inl (cA702, 6, .inl f10)), ((g701 37), .inl (cA703, 6, .inl f703))] H := hP
  have hD : va_D A [(h701, .inr (12, ((fsM g701).set 23 (.int (-1))).set 25 (.int 1))), ((g701 35), .inl (cA701, 6, .inl f11)), ((g701 36), .inl (cA702, 6, .inl f10)), ((g701 37), .inl (cA703, 6, .inl f703))] := hD
  refine lv_aload_n hx hb dX12_goOver_55 rfl (lv_at hl 1 rfl) ?_
  refine va_get (D := (dC, dI)) (ci := 12) (v := .ref (g701 36)) (C := RX12) (T := TX12) (N := 87) hx hb hts in_k_X12_goOver_1_12 hown hK hP 0 rfl rfl 36 (by decide) (hts (.fieldLink RX12 66 "LineKeeperModel" "newParams" "[I") (List.mem_of_getElem? (i := 9) rfl)) (fun _ h9 => h9) rfl dX12_goOver_56 ?_
  refine lv_iload_n hx hb dX12_goOver_59 rfl (lv_at hl 0 rfl) ?_
  refine lv_iconst (v := 0) hx hb dX12_goOver_60 (by decide) ?_
  refine va_iast hx hb hK hP hD hS 2 1 rfl rfl (vx_in (by decide)) dX12_goOver_61 (fun H locs hP hD hS => ?_)
  generalize (upd f10 (5 : Int32).toNatClampNeg 0) = f12 at hP hD
  have hP : va_P (dC, dI) vwCl [(h701, .inr (12, ((fsM g701).set 23 (.int (-1))).set 25 (.int 1))), ((g701 35), .inl (cA701, 6, .inl f11)), ((g701 36), .inl (cA702, 6, .inl f12)), ((g701 37), .inl (cA703, 6, .inl f703))] H := hP
  have hD : va_D A [(h701, .inr (12, ((fsM g701).set 23 (.int (-1))).set 25 (.int 1))), ((g701 35), .inl (cA701, 6, .inl f11)), ((g701 36), .inl (cA702, 6, .inl f12)), ((g701 37), .inl (cA703, 6, .inl f703))] := hD
  refine lv_iinc (v := 6) (lv' := [(2, .int 6), (0, .ref h701), (1, .int 1)]) hx hb dX12_goOver_62 hl (k := 0) rfl (by decide) (by decide) rfl (fun ls hl => ?_)
  refine lv_goto (tgt := 42) hx hb dX12_goOver_65 (by decide) ?_
  refine lv_iload_n hx hb dX12_goOver_42 rfl (lv_at hl 0 rfl) ?_
  refine lv_bipush (v := 6) hx hb dX12_goOver_43 (by decide) ?_
  refine lv_icmp_ge (tgt := 68) hx hb dX12_goOver_45 (by decide) (fun _ => ?_) (fun h => absurd (by decide) h)
  refine lv_iconst (v := 0) hx hb dX12_goOver_68 (by decide) ?_
  refine lv_istore_n (lv' := [(2, .int 0), (0, .ref h701), (1, .int 1)]) hx hb dX12_goOver_69 rfl hl (by decide) rfl (fun ls hl => ?_)
  refine lv_iload_n hx hb dX12_goOver_70 rfl (lv_at hl 0 rfl) ?_
  refine lv_bipush (v := 6) hx hb dX12_goOver_71 (by decide) ?_
  refine lv_icmp_ge (tgt := 89) hx hb dX12_goOver_73 (by decide) (fun h => absurd h (by decide)) (fun _ => ?_)
  refine lv_aload_n hx hb dX12_goOver_76 rfl (lv_at hl 1 rfl) ?_
  refine va_get (D := (dC, dI)) (ci := 12) (v := .ref (g701 37)) (C := RX12) (T := TX12) (N := 87) hx hb hts in_k_X12_goOver_1_12 hown hK hP 0 rfl rfl 37 (by decide) (hts (.fieldLink RX12 69 "LineKeeperModel" "newFirst" "[I") (List.mem_of_getElem? (i := 10) rfl)) (fun _ h9 => h9) rfl dX12_goOver_77 ?_
  refine lv_iload_n hx hb dX12_goOver_80 rfl (lv_at hl 0 rfl) ?_
  refine lv_iconst (v := 0) hx hb dX12_goOver_81 (by decide) ?_
  refine va_iast hx hb hK hP hD hS 3 2 rfl rfl (vx_in (by decide)) dX12_goOver_82 (fun H locs hP hD hS => ?_)
  generalize (upd f703 (0 : Int32).toNatClampNeg 0) = f13 at hP hD
  have hP : va_P (dC, dI) vwCl [(h701, .inr (12, ((fsM g701).set 23 (.int (-1))).set 25 (.int 1))), ((g701 35), .inl (cA701, 6, .inl f11)), ((g701 36), .inl (cA702, 6, .inl f12)), ((g701 37), .inl (cA703, 6, .inl f13))] H := hP
  have hD : va_D A [(h701, .inr (12, ((fsM g701).set 23 (.int (-1))).set 25 (.int 1))), ((g701 35), .inl (cA701, 6, .inl f11)), ((g701 36), .inl (cA702, 6, .inl f12)), ((g701 37), .inl (cA703, 6, .inl f13))] := hD
  refine lv_iinc (v := 1) (lv' := [(2, .int 1), (0, .ref h701), (1, .int 1)]) hx hb dX12_goOver_83 hl (k := 0) rfl (by decide) (by decide) rfl (fun ls hl => ?_)
  refine lv_goto (tgt := 70) hx hb dX12_goOver_86 (by decide) ?_
  refine lv_iload_n hx hb dX12_goOver_70 rfl (lv_at hl 0 rfl) ?_
  refine lv_bipush (v := 6) hx hb dX12_goOver_71 (by decide) ?_
  refine lv_icmp_ge (tgt := 89) hx hb dX12_goOver_73 (by decide) (fun h => absurd h (by decide)) (fun _ => ?_)
  refine lv_aload_n hx hb dX12_goOver_76 rfl (lv_at hl 1 rfl) ?_
  refine va_get (D := (dC, dI)) (ci := 12) (v := .ref (g701 37)) (C := RX12) (T := TX12) (N := 87) hx hb hts in_k_X12_goOver_1_12 hown hK hP 0 rfl rfl 37 (by decide) (hts (.fieldLink RX12 69 "LineKeeperModel" "newFirst" "[I") (List.mem_of_getElem? (i := 10) rfl)) (fun _ h9 => h9) rfl dX12_goOver_77 ?_
  refine lv_iload_n hx hb dX12_goOver_80 rfl (lv_at hl 0 rfl) ?_
  refine lv_iconst (v := 0) hx hb dX12_goOver_81 (by decide) ?_
  refine va_iast hx hb hK hP hD hS 3 2 rfl rfl (vx_in (by decide)) dX12_goOver_82 (fun H locs hP hD hS => ?_)
  generalize (upd f13 (1 : Int32).toNatClampNeg 0) = f14 at hP hD
  have hP : va_P (dC, dI) vwCl [(h701, .inr (12, ((fsM g701).set 23 (.int (-1))).set 25 (.int 1))), ((g701 35), .inl (cA701, 6, .inl f11)), ((g701 36), .inl (cA702, 6, .inl f12)), ((g701 37), .inl (cA703, 6, .inl f14))] H := hP
  have hD : va_D A [(h701, .inr (12, ((fsM g701).set 23 (.int (-1))).set 25 (.int 1))), ((g701 35), .inl (cA701, 6, .inl f11)), ((g701 36), .inl (cA702, 6, .inl f12)), ((g701 37), .inl (cA703, 6, .inl f14))] := hD
  refine lv_iinc (v := 2) (lv' := [(2, .int 2), (0, .ref h701), (1, .int 1)]) hx hb dX12_goOver_83 hl (k := 0) rfl (by decide) (by decide) rfl (fun ls hl => ?_)
  refine lv_goto (tgt := 70) hx hb dX12_goOver_86 (by decide) ?_
  refine lv_iload_n hx hb dX12_goOver_70 rfl (lv_at hl 0 rfl) ?_
  refine lv_bipush (v := 6) hx hb dX12_goOver_71 (by decide) ?_
  refine lv_icmp_ge (tgt := 89) hx hb dX12_goOver_73 (by decide) (fun h => absurd h (by decide)) (fun _ => ?_)
  refine lv_aload_n hx hb dX12_goOver_76 rfl (lv_at hl 1 rfl) ?_
  refine va_get (D := (dC, dI)) (ci := 12) (v := .ref (g701 37)) (C := RX12) (T := TX12) (N := 87) hx hb hts in_k_X12_goOver_1_12 hown hK hP 0 rfl rfl 37 (by decide) (hts (.fieldLink RX12 69 "LineKeeperModel" "newFirst" "[I") (List.mem_of_getElem? (i := 10) rfl)) (fun _ h9 => h9) rfl dX12_goOver_77 ?_
  refine lv_iload_n hx hb dX12_goOver_80 rfl (lv_at hl 0 rfl) ?_
  refine lv_iconst (v := 0) hx hb dX12_goOver_81 (by decide) ?_
  refine va_iast hx hb hK hP hD hS 3 2 rfl rfl (vx_in (by decide)) dX12_goOver_82 (fun H locs hP hD hS => ?_)
  generalize (upd f14 (2 : Int32).toNatClampNeg 0) = f15 at hP hD
  have hP : va_P (dC, dI) vwCl [(h701, .inr (12, ((fsM g701).set 23 (.int (-1))).set 25 (.int 1))), ((g701 35), .inl (cA701, 6, .inl f11)), ((g701 36), .inl (cA702, 6, .inl f12)), ((g701 37), .inl (cA703, 6, .inl f15))] H := hP
  have hD : va_D A [(h701, .inr (12, ((fsM g701).set 23 (.int (-1))).set 25 (.int 1))), ((g701 35), .inl (cA701, 6, .inl f11)), ((g701 36), .inl (cA702, 6, .inl f12)), ((g701 37), .inl (cA703, 6, .inl f15))] := hD
  refine lv_iinc (v := 3) (lv' := [(2, .int 3), (0, .ref h701), (1, .int 1)]) hx hb dX12_goOver_83 hl (k := 0) rfl (by decide) (by decide) rfl (fun ls hl => ?_)
  refine lv_goto (tgt := 70) hx hb dX12_goOver_86 (by decide) ?_
  refine lv_iload_n hx hb dX12_goOver_70 rfl (lv_at hl 0 rfl) ?_
  refine lv_bipush (v := 6) hx hb dX12_goOver_71 (by decide) ?_
  refine lv_icmp_ge (tgt := 89) hx hb dX12_goOver_73 (by decide) (fun h => absurd h (by decide)) (fun _ => ?_)
  refine lv_aload_n hx hb dX12_goOver_76 rfl (lv_at hl 1 rfl) ?_
  refine va_get (D := (dC, dI)) (ci := 12) (v := .ref (g701 37)) (C := RX12) (T := TX12) (N := 87) hx hb hts in_k_X12_goOver_1_12 hown hK hP 0 rfl rfl 37 (by decide) (hts (.fieldLink RX12 69 "LineKeeperModel" "newFirst" "[I") (List.mem_of_getElem? (i := 10) rfl)) (fun _ h9 => h9) rfl dX12_goOver_77 ?_
  refine lv_iload_n hx hb dX12_goOver_80 rfl (lv_at hl 0 rfl) ?_
  refine lv_iconst (v := 0) hx hb dX12_goOver_81 (by decide) ?_
  refine va_iast hx hb hK hP hD hS 3 2 rfl rfl (vx_in (by decide)) dX12_goOver_82 (fun H locs hP hD hS => ?_)
  generalize (upd f15 (3 : Int32).toNatClampNeg 0) = f16 at hP hD
  have hP : va_P (dC, dI) vwCl [(h701, .inr (12, ((fsM g701).set 23 (.int (-1))).set 25 (.int 1))), ((g701 35), .inl (cA701, 6, .inl f11)), ((g701 36), .inl (cA702, 6, .inl f12)), ((g701 37), .inl (cA703, 6, .inl f16))] H := hP
  have hD : va_D A [(h701, .inr (12, ((fsM g701).set 23 (.int (-1))).set 25 (.int 1))), ((g701 35), .inl (cA701, 6, .inl f11)), ((g701 36), .inl (cA702, 6, .inl f12)), ((g701 37), .inl (cA703, 6, .inl f16))] := hD
  refine lv_iinc (v := 4) (lv' := [(2, .int 4), (0, .ref h701), (1, .int 1)]) hx hb dX12_goOver_83 hl (k := 0) rfl (by decide) (by decide) rfl (fun ls hl => ?_)
  refine lv_goto (tgt := 70) hx hb dX12_goOver_86 (by decide) ?_
  refine lv_iload_n hx hb dX12_goOver_70 rfl (lv_at hl 0 rfl) ?_
  refine lv_bipush (v := 6) hx hb dX12_goOver_71 (by decide) ?_
  refine lv_icmp_ge (tgt := 89) hx hb dX12_goOver_73 (by decide) (fun h => absurd h (by decide)) (fun _ => ?_)
  refine lv_aload_n hx hb dX12_goOver_76 rfl (lv_at hl 1 rfl) ?_
  refine va_get (D := (dC, dI)) (ci := 12) (v := .ref (g701 37)) (C := RX12) (T := TX12) (N := 87) hx hb hts in_k_X12_goOver_1_12 hown hK hP 0 rfl rfl 37 (by decide) (hts (.fieldLink RX12 69 "LineKeeperModel" "newFirst" "[I") (List.mem_of_getElem? (i := 10) rfl)) (fun _ h9 => h9) rfl dX12_goOver_77 ?_
  refine lv_iload_n hx hb dX12_goOver_80 rfl (lv_at hl 0 rfl) ?_
  refine lv_iconst (v := 0) hx hb dX12_goOver_81 (by decide) ?_
  refine va_iast hx hb hK hP hD hS 3 2 rfl rfl (vx_in (by decide)) dX12_goOver_82 (fun H locs hP hD hS => ?_)
  generalize (upd f16 (4 : Int32).toNatClampNeg 0) = f17 at hP hD
  have hP : va_P (dC, dI) vwCl [(h701, .inr (12, ((fsM g701).set 23 (.int (-1))).set 25 (.int 1))), ((g701 35), .inl (cA701, 6, .inl f11)), ((g701 36), .inl (cA702, 6, .inl f12)), ((g701 37), .inl (cA703, 6, .inl f17))] H := hP
  have hD : va_D A [(h701, .inr (12, ((fsM g701).set 23 (.int (-1))).set 25 (.int 1))), ((g701 35), .inl (cA701, 6, .inl f11)), ((g701 36), .inl (cA702, 6, .inl f12)), ((g701 37), .inl (cA703, 6, .inl f17))] := hD
  refine lv_iinc (v := 5) (lv' := [(2, .int 5), (0, .ref h701), (1, .int 1)]) hx hb dX12_goOver_83 hl (k := 0) rfl (by decide) (by decide) rfl (fun ls hl => ?_)
  refine lv_goto (tgt := 70) hx hb dX12_goOver_86 (by decide) ?_
  refine lv_iload_n hx hb dX12_goOver_70 rfl (lv_at hl 0 rfl) ?_
  refine lv_bipush (v := 6) hx hb dX12_goOver_71 (by decide) ?_
  refine lv_icmp_ge (tgt := 89) hx hb dX12_goOver_73 (by decide) (fun h => absurd h (by decide)) (fun _ => ?_)
  refine lv_aload_n hx hb dX12_goOver_76 rfl (lv_at hl 1 rfl) ?_
  refine va_get (D := (dC, dI)) (ci := 12) (v := .ref (g701 37)) (C := RX12) (T := TX12) (N := 87) hx hb hts in_k_X12_goOver_1_12 hown hK hP 0 rfl rfl 37 (by decide) (hts (.fieldLink RX12 69 "LineKeeperModel" "newFirst" "[I") (List.mem_of_getElem? (i := 10) rfl)) (fun _ h9 => h9) rfl dX12_goOver_77 ?_
  refine lv_iload_n hx hb dX12_goOver_80 rfl (lv_at hl 0 rfl) ?_
  refine lv_iconst (v := 0) hx hb dX12_goOver_81 (by decide) ?_
  refine va_iast hx hb hK hP hD hS 3 2 rfl rfl (vx_in (by decide)) dX12_goOver_82 (fun H locs hP hD hS => ?_)
  generalize (upd f17 (5 : Int32).toNatClampNeg 0) = f18 at hP hD
  have hP : va_P (dC, dI) vwCl [(h701, .inr (12, ((fsM g701).set 23 (.int (-1))).set 25 (.int 1))), ((g701 35), .inl (cA701, 6, .inl f11)), ((g701 36), .inl (cA702, 6, .inl f12)), ((g701 37), .inl (cA703, 6, .inl f18))] H := hP
  have hD : va_D A [(h701, .inr (12, ((fsM g701).set 23 (.int (-1))).set 25 (.int 1))), ((g701 35), .inl (cA701, 6, .inl f11)), ((g701 36), .inl (cA702, 6, .inl f12)), ((g701 37), .inl (cA703, 6, .inl f18))] := hD
  refine lv_iinc (v := 6) (lv' := [(2, .int 6), (0, .ref h701), (1, .int 1)]) hx hb dX12_goOver_83 hl (k := 0) rfl (by decide) (by decide) rfl (fun ls hl => ?_)
  refine lv_goto (tgt := 70) hx hb dX12_goOver_86 (by decide) ?_
  refine lv_iload_n hx hb dX12_goOver_70 rfl (lv_at hl 0 rfl) ?_
  refine lv_bipush (v := 6) hx hb dX12_goOver_71 (by decide) ?_
  refine lv_icmp_ge (tgt := 89) hx hb dX12_goOver_73 (by decide) (fun _ => ?_) (fun h => absurd (by decide) h)
  refine lv_aload_n hx hb dX12_goOver_89 rfl (lv_at hl 1 rfl) ?_
  have hPc := hP.sub (ws' := [(h701, .inr (12, ((fsM g701).set 23 (.int (-1))).set 25 (.int 1)))]) [0] rfl
  have hDc := hD.sub (ws' := [(h701, .inr (12, ((fsM g701).set 23 (.int (-1))).set 25 (.int 1)))]) [0] (by decide) rfl
  have hKc := hK.sub (tys' := []) [] rfl
  have hFc := va_free (wc := [(h701, .inr (12, ((fsM g701).set 23 (.int (-1))).set 25 (.int 1)))]) hD hS hA [0] rfl
  refine va_callv (va_runV (As := []) (rest := []) ⟨hx, hb, hml, hown, hts⟩ (k_X12_advance_1 l dC dI h701 g701 H.size ) (cwV 0 hts g_k_X12_goOver_1_k_X12_advance_1_265 rfl rfl rfl (by decide +kernel) ⟨(Nat.le_of_ble_eq_true rfl), (Nat.le_of_ble_eq_true rfl)⟩) (vx_preV (ci := 12) (q0 := 0) hPc hKc hDc hN rfl rfl) rfl rfl hl.1 rfl (lv_room (Nat.le_of_ble_eq_true rfl)) dX12_goOver_90 ⟨(Nat.le_of_ble_eq_true rfl), (Nat.le_of_ble_eq_true rfl)⟩) hS (fun q _ h => hFc q h) hFc (fun u t H1 locs ht hvm hw hB hz1 hk1 hS => ?_)
  obtain ⟨hP1, hK1, hD1⟩ := hB
  rw [ht] at hP1
  obtain ⟨hP, hD⟩ := va_join (wr := [((g701 35), .inl (cA701, 6, .inl f11)), ((g701 36), .inl (cA702, 6, .inl f12)), ((g701 37), .inl (cA703, 6, .inl f18))]) (w1 := [(h701, .inr (12, ((fsM g701).set 23 (.int (-1))).set 25 (.int 1)))]) hP hD [0] [1, 2, 3] rfl rfl (by decide) (by decide) hk1 hFc hP1 hD1
  generalize H1 = H at hP hS ⊢
  have hP : va_P (dC, dI) vwCl [((g701 35), .inl (cA701, 6, .inl f11)), ((g701 36), .inl (cA702, 6, .inl f12)), ((g701 37), .inl (cA703, 6, .inl f18)), (h701, .inr (12, ((fsM g701).set 23 (.int (-1))).set 25 (.int 1)))] H := hP
  have hD : va_D A [((g701 35), .inl (cA701, 6, .inl f11)), ((g701 36), .inl (cA702, 6, .inl f12)), ((g701 37), .inl (cA703, 6, .inl f18)), (h701, .inr (12, ((fsM g701).set 23 (.int (-1))).set 25 (.int 1)))] := hD
  refine W.widen (k := 0) (n := 0) (by decide) (by decide) ?_
  refine lv_aload_n hx hb dX12_goOver_93 rfl (lv_at hl 1 rfl) ?_
  refine va_get (D := (dC, dI)) (ci := 12) (v := .int 0) (C := RX12) (T := TX12) (N := 87) hx hb hts in_k_X12_goOver_1_12 hown hK hP 3 rfl rfl 22 (by decide) (hts (.fieldLink RX12 226 "LineKeeperModel" "sort" "I") (List.mem_of_getElem? (i := 20) rfl)) (fun _ h9 => h9) rfl dX12_goOver_94 ?_
  refine lv_if_eq (tgt := 109) hx hb dX12_goOver_97 (by decide) (fun _ => ?_) (fun h => absurd (by decide) h)
  refine lv_iconst (v := 1) hx hb dX12_goOver_109 (by decide) ?_
  have hP9 := hP.sub (ws' := [(h701, .inr (12, ((fsM g701).set 23 (.int (-1))).set 25 (.int 1))), ((g701 35), .inl (cA701, 6, .inl f11)), ((g701 36), .inl (cA702, 6, .inl f12)), ((g701 37), .inl (cA703, 6, .inl f18))]) [3, 0, 1, 2] rfl
  have hD9 := hD.sub (ws' := [(h701, .inr (12, ((fsM g701).set 23 (.int (-1))).set 25 (.int 1))), ((g701 35), .inl (cA701, 6, .inl f11)), ((g701 36), .inl (cA702, 6, .inl f12)), ((g701 37), .inl (cA703, 6, .inl f18))]) [3, 0, 1, 2] (by decide) rfl
  have hK9 := hK.sub (tys' := [(cA701, .int), (cA702, .int), (cA703, .int)]) [0, 1, 2] rfl
  exact W.zret (ty := .boolean) (v := 1) hx hb hr rfl (fun t ht hW => ⟨⟨1, (), rfl, rfl, f11, f12, f18, by rw [ht]; exact hP9, va_K.moved hW.alike hK9, hD9⟩, hS.F ht⟩) hS.2.2 dX12_goOver_110

def w_k_X12_see_2 : List Cond := .code yX12_see cX12_see 2 (some .int) :: ([.fieldLink RX12 207 "LineKeeperModel" "length" "I"] ++ wsX120)
theorem in_k_X12_see_2_12 : ∀ w ∈ wsX120, w ∈ w_k_X12_see_2 := fun _ h => List.mem_cons_of_mem _ (List.mem_append_right _ h)
set_option maxHeartbeats 4000000 in
set_option maxRecDepth 100000 in
theorem k_X12_see_2 (l : Launch) (dC : Nat → ClassId) (dI : Nat → Nat → Nat) (h701 : Nat) (g701 : Nat → Nat) (sz : Nat) : Met l yX12_see w_k_X12_see_2 { frames := 0, cells := 0, slots := 0, locals := 0 } (va_Pc [.ref h701, .int 0] (vx_pre dC dI [(h701, .inr (12, ((fsM g701).set 23 (.int (-1))).set 25 (.int 2)))] [] sz)) (va_Qi (fun (r : Int32) (_ : Unit) => r = (-1)) (fun _ t => vx_B dC dI (va_A [(h701, .inr (12, ((fsM g701).set 23 (.int (-1))).set 25 (.int 2)))] sz) [(h701, .inr (12, ((fsM g701).set 23 (.int (-1))).set 25 (.int 2)))] [] t) (va_A [(h701, .inr (12, ((fsM g701).set 23 (.int (-1))).set 25 (.int 2)))] sz)) 0 0 (va_A [(h701, .inr (12, ((fsM g701).set 23 (.int (-1))).set 25 (.int 2)))] sz) := by
  refine Met.ofW (cc := cX12_see) (maxL := 2) (ret := (some .int)) (by decide) rfl ?_
  intro p e s m args below meth c s₁ B hml hv
  obtain ⟨rfl, hsz, hP, hK, hD0, hN⟩ := hv
  have hx := B.exec
  have hb := B.bytes
  have hr := B.returns
  have hts := atoms_spec (ws := w_k_X12_see_2) B.pre
  have hown : s.vm.findClass RX12 = some m.cls := findClass_of_methodNamed B.named
  have hlocks := B.notSynchronized
  subst hsz
  have hD := hD0.self (sz := s.heap.size)
  generalize hAe : va_A [(h701, .inr (12, ((fsM g701).set 23 (.int (-1))).set 25 (.int 2)))] s.heap.size = A at hD ⊢
  have hA : ∀ q : Nat, s.heap.size ≤ q → A q := fun q h => by rw [← hAe]; exact Or.inr h
  obtain ⟨H, hHe⟩ : ∃ H, H = s.heap := ⟨_, rfl⟩
  rw [← hHe] at hP ⊢
  have hS : va_S A s.heap H [] := by rw [hHe]; exact va_S.rf
  have hl := lv_entry [.ref h701, .int 0] (n := 2) (Nat.le_of_ble_eq_true rfl)
  rw [lg_entry_eq]
  generalize (lg_sl [.ref h701, .int 0] ++ List.replicate (2 - (lg_sl [.ref h701, .int 0]).length) Slot.unset).toArray = ls at hl ⊢
  have hl : lv_has ls 2 [(0, .ref h701), (1, .int 0)] := hl
  refine lv_iload_n hx hb dX12_see_0 rfl (lv_at hl 1 rfl) ?_
  refine lv_aload_n hx hb dX12_see_1 rfl (lv_at hl 0 rfl) ?_
  refine va_get (D := (dC, dI)) (ci := 12) (v := .int 0) (C := RX12) (T := TX12) (N := 87) hx hb hts in_k_X12_see_2_12 hown hK hP 0 rfl rfl 21 (by decide) (hts (.fieldLink RX12 207 "LineKeeperModel" "length" "I") (List.mem_of_getElem? (i := 1) rfl)) (fun _ h9 => h9) rfl dX12_see_2 ?_
  refine lv_icmp_ge (tgt := 21) hx hb dX12_see_5 (by decide) (fun _ => ?_) (fun h => absurd (by decide) h)
  refine lv_iconst (v := (-1)) hx hb dX12_see_21 (by decide) ?_
  have hP9 := hP.sub (ws' := [(h701, .inr (12, ((fsM g701).set 23 (.int (-1))).set 25 (.int 2)))]) [0] rfl
  have hD9 := hD.sub (ws' := [(h701, .inr (12, ((fsM g701).set 23 (.int (-1))).set 25 (.int 2)))]) [0] (by decide) rfl
  have hK9 := hK.sub (tys' := []) [] rfl
  exact W.iret (v := (-1)) hx hb hr (fun t ht hW => ⟨⟨(-1), (), rfl, rfl, by rw [ht]; exact hP9, va_K.moved hW.alike hK9, hD9⟩, hS.F ht⟩) hS.2.2 dX12_see_22

def w_k_X12_advance_2 : List Cond := .code yX12_advance cX12_advance 3 none :: ([.fieldLink RX12 210 "LineKeeperModel" "next" "I", .fieldLink RX12 207 "LineKeeperModel" "length" "I", .code yX12_see cX12_see 2 (some .int), .initialized RX12, .methodLink RX12 213 yX12_see, .instanceMethod yX12_see, .selects RX12 yX12_see yX12_see, .fieldLink RX12 216 "LineKeeperModel" "place" "I", .fieldLink RX12 219 "LineKeeperModel" "word" "J", .fieldLink RX12 223 "LineKeeperModel" "value" "I", .fieldLink RX12 226 "LineKeeperModel" "sort" "I"] ++ wsX120)
theorem in_k_X12_advance_2_12 : ∀ w ∈ wsX120, w ∈ w_k_X12_advance_2 := fun _ h => List.mem_cons_of_mem _ (List.mem_append_right _ h)
set_option maxRecDepth 100000 in
theorem g_k_X12_advance_2_k_X12_see_2_213 : GoodIn w_k_X12_advance_2 (wsV RX12 213 RX12 yX12_see w_k_X12_see_2) := goodIn_r _ [5, 6, 7, 4, 3, 2, 12, 13, 14, 15, 16, 17, 18, 19, 20, 21, 22, 23, 24, 25, 26, 27, 28, 29, 30, 31, 32, 33, 34, 35, 36, 37, 38, 39, 40, 41, 42, 43, 44, 45, 46, 47, 48, 49, 50, 51, 52, 53, 54, 55, 56, 57, 58, 59, 60, 61, 62, 63, 64, 65, 66, 67, 68, 69, 70, 71, 72, 73, 74, 75, 76, 77, 78, 79, 80, 81, 82, 83, 84, 85, 86, 87, 88, 89, 90, 91, 92, 93, 94, 95, 96, 97, 98] (by decide +kernel) (by decide +kernel)
set_option maxHeartbeats 4000000 in
set_option maxRecDepth 100000 in
theorem k_X12_advance_2 (l : Launch) (dC : Nat → ClassId) (dI : Nat → Nat → Nat) (h701 : Nat) (g701 : Nat → Nat) (sz : Nat) : Met l yX12_advance w_k_X12_advance_2 { frames := 1, cells := 0, slots := 0, locals := 21 } (va_Pc [.ref h701] (vx_pre dC dI [(h701, .inr (12, ((fsM g701).set 23 (.int (-1))).set 25 (.int 2)))] [] sz)) (va_Qv (fun _ : Unit => True) (fun _ t => vx_B dC dI (va_A [(h701, .inr (12, ((fsM g701).set 23 (.int (-1))).set 25 (.int 2)))] sz) [(h701, .inr (12, ((fsM g701).set 23 (.int (-1))).set 25 (.int 2)))] [] t) (va_A [(h701, .inr (12, ((fsM g701).set 23 (.int (-1))).set 25 (.int 2)))] sz)) 0 0 (va_A [(h701, .inr (12, ((fsM g701).set 23 (.int (-1))).set 25 (.int 2)))] sz) := by
  refine Met.ofW (cc := cX12_advance) (maxL := 3) (ret := none) (by decide) rfl ?_
  intro p e s m args below meth c s₁ B hml hv
  obtain ⟨rfl, hsz, hP, hK, hD0, hN⟩ := hv
  have hx := B.exec
  have hb := B.bytes
  have hr := B.returns
  have hts := atoms_spec (ws := w_k_X12_advance_2) B.pre
  have hown : s.vm.findClass RX12 = some m.cls := findClass_of_methodNamed B.named
  have hlocks := B.notSynchronized
  subst hsz
  have hD := hD0.self (sz := s.heap.size)
  generalize hAe : va_A [(h701, .inr (12, ((fsM g701).set 23 (.int (-1))).set 25 (.int 2)))] s.heap.size = A at hD ⊢
  have hA : ∀ q : Nat, s.heap.size ≤ q → A q := fun q h => by rw [← hAe]; exact Or.inr h
  obtain ⟨H, hHe⟩ : ∃ H, H = s.heap := ⟨_, rfl⟩
  rw [← hHe] at hP ⊢
  have hS : va_S A s.heap H [] := by rw [hHe]; exact va_S.rf
  have hl := lv_entry [.ref h701] (n := 3) (Nat.le_of_ble_eq_true rfl)
  rw [lg_entry_eq]
  generalize (lg_sl [.ref h701] ++ List.replicate (3 - (lg_sl [.ref h701]).length) Slot.unset).toArray = ls at hl ⊢
  have hl : lv_has ls 3 [(0, .ref h701)] := hl
  refine lv_aload_n hx hb dX12_advance_0 rfl (lv_at hl 0 rfl) ?_
  refine lv_aload_n hx hb dX12_advance_1 rfl (lv_at hl 0 rfl) ?_
  refine va_get (D := (dC, dI)) (ci := 12) (v := .int 0) (C := RX12) (T := TX12) (N := 87) hx hb hts in_k_X12_advance_2_12 hown hK hP 0 rfl rfl 20 (by decide) (hts (.fieldLink RX12 210 "LineKeeperModel" "next" "I") (List.mem_of_getElem? (i := 1) rfl)) (fun _ h9 => h9) rfl dX12_advance_2 ?_
  have hPc := hP.sub (ws' := [(h701, .inr (12, ((fsM g701).set 23 (.int (-1))).set 25 (.int 2)))]) [0] rfl
  have hDc := hD.sub (ws' := [(h701, .inr (12, ((fsM g701).set 23 (.int (-1))).set 25 (.int 2)))]) [0] (by decide) rfl
  have hKc := hK.sub (tys' := []) [] rfl
  have hFc := va_free (wc := [(h701, .inr (12, ((fsM g701).set 23 (.int (-1))).set 25 (.int 2)))]) hD hS hA [0] rfl
  refine va_calli (va_runV (As := [.int 0]) (rest := []) ⟨hx, hb, hml, hown, hts⟩ (k_X12_see_2 l dC dI h701 g701 H.size ) (cwV 1 hts g_k_X12_advance_2_k_X12_see_2_213 rfl rfl rfl (by decide +kernel) ⟨(Nat.le_of_ble_eq_true rfl), (Nat.le_of_ble_eq_true rfl)⟩) (vx_preV (ci := 12) (q0 := 0) hPc hKc hDc hN rfl rfl) rfl rfl hl.1 rfl (lv_room (Nat.le_of_ble_eq_true rfl)) dX12_advance_5 ⟨(Nat.le_of_ble_eq_true rfl), (Nat.le_of_ble_eq_true rfl)⟩) hS (fun q _ h => hFc q h) hFc (fun r1 u t H1 locs ht hvm hw hB hz1 hk1 hS => ?_)
  obtain ⟨hP1, hK1, hD1⟩ := hB
  rw [ht] at hP1
  obtain ⟨hP, hD⟩ := va_join (wr := []) (w1 := [(h701, .inr (12, ((fsM g701).set 23 (.int (-1))).set 25 (.int 2)))]) hP hD [0] [] rfl rfl (by decide) (by decide) hk1 hFc hP1 hD1
  generalize H1 = H at hP hS ⊢
  have hP : va_P (dC, dI) vwCl [(h701, .inr (12, ((fsM g701).set 23 (.int (-1))).set 25 (.int 2)))] H := hP
  have hD : va_D A [(h701, .inr (12, ((fsM g701).set 23 (.int (-1))).set 25 (.int 2)))] := hD
  refine W.widen (k := 0) (n := 0) (by decide) (by decide) ?_
  try dsimp only at hw
  subst hw
  refine lv_bipush (v := 10) hx hb dX12_advance_8 (by decide) ?_
  refine lv_icmp_eq (tgt := 26) hx hb dX12_advance_10 (by decide) (fun h => absurd h (by decide)) (fun _ => ?_)
  refine lv_aload_n hx hb dX12_advance_13 rfl (lv_at hl 0 rfl) ?_
  refine lv_aload_n hx hb dX12_advance_14 rfl (lv_at hl 0 rfl) ?_
  refine va_get (D := (dC, dI)) (ci := 12) (v := .int 0) (C := RX12) (T := TX12) (N := 87) hx hb hts in_k_X12_advance_2_12 hown hK hP 0 rfl rfl 20 (by decide) (hts (.fieldLink RX12 210 "LineKeeperModel" "next" "I") (List.mem_of_getElem? (i := 1) rfl)) (fun _ h9 => h9) rfl dX12_advance_15 ?_
  have hPc := hP.sub (ws' := [(h701, .inr (12, ((fsM g701).set 23 (.int (-1))).set 25 (.int 2)))]) [0] rfl
  have hDc := hD.sub (ws' := [(h701, .inr (12, ((fsM g701).set 23 (.int (-1))).set 25 (.int 2)))]) [0] (by decide) rfl
  have hKc := hK.sub (tys' := []) [] rfl
  have hFc := va_free (wc := [(h701, .inr (12, ((fsM g701).set 23 (.int (-1))).set 25 (.int 2)))]) hD hS hA [0] rfl
  refine va_calli (va_runV (As := [.int 0]) (rest := []) ⟨hx, hb, hml, hown, hts⟩ (k_X12_see_2 l dC dI h701 g701 H.size ) (cwV 1 hts g_k_X12_advance_2_k_X12_see_2_213 rfl rfl rfl (by decide +kernel) ⟨(Nat.le_of_ble_eq_true rfl), (Nat.le_of_ble_eq_true rfl)⟩) (vx_preV (ci := 12) (q0 := 0) hPc hKc hDc hN rfl rfl) rfl rfl hl.1 rfl (lv_room (Nat.le_of_ble_eq_true rfl)) dX12_advance_18 ⟨(Nat.le_of_ble_eq_true rfl), (Nat.le_of_ble_eq_true rfl)⟩) hS (fun q _ h => hFc q h) hFc (fun r2 u t H1 locs ht hvm hw hB hz1 hk1 hS => ?_)
  obtain ⟨hP1, hK1, hD1⟩ := hB
  rw [ht] at hP1
  obtain ⟨hP, hD⟩ := va_join (wr := []) (w1 := [(h701, .inr (12, ((fsM g701).set 23 (.int (-1))).set 25 (.int 2)))]) hP hD [0] [] rfl rfl (by decide) (by decide) hk1 hFc hP1 hD1
  generalize H1 = H at hP hS ⊢
  have hP : va_P (dC, dI) vwCl [(h701, .inr (12, ((fsM g701).set 23 (.int (-1))).set 25 (.int 2)))] H := hP
  have hD : va_D A [(h701, .inr (12, ((fsM g701).set 23 (.int (-1))).set 25 (.int 2)))] := hD
  refine W.widen (k := 0) (n := 0) (by decide) (by decide) ?_
  try dsimp only at hw
  subst hw
  refine lv_bipush (v := 32) hx hb dX12_advance_21 (by decide) ?_
  refine lv_icmp_ne (tgt := 39) hx hb dX12_advance_23 (by decide) (fun _ => ?_) (fun h => absurd h (by decide))
  refine lv_aload_n hx hb dX12_advance_39 rfl (lv_at hl 0 rfl) ?_
  refine lv_aload_n hx hb dX12_advance_40 rfl (lv_at hl 0 rfl) ?_
  refine va_get (D := (dC, dI)) (ci := 12) (v := .int 0) (C := RX12) (T := TX12) (N := 87) hx hb hts in_k_X12_advance_2_12 hown hK hP 0 rfl rfl 20 (by decide) (hts (.fieldLink RX12 210 "LineKeeperModel" "next" "I") (List.mem_of_getElem? (i := 1) rfl)) (fun _ h9 => h9) rfl dX12_advance_41 ?_
  refine va_put (D := (dC, dI)) (ci := 12) (v := .int 0) (ty := .int) (C := RX12) (T := TX12) (N := 87) hx hb hts in_k_X12_advance_2_12 tyX12 tyX12_ok nmX12 hown hK hP hD hS 0 rfl rfl 19 (by decide) (hts (.fieldLink RX12 216 "LineKeeperModel" "place" "I") (List.mem_of_getElem? (i := 8) rfl)) (fun _ h9 => h9) rfl (tyX12_ok 19 (by decide)) rfl rfl (Nat.le_of_ble_eq_true rfl) dX12_advance_44 (fun H locs hP hD hS => ?_)
  have hP : va_P (dC, dI) vwCl [(h701, .inr (12, ((fsM g701).set 23 (.int (-1))).set 25 (.int 2)))] H := hP
  have hD : va_D A [(h701, .inr (12, ((fsM g701).set 23 (.int (-1))).set 25 (.int 2)))] := hD
  refine lv_aload_n hx hb dX12_advance_47 rfl (lv_at hl 0 rfl) ?_
  refine lv_aload_n hx hb dX12_advance_48 rfl (lv_at hl 0 rfl) ?_
  refine va_get (D := (dC, dI)) (ci := 12) (v := .int 0) (C := RX12) (T := TX12) (N := 87) hx hb hts in_k_X12_advance_2_12 hown hK hP 0 rfl rfl 20 (by decide) (hts (.fieldLink RX12 210 "LineKeeperModel" "next" "I") (List.mem_of_getElem? (i := 1) rfl)) (fun _ h9 => h9) rfl dX12_advance_49 ?_
  have hPc := hP.sub (ws' := [(h701, .inr (12, ((fsM g701).set 23 (.int (-1))).set 25 (.int 2)))]) [0] rfl
  have hDc := hD.sub (ws' := [(h701, .inr (12, ((fsM g701).set 23 (.int (-1))).set 25 (.int 2)))]) [0] (by decide) rfl
  have hKc := hK.sub (tys' := []) [] rfl
  have hFc := va_free (wc := [(h701, .inr (12, ((fsM g701).set 23 (.int (-1))).set 25 (.int 2)))]) hD hS hA [0] rfl
  refine va_calli (va_runV (As := [.int 0]) (rest := []) ⟨hx, hb, hml, hown, hts⟩ (k_X12_see_2 l dC dI h701 g701 H.size ) (cwV 1 hts g_k_X12_advance_2_k_X12_see_2_213 rfl rfl rfl (by decide +kernel) ⟨(Nat.le_of_ble_eq_true rfl), (Nat.le_of_ble_eq_true rfl)⟩) (vx_preV (ci := 12) (q0 := 0) hPc hKc hDc hN rfl rfl) rfl rfl hl.1 rfl (lv_room (Nat.le_of_ble_eq_true rfl)) dX12_advance_52 ⟨(Nat.le_of_ble_eq_true rfl), (Nat.le_of_ble_eq_true rfl)⟩) hS (fun q _ h => hFc q h) hFc (fun r3 u t H1 locs ht hvm hw hB hz1 hk1 hS => ?_)
  obtain ⟨hP1, hK1, hD1⟩ := hB
  rw [ht] at hP1
  obtain ⟨hP, hD⟩ := va_join (wr := []) (w1 := [(h701, .inr (12, ((fsM g701).set 23 (.int (-1))).set 25 (.int 2)))]) hP hD [0] [] rfl rfl (by decide) (by decide) hk1 hFc hP1 hD1
  generalize H1 = H at hP hS ⊢
  have hP : va_P (dC, dI) vwCl [(h701, .inr (12, ((fsM g701).set 23 (.int (-1))).set 25 (.int 2)))] H := hP
  have hD : va_D A [(h701, .inr (12, ((fsM g701).set 23 (.int (-1))).set 25 (.int 2)))] := hD
  refine W.widen (k := 0) (n := 0) (by decide) (by decide) ?_
  try dsimp only at hw
  subst hw
  refine lv_istore_n (lv' := [(1, .int (-1)), (0, .ref h701)]) hx hb dX12_advance_55 rfl hl (by decide) rfl (fun ls hl => ?_)
  refine lv_aload_n hx hb dX12_advance_56 rfl (lv_at hl 1 rfl) ?_
  refine lv_lconst (v := 0) hx hb dX12_advance_57 (by decide) ?_
  refine va_put (D := (dC, dI)) (ci := 12) (v := .long 0) (ty := .long) (C := RX12) (T := TX12) (N := 87) hx hb hts in_k_X12_advance_2_12 tyX12 tyX12_ok nmX12 hown hK hP hD hS 0 rfl rfl 24 (by decide) (hts (.fieldLink RX12 219 "LineKeeperModel" "word" "J") (List.mem_of_getElem? (i := 9) rfl)) (fun _ h9 => h9) rfl (tyX12_ok 24 (by decide)) rfl rfl (Nat.le_of_ble_eq_true rfl) dX12_advance_58 (fun H locs hP hD hS => ?_)
  have hP : va_P (dC, dI) vwCl [(h701, .inr (12, ((fsM g701).set 23 (.int (-1))).set 25 (.int 2)))] H := hP
  have hD : va_D A [(h701, .inr (12, ((fsM g701).set 23 (.int (-1))).set 25 (.int 2)))] := hD
  refine lv_aload_n hx hb dX12_advance_61 rfl (lv_at hl 1 rfl) ?_
  refine lv_iload_n hx hb dX12_advance_62 rfl (lv_at hl 0 rfl) ?_
  refine va_put (D := (dC, dI)) (ci := 12) (v := .int (-1)) (ty := .int) (C := RX12) (T := TX12) (N := 87) hx hb hts in_k_X12_advance_2_12 tyX12 tyX12_ok nmX12 hown hK hP hD hS 0 rfl rfl 23 (by decide) (hts (.fieldLink RX12 223 "LineKeeperModel" "value" "I") (List.mem_of_getElem? (i := 10) rfl)) (fun _ h9 => h9) rfl (tyX12_ok 23 (by decide)) rfl rfl (Nat.le_of_ble_eq_true rfl) dX12_advance_63 (fun H locs hP hD hS => ?_)
  have hP : va_P (dC, dI) vwCl [(h701, .inr (12, ((fsM g701).set 23 (.int (-1))).set 25 (.int 2)))] H := hP
  have hD : va_D A [(h701, .inr (12, ((fsM g701).set 23 (.int (-1))).set 25 (.int 2)))] := hD
  refine lv_iload_n hx hb dX12_advance_66 rfl (lv_at hl 0 rfl) ?_
  refine lv_if_ge (tgt := 78) hx hb dX12_advance_67 (by decide) (fun h => absurd h (by decide)) (fun _ => ?_)
  refine lv_aload_n hx hb dX12_advance_70 rfl (lv_at hl 1 rfl) ?_
  refine lv_iconst (v := 0) hx hb dX12_advance_71 (by decide) ?_
  refine va_put (D := (dC, dI)) (ci := 12) (v := .int 0) (ty := .int) (C := RX12) (T := TX12) (N := 87) hx hb hts in_k_X12_advance_2_12 tyX12 tyX12_ok nmX12 hown hK hP hD hS 0 rfl rfl 22 (by decide) (hts (.fieldLink RX12 226 "LineKeeperModel" "sort" "I") (List.mem_of_getElem? (i := 11) rfl)) (fun _ h9 => h9) rfl (tyX12_ok 22 (by decide)) rfl rfl (Nat.le_of_ble_eq_true rfl) dX12_advance_72 (fun H locs hP hD hS => ?_)
  have hP : va_P (dC, dI) vwCl [(h701, .inr (12, ((fsM g701).set 23 (.int (-1))).set 25 (.int 2)))] H := hP
  have hD : va_D A [(h701, .inr (12, ((fsM g701).set 23 (.int (-1))).set 25 (.int 2)))] := hD
  refine lv_goto (tgt := 282) hx hb dX12_advance_75 (by decide) ?_
  have hP9 := hP.sub (ws' := [(h701, .inr (12, ((fsM g701).set 23 (.int (-1))).set 25 (.int 2)))]) [0] rfl
  have hD9 := hD.sub (ws' := [(h701, .inr (12, ((fsM g701).set 23 (.int (-1))).set 25 (.int 2)))]) [0] (by decide) rfl
  have hK9 := hK.sub (tys' := []) [] rfl
  exact W.vret hx hb hr (fun t ht hW => ⟨⟨(), rfl, trivial, by rw [ht]; exact hP9, va_K.moved hW.alike hK9, hD9⟩, hS.F ht⟩) hS.2.2 dX12_advance_282

def w_k_X12_goOver_2 : List Cond := .code yX12_goOver cX12_goOver 3 (some .boolean) :: ([.fieldLink RX12 255 "LineKeeperModel" "phase" "I", .fieldLink RX12 210 "LineKeeperModel" "next" "I", .fieldLink RX12 268 "LineKeeperModel" "routine" "I", .fieldLink RX12 343 "LineKeeperModel" "line" "I", .fieldLink RX12 304 "LineKeeperModel" "openE" "I", .fieldLink RX12 333 "LineKeeperModel" "openBlocks" "I", .fieldLink RX12 69 "LineKeeperModel" "newFirst" "[I", .fieldLink RX12 207 "LineKeeperModel" "length" "I", .code yX12_see cX12_see 2 (some .int), .initialized RX12, .methodLink RX12 213 yX12_see, .instanceMethod yX12_see, .selects RX12 yX12_see yX12_see, .fieldLink RX12 216 "LineKeeperModel" "place" "I", .fieldLink RX12 219 "LineKeeperModel" "word" "J", .fieldLink RX12 223 "LineKeeperModel" "value" "I", .fieldLink RX12 226 "LineKeeperModel" "sort" "I", .code yX12_advance cX12_advance 3 none, .methodLink RX12 265 yX12_advance, .instanceMethod yX12_advance, .selects RX12 yX12_advance yX12_advance] ++ wsX120)
theorem in_k_X12_goOver_2_12 : ∀ w ∈ wsX120, w ∈ w_k_X12_goOver_2 := fun _ h => List.mem_cons_of_mem _ (List.mem_append_right _ h)
set_option maxRecDepth 100000 in
theorem g_k_X12_goOver_2_k_X12_advance_2_265 : GoodIn w_k_X12_goOver_2 (wsV RX12 265 RX12 yX12_advance w_k_X12_advance_2) := goodIn_r _ [19, 20, 21, 10, 18, 2, 8, 9, 10, 11, 12, 13, 14, 15, 16, 17, 22, 23, 24, 25, 26, 27, 28, 29, 30, 31, 32, 33, 34, 35, 36, 37, 38, 39, 40, 41, 42, 43, 44, 45, 46, 47, 48, 49, 50, 51, 52, 53, 54, 55, 56, 57, 58, 59, 60, 61, 62, 63, 64, 65, 66, 67, 68, 69, 70, 71, 72, 73, 74, 75, 76, 77, 78, 79, 80, 81, 82, 83, 84, 85, 86, 87, 88, 89, 90, 91, 92, 93, 94, 95, 96, 97, 98, 99, 100, 101, 102, 103, 104, 105, 106, 107, 108] (by decide +kernel) (by decide +kernel)
set_option maxHeartbeats 4000000 in
set_option maxRecDepth 100000 in
theorem k_X12_goOver_2 (l : Launch) (dC : Nat → ClassId) (dI : Nat → Nat → Nat) (h701 : Nat) (g701 : Nat → Nat) (cA701 : ClassId) (f701 : Nat → Int32) (cA702 : ClassId) (f702 : Nat → Int32) (cA703 : ClassId) (f703 : Nat → Int32) (sz : Nat) : Met l yX12_goOver w_k_X12_goOver_2 { frames := 2, cells := 0, slots := 0, locals := 43 } (va_Pc [.ref h701, .int 2] (vx_pre dC dI [(h701, .inr (12, ((fsM g701).set 23 (.int (-1))).set 25 (.int 1))), ((g701 35), .inl (cA701, 6, .inl f701)), ((g701 36), .inl (cA702, 6, .inl f702)), ((g701 37), .inl (cA703, 6, .inl f703))] [(cA701, .int), (cA702, .int), (cA703, .int)] sz)) (va_Qi (fun (r : Int32) (_ : Unit) => r = 1) (fun _ t => ∃ (f901 : Nat → Int32), vx_B dC dI (va_A [(h701, .inr (12, ((fsM g701).set 23 (.int (-1))).set 25 (.int 1))), ((g701 35), .inl (cA701, 6, .inl f701)), ((g701 36), .inl (cA702, 6, .inl f702)), ((g701 37), .inl (cA703, 6, .inl f703))] sz) [(h701, .inr (12, ((fsM g701).set 23 (.int (-1))).set 25 (.int 2))), ((g701 35), .inl (cA701, 6, .inl f701)), ((g701 36), .inl (cA702, 6, .inl f702)), ((g701 37), .inl (cA703, 6, .inl f901))] [(cA701, .int), (cA702, .int), (cA703, .int)] t) (va_A [(h701, .inr (12, ((fsM g701).set 23 (.int (-1))).set 25 (.int 1))), ((g701 35), .inl (cA701, 6, .inl f701)), ((g701 36), .inl (cA702, 6, .inl f702)), ((g701 37), .inl (cA703, 6, .inl f703))] sz)) 0 0 (va_A [(h701, .inr (12, ((fsM g701).set 23 (.int (-1))).set 25 (.int 1))), ((g701 35), .inl (cA701, 6, .inl f701)), ((g701 36), .inl (cA702, 6, .inl f702)), ((g701 37), .inl (cA703, 6, .inl f703))] sz) := by
  refine Met.ofW (cc := cX12_goOver) (maxL := 3) (ret := (some .boolean)) (by decide) rfl ?_
  intro p e s m args below meth c s₁ B hml hv
  obtain ⟨rfl, hsz, hP, hK, hD0, hN⟩ := hv
  have hx := B.exec
  have hb := B.bytes
  have hr := B.returns
  have hts := atoms_spec (ws := w_k_X12_goOver_2) B.pre
  have hown : s.vm.findClass RX12 = some m.cls := findClass_of_methodNamed B.named
  have hlocks := B.notSynchronized
  subst hsz
  have hD := hD0.self (sz := s.heap.size)
  generalize hAe : va_A [(h701, .inr (12, ((fsM g701).set 23 (.int (-1))).set 25 (.int 1))), ((g701 35), .inl (cA701, 6, .inl f701)), ((g701 36), .inl (cA702, 6, .inl f702)), ((g701 37), .inl (cA703, 6, .inl f703))] s.heap.size = A at hD ⊢
  have hA : ∀ q : Nat, s.heap.size ≤ q → A q := fun q h => by rw [← hAe]; exact Or.inr h
  obtain ⟨H, hHe⟩ : ∃ H, H = s.heap := ⟨_, rfl⟩
  rw [← hHe] at hP ⊢
  have hS : va_S A s.heap H [] := by rw [hHe]; exact va_S.rf
  have hl := lv_entry [.ref h701, .int 2] (n := 3) (Nat.le_of_ble_eq_true rfl)
  rw [lg_entry_eq]
  generalize (lg_sl [.ref h701, .int 2] ++ List.replicate (3 - (lg_sl [.ref h701, .int 2]).length) Slot.unset).toArray = ls at hl ⊢
  have hl : lv_has ls 3 [(0, .ref h701), (1, .int 2)] := hl
  refine lv_aload_n hx hb dX12_goOver_0 rfl (lv_at hl 0 rfl) ?_
  refine lv_iload_n hx hb dX12_goOver_1 rfl (lv_at hl 1 rfl) ?_
  refine va_put (D := (dC, dI)) (ci := 12) (v := .int 2) (ty := .int) (C := RX12) (T := TX12) (N := 87) hx hb hts in_k_X12_goOver_2_12 tyX12 tyX12_ok nmX12 hown hK hP hD hS 0 rfl rfl 25 (by decide) (hts (.fieldLink RX12 255 "LineKeeperModel" "phase" "I") (List.mem_of_getElem? (i := 1) rfl)) (fun _ h9 => h9) rfl (tyX12_ok 25 (by decide)) rfl rfl (Nat.le_of_ble_eq_true rfl) dX12_goOver_2 (fun H locs hP hD hS => ?_)
  have hP : va_P (dC, dI) vwCl [(h701, .inr (12, ((fsM g701).set 23 (.int (-1))).set 25 (.int 2))), ((g701 35), .inl (cA701, 6, .inl f701)), ((g701 36), .inl (cA702, 6, .inl f702)), ((g701 37), .inl (cA703, 6, .inl f703))] H := hP
  have hD : va_D A [(h701, .inr (12, ((fsM g701).set 23 (.int (-1))).set 25 (.int 2))), ((g701 35), .inl (cA701, 6, .inl f701)), ((g701 36), .inl (cA702, 6, .inl f702)), ((g701 37), .inl (cA703, 6, .inl f703))] := hD
  refine lv_aload_n hx hb dX12_goOver_5 rfl (lv_at hl 0 rfl) ?_
  refine lv_iconst (v := 0) hx hb dX12_goOver_6 (by decide) ?_
  refine va_put (D := (dC, dI)) (ci := 12) (v := .int 0) (ty := .int) (C := RX12) (T := TX12) (N := 87) hx hb hts in_k_X12_goOver_2_12 tyX12 tyX12_ok nmX12 hown hK hP hD hS 0 rfl rfl 20 (by decide) (hts (.fieldLink RX12 210 "LineKeeperModel" "next" "I") (List.mem_of_getElem? (i := 2) rfl)) (fun _ h9 => h9) rfl (tyX12_ok 20 (by decide)) rfl rfl (Nat.le_of_ble_eq_true rfl) dX12_goOver_7 (fun H locs hP hD hS => ?_)
  have hP : va_P (dC, dI) vwCl [(h701, .inr (12, ((fsM g701).set 23 (.int (-1))).set 25 (.int 2))), ((g701 35), .inl (cA701, 6, .inl f701)), ((g701 36), .inl (cA702, 6, .inl f702)), ((g701 37), .inl (cA703, 6, .inl f703))] H := hP
  have hD : va_D A [(h701, .inr (12, ((fsM g701).set 23 (.int (-1))).set 25 (.int 2))), ((g701 35), .inl (cA701, 6, .inl f701)), ((g701 36), .inl (cA702, 6, .inl f702)), ((g701 37), .inl (cA703, 6, .inl f703))] := hD
  refine lv_aload_n hx hb dX12_goOver_10 rfl (lv_at hl 0 rfl) ?_
  refine lv_iconst (v := 0) hx hb dX12_goOver_11 (by decide) ?_
  refine va_put (D := (dC, dI)) (ci := 12) (v := .int 0) (ty := .int) (C := RX12) (T := TX12) (N := 87) hx hb hts in_k_X12_goOver_2_12 tyX12 tyX12_ok nmX12 hown hK hP hD hS 0 rfl rfl 30 (by decide) (hts (.fieldLink RX12 268 "LineKeeperModel" "routine" "I") (List.mem_of_getElem? (i := 3) rfl)) (fun _ h9 => h9) rfl (tyX12_ok 30 (by decide)) rfl rfl (Nat.le_of_ble_eq_true rfl) dX12_goOver_12 (fun H locs hP hD hS => ?_)
  have hP : va_P (dC, dI) vwCl [(h701, .inr (12, ((fsM g701).set 23 (.int (-1))).set 25 (.int 2))), ((g701 35), .inl (cA701, 6, .inl f701)), ((g701 36), .inl (cA702, 6, .inl f702)), ((g701 37), .inl (cA703, 6, .inl f703))] H := hP
  have hD : va_D A [(h701, .inr (12, ((fsM g701).set 23 (.int (-1))).set 25 (.int 2))), ((g701 35), .inl (cA701, 6, .inl f701)), ((g701 36), .inl (cA702, 6, .inl f702)), ((g701 37), .inl (cA703, 6, .inl f703))] := hD
  refine lv_aload_n hx hb dX12_goOver_15 rfl (lv_at hl 0 rfl) ?_
  refine lv_iconst (v := 0) hx hb dX12_goOver_16 (by decide) ?_
  refine va_put (D := (dC, dI)) (ci := 12) (v := .int 0) (ty := .int) (C := RX12) (T := TX12) (N := 87) hx hb hts in_k_X12_goOver_2_12 tyX12 tyX12_ok nmX12 hown hK hP hD hS 0 rfl rfl 31 (by decide) (hts (.fieldLink RX12 343 "LineKeeperModel" "line" "I") (List.mem_of_getElem? (i := 4) rfl)) (fun _ h9 => h9) rfl (tyX12_ok 31 (by decide)) rfl rfl (Nat.le_of_ble_eq_true rfl) dX12_goOver_17 (fun H locs hP hD hS => ?_)
  have hP : va_P (dC, dI) vwCl [(h701, .inr (12, ((fsM g701).set 23 (.int (-1))).set 25 (.int 2))), ((g701 35), .inl (cA701, 6, .inl f701)), ((g701 36), .inl (cA702, 6, .inl f702)), ((g701 37), .inl (cA703, 6, .inl f703))] H := hP
  have hD : va_D A [(h701, .inr (12, ((fsM g701).set 23 (.int (-1))).set 25 (.int 2))), ((g701 35), .inl (cA701, 6, .inl f701)), ((g701 36), .inl (cA702, 6, .inl f702)), ((g701 37), .inl (cA703, 6, .inl f703))] := hD
  refine lv_aload_n hx hb dX12_goOver_20 rfl (lv_at hl 0 rfl) ?_
  refine lv_iconst (v := 0) hx hb dX12_goOver_21 (by decide) ?_
  refine va_put (D := (dC, dI)) (ci := 12) (v := .int 0) (ty := .int) (C := RX12) (T := TX12) (N := 87) hx hb hts in_k_X12_goOver_2_12 tyX12 tyX12_ok nmX12 hown hK hP hD hS 0 rfl rfl 28 (by decide) (hts (.fieldLink RX12 304 "LineKeeperModel" "openE" "I") (List.mem_of_getElem? (i := 5) rfl)) (fun _ h9 => h9) rfl (tyX12_ok 28 (by decide)) rfl rfl (Nat.le_of_ble_eq_true rfl) dX12_goOver_22 (fun H locs hP hD hS => ?_)
  have hP : va_P (dC, dI) vwCl [(h701, .inr (12, ((fsM g701).set 23 (.int (-1))).set 25 (.int 2))), ((g701 35), .inl (cA701, 6, .inl f701)), ((g701 36), .inl (cA702, 6, .inl f702)), ((g701 37), .inl (cA703, 6, .inl f703))] H := hP
  have hD : va_D A [(h701, .inr (12, ((fsM g701).set 23 (.int (-1))).set 25 (.int 2))), ((g701 35), .inl (cA701, 6, .inl f701)), ((g701 36), .inl (cA702, 6, .inl f702)), ((g701 37), .inl (cA703, 6, .inl f703))] := hD
  refine lv_aload_n hx hb dX12_goOver_25 rfl (lv_at hl 0 rfl) ?_
  refine lv_iconst (v := 0) hx hb dX12_goOver_26 (by decide) ?_
  refine va_put (D := (dC, dI)) (ci := 12) (v := .int 0) (ty := .int) (C := RX12) (T := TX12) (N := 87) hx hb hts in_k_X12_goOver_2_12 tyX12 tyX12_ok nmX12 hown hK hP hD hS 0 rfl rfl 29 (by decide) (hts (.fieldLink RX12 333 "LineKeeperModel" "openBlocks" "I") (List.mem_of_getElem? (i := 6) rfl)) (fun _ h9 => h9) rfl (tyX12_ok 29 (by decide)) rfl rfl (Nat.le_of_ble_eq_true rfl) dX12_goOver_27 (fun H locs hP hD hS => ?_)
  have hP : va_P (dC, dI) vwCl [(h701, .inr (12, ((fsM g701).set 23 (.int (-1))).set 25 (.int 2))), ((g701 35), .inl (cA701, 6, .inl f701)), ((g701 36), .inl (cA702, 6, .inl f702)), ((g701 37), .inl (cA703, 6, .inl f703))] H := hP
  have hD : va_D A [(h701, .inr (12, ((fsM g701).set 23 (.int (-1))).set 25 (.int 2))), ((g701 35), .inl (cA701, 6, .inl f701)), ((g701 36), .inl (cA702, 6, .inl f702)), ((g701 37), .inl (cA703, 6, .inl f703))] := hD
  refine lv_iload_n hx hb dX12_goOver_30 rfl (lv_at hl 1 rfl) ?_
  refine lv_iconst (v := 1) hx hb dX12_goOver_31 (by decide) ?_
  refine lv_icmp_ne (tgt := 68) hx hb dX12_goOver_32 (by decide) (fun _ => ?_) (fun h => absurd h (by decide))
  refine lv_iconst (v := 0) hx hb dX12_goOver_68 (by decide) ?_
  refine lv_istore_n (lv' := [(2, .int 0), (0, .ref h701), (1, .int 2)]) hx hb dX12_goOver_69 rfl hl (by decide) rfl (fun ls hl => ?_)
  refine lv_iload_n hx hb dX12_goOver_70 rfl (lv_at hl 0 rfl) ?_
  refine lv_bipush (v := 6) hx hb dX12_goOver_71 (by decide) ?_
  refine lv_icmp_ge (tgt := 89) hx hb dX12_goOver_73 (by decide) (fun h => absurd h (by decide)) (fun _ => ?_)
  refine lv_aload_n hx hb dX12_goOver_76 rfl (lv_at hl 1 rfl) ?_
  refine va_get (D := (dC, dI)) (ci := 12) (v := .ref (g701 37)) (C := RX12) (T := TX12) (N := 87) hx hb hts in_k_X12_goOver_2_12 hown hK hP 0 rfl rfl 37 (by decide) (hts (.fieldLink RX12 69 "LineKeeperModel" "newFirst" "[I") (List.mem_of_getElem? (i := 7) rfl)) (fun _ h9 => h9) rfl dX12_goOver_77 ?_
  refine lv_iload_n hx hb dX12_goOver_80 rfl (lv_at hl 0 rfl) ?_
  refine lv_iconst (v := 0) hx hb dX12_goOver_81 (by decide) ?_
  refine va_iast hx hb hK hP hD hS 3 2 rfl rfl (vx_in (by decide)) dX12_goOver_82 (fun H locs hP hD hS => ?_)
  generalize (upd f703 (0 : Int32).toNatClampNeg 0) = f1 at hP hD
  have hP : va_P (dC, dI) vwCl [(h701, .inr (12, ((fsM g701).set 23 (.int (-1))).set 25 (.int 2))), ((g701 35), .inl (cA701, 6, .inl f701)), ((g701 36), .inl (cA702, 6, .inl f702)), ((g701 37), .inl (cA703, 6, .inl f1))] H := hP
  have hD : va_D A [(h701, .inr (12, ((fsM g701).set 23 (.int (-1))).set 25 (.int 2))), ((g701 35), .inl (cA701, 6, .inl f701)), ((g701 36), .inl (cA702, 6, .inl f702)), ((g701 37), .inl (cA703, 6, .inl f1))] := hD
  refine lv_iinc (v := 1) (lv' := [(2, .int 1), (0, .ref h701), (1, .int 2)]) hx hb dX12_goOver_83 hl (k := 0) rfl (by decide) (by decide) rfl (fun ls hl => ?_)
  refine lv_goto (tgt := 70) hx hb dX12_goOver_86 (by decide) ?_
  refine lv_iload_n hx hb dX12_goOver_70 rfl (lv_at hl 0 rfl) ?_
  refine lv_bipush (v := 6) hx hb dX12_goOver_71 (by decide) ?_
  refine lv_icmp_ge (tgt := 89) hx hb dX12_goOver_73 (by decide) (fun h => absurd h (by decide)) (fun _ => ?_)
  refine lv_aload_n hx hb dX12_goOver_76 rfl (lv_at hl 1 rfl) ?_
  refine va_get (D := (dC, dI)) (ci := 12) (v := .ref (g701 37)) (C := RX12) (T := TX12) (N := 87) hx hb hts in_k_X12_goOver_2_12 hown hK hP 0 rfl rfl 37 (by decide) (hts (.fieldLink RX12 69 "LineKeeperModel" "newFirst" "[I") (List.mem_of_getElem? (i := 7) rfl)) (fun _ h9 => h9) rfl dX12_goOver_77 ?_
  refine lv_iload_n hx hb dX12_goOver_80 rfl (lv_at hl 0 rfl) ?_
  refine lv_iconst (v := 0) hx hb dX12_goOver_81 (by decide) ?_
  refine va_iast hx hb hK hP hD hS 3 2 rfl rfl (vx_in (by decide)) dX12_goOver_82 (fun H locs hP hD hS => ?_)
  generalize (upd f1 (1 : Int32).toNatClampNeg 0) = f2 at hP hD
  have hP : va_P (dC, dI) vwCl [(h701, .inr (12, ((fsM g701).set 23 (.int (-1))).set 25 (.int 2))), ((g701 35), .inl (cA701, 6, .inl f701)), ((g701 36), .inl (cA702, 6, .inl f702)), ((g701 37), .inl (cA703, 6, .inl f2))] H := hP
  have hD : va_D A [(h701, .inr (12, ((fsM g701).set 23 (.int (-1))).set 25 (.int 2))), ((g701 35), .inl (cA701, 6, .inl f701)), ((g701 36), .inl (cA702, 6, .inl f702)), ((g701 37), .inl (cA703, 6, .inl f2))] := hD
  refine lv_iinc (v := 2) (lv' := [(2, .int 2), (0, .ref h701), (1, .int 2)]) hx hb dX12_goOver_83 hl (k := 0) rfl (by decide) (by decide) rfl (fun ls hl => ?_)
  refine lv_goto (tgt := 70) hx hb dX12_goOver_86 (by decide) ?_
  refine lv_iload_n hx hb dX12_goOver_70 rfl (lv_at hl 0 rfl) ?_
  refine lv_bipush (v := 6) hx hb dX12_goOver_71 (by decide) ?_
  refine lv_icmp_ge (tgt := 89) hx hb dX12_goOver_73 (by decide) (fun h => absurd h (by decide)) (fun _ => ?_)
  refine lv_aload_n hx hb dX12_goOver_76 rfl (lv_at hl 1 rfl) ?_
  refine va_get (D := (dC, dI)) (ci := 12) (v := .ref (g701 37)) (C := RX12) (T := TX12) (N := 87) hx hb hts in_k_X12_goOver_2_12 hown hK hP 0 rfl rfl 37 (by decide) (hts (.fieldLink RX12 69 "LineKeeperModel" "newFirst" "[I") (List.mem_of_getElem? (i := 7) rfl)) (fun _ h9 => h9) rfl dX12_goOver_77 ?_
  refine lv_iload_n hx hb dX12_goOver_80 rfl (lv_at hl 0 rfl) ?_
  refine lv_iconst (v := 0) hx hb dX12_goOver_81 (by decide) ?_
  refine va_iast hx hb hK hP hD hS 3 2 rfl rfl (vx_in (by decide)) dX12_goOver_82 (fun H locs hP hD hS => ?_)
  generalize (upd f2 (2 : Int32).toNatClampNeg 0) = f3 at hP hD
  have hP : va_P (dC, dI) vwCl [(h701, .inr (12, ((fsM g701).set 23 (.int (-1))).set 25 (.int 2))), ((g701 35), .inl (cA701, 6, .inl f701)), ((g701 36), .inl (cA702, 6, .inl f702)), ((g701 37), .inl (cA703, 6, .inl f3))] H := hP
  have hD : va_D A [(h701, .inr (12, ((fsM g701).set 23 (.int (-1))).set 25 (.int 2))), ((g701 35), .inl (cA701, 6, .inl f701)), ((g701 36), .inl (cA702, 6, .inl f702)), ((g701 37), .inl (cA703, 6, .inl f3))] := hD
  refine lv_iinc (v := 3) (lv' := [(2, .int 3), (0, .ref h701), (1, .int 2)]) hx hb dX12_goOver_83 hl (k := 0) rfl (by decide) (by decide) rfl (fun ls hl => ?_)
  refine lv_goto (tgt := 70) hx hb dX12_goOver_86 (by decide) ?_
  refine lv_iload_n hx hb dX12_goOver_70 rfl (lv_at hl 0 rfl) ?_
  refine lv_bipush (v := 6) hx hb dX12_goOver_71 (by decide) ?_
  refine lv_icmp_ge (tgt := 89) hx hb dX12_goOver_73 (by decide) (fun h => absurd h (by decide)) (fun _ => ?_)
  refine lv_aload_n hx hb dX12_goOver_76 rfl (lv_at hl 1 rfl) ?_
  refine va_get (D := (dC, dI)) (ci := 12) (v := .ref (g701 37)) (C := RX12) (T := TX12) (N := 87) hx hb hts in_k_X12_goOver_2_12 hown hK hP 0 rfl rfl 37 (by decide) (hts (.fieldLink RX12 69 "LineKeeperModel" "newFirst" "[I") (List.mem_of_getElem? (i := 7) rfl)) (fun _ h9 => h9) rfl dX12_goOver_77 ?_
  refine lv_iload_n hx hb dX12_goOver_80 rfl (lv_at hl 0 rfl) ?_
  refine lv_iconst (v := 0) hx hb dX12_goOver_81 (by decide) ?_
  refine va_iast hx hb hK hP hD hS 3 2 rfl rfl (vx_in (by decide)) dX12_goOver_82 (fun H locs hP hD hS => ?_)
  generalize (upd f3 (3 : Int32).toNatClampNeg 0) = f4 at hP hD
  have hP : va_P (dC, dI) vwCl [(h701, .inr (12, ((fsM g701).set 23 (.int (-1))).set 25 (.int 2))), ((g701 35), .inl (cA701, 6, .inl f701)), ((g701 36), .inl (cA702, 6, .inl f702)), ((g701 37), .inl (cA703, 6, .inl f4))] H := hP
  have hD : va_D A [(h701, .inr (12, ((fsM g701).set 23 (.int (-1))).set 25 (.int 2))), ((g701 35), .inl (cA701, 6, .inl f701)), ((g701 36), .inl (cA702, 6, .inl f702)), ((g701 37), .inl (cA703, 6, .inl f4))] := hD
  refine lv_iinc (v := 4) (lv' := [(2, .int 4), (0, .ref h701), (1, .int 2)]) hx hb dX12_goOver_83 hl (k := 0) rfl (by decide) (by decide) rfl (fun ls hl => ?_)
  refine lv_goto (tgt := 70) hx hb dX12_goOver_86 (by decide) ?_
  refine lv_iload_n hx hb dX12_goOver_70 rfl (lv_at hl 0 rfl) ?_
  refine lv_bipush (v := 6) hx hb dX12_goOver_71 (by decide) ?_
  refine lv_icmp_ge (tgt := 89) hx hb dX12_goOver_73 (by decide) (fun h => absurd h (by decide)) (fun _ => ?_)
  refine lv_aload_n hx hb dX12_goOver_76 rfl (lv_at hl 1 rfl) ?_
  refine va_get (D := (dC, dI)) (ci := 12) (v := .ref (g701 37)) (C := RX12) (T := TX12) (N := 87) hx hb hts in_k_X12_goOver_2_12 hown hK hP 0 rfl rfl 37 (by decide) (hts (.fieldLink RX12 69 "LineKeeperModel" "newFirst" "[I") (List.mem_of_getElem? (i := 7) rfl)) (fun _ h9 => h9) rfl dX12_goOver_77 ?_
  refine lv_iload_n hx hb dX12_goOver_80 rfl (lv_at hl 0 rfl) ?_
  refine lv_iconst (v := 0) hx hb dX12_goOver_81 (by decide) ?_
  refine va_iast hx hb hK hP hD hS 3 2 rfl rfl (vx_in (by decide)) dX12_goOver_82 (fun H locs hP hD hS => ?_)
  generalize (upd f4 (4 : Int32).toNatClampNeg 0) = f5 at hP hD
  have hP : va_P (dC, dI) vwCl [(h701, .inr (12, ((fsM g701).set 23 (.int (-1))).set 25 (.int 2))), ((g701 35), .inl (cA701, 6, .inl f701)), ((g701 36), .inl (cA702, 6, .inl f702)), ((g701 37), .inl (cA703, 6, .inl f5))] H := hP
  have hD : va_D A [(h701, .inr (12, ((fsM g701).set 23 (.int (-1))).set 25 (.int 2))), ((g701 35), .inl (cA701, 6, .inl f701)), ((g701 36), .inl (cA702, 6, .inl f702)), ((g701 37), .inl (cA703, 6, .inl f5))] := hD
  refine lv_iinc (v := 5) (lv' := [(2, .int 5), (0, .ref h701), (1, .int 2)]) hx hb dX12_goOver_83 hl (k := 0) rfl (by decide) (by decide) rfl (fun ls hl => ?_)
  refine lv_goto (tgt := 70) hx hb dX12_goOver_86 (by decide) ?_
  refine lv_iload_n hx hb dX12_goOver_70 rfl (lv_at hl 0 rfl) ?_
  refine lv_bipush (v := 6) hx hb dX12_goOver_71 (by decide) ?_
  refine lv_icmp_ge (tgt := 89) hx hb dX12_goOver_73 (by decide) (fun h => absurd h (by decide)) (fun _ => ?_)
  refine lv_aload_n hx hb dX12_goOver_76 rfl (lv_at hl 1 rfl) ?_
  refine va_get (D := (dC, dI)) (ci := 12) (v := .ref (g701 37)) (C := RX12) (T := TX12) (N := 87) hx hb hts in_k_X12_goOver_2_12 hown hK hP 0 rfl rfl 37 (by decide) (hts (.fieldLink RX12 69 "LineKeeperModel" "newFirst" "[I") (List.mem_of_getElem? (i := 7) rfl)) (fun _ h9 => h9) rfl dX12_goOver_77 ?_
  refine lv_iload_n hx hb dX12_goOver_80 rfl (lv_at hl 0 rfl) ?_
  refine lv_iconst (v := 0) hx hb dX12_goOver_81 (by decide) ?_
  refine va_iast hx hb hK hP hD hS 3 2 rfl rfl (vx_in (by decide)) dX12_goOver_82 (fun H locs hP hD hS => ?_)
  generalize (upd f5 (5 : Int32).toNatClampNeg 0) = f6 at hP hD
  have hP : va_P (dC, dI) vwCl [(h701, .inr (12, ((fsM g701).set 23 (.int (-1))).set 25 (.int 2))), ((g701 35), .inl (cA701, 6, .inl f701)), ((g701 36), .inl (cA702, 6, .inl f702)), ((g701 37), .inl (cA703, 6, .inl f6))] H := hP
  have hD : va_D A [(h701, .inr (12, ((fsM g701).set 23 (.int (-1))).set 25 (.int 2))), ((g701 35), .inl (cA701, 6, .inl f701)), ((g701 36), .inl (cA702, 6, .inl f702)), ((g701 37), .inl (cA703, 6, .inl f6))] := hD
  refine lv_iinc (v := 6) (lv' := [(2, .int 6), (0, .ref h701), (1, .int 2)]) hx hb dX12_goOver_83 hl (k := 0) rfl (by decide) (by decide) rfl (fun ls hl => ?_)
  refine lv_goto (tgt := 70) hx hb dX12_goOver_86 (by decide) ?_
  refine lv_iload_n hx hb dX12_goOver_70 rfl (lv_at hl 0 rfl) ?_
  refine lv_bipush (v := 6) hx hb dX12_goOver_71 (by decide) ?_
  refine lv_icmp_ge (tgt := 89) hx hb dX12_goOver_73 (by decide) (fun _ => ?_) (fun h => absurd (by decide) h)
  refine lv_aload_n hx hb dX12_goOver_89 rfl (lv_at hl 1 rfl) ?_
  have hPc := hP.sub (ws' := [(h701, .inr (12, ((fsM g701).set 23 (.int (-1))).set 25 (.int 2)))]) [0] rfl
  have hDc := hD.sub (ws' := [(h701, .inr (12, ((fsM g701).set 23 (.int (-1))).set 25 (.int 2)))]) [0] (by decide) rfl
  have hKc := hK.sub (tys' := []) [] rfl
  have hFc := va_free (wc := [(h701, .inr (12, ((fsM g701).set 23 (.int (-1))).set 25 (.int 2)))]) hD hS hA [0] rfl
  refine va_callv (va_runV (As := []) (rest := []) ⟨hx, hb, hml, hown, hts⟩ (k_X12_advance_2 l dC dI h701 g701 H.size ) (cwV 0 hts g_k_X12_goOver_2_k_X12_advance_2_265 rfl rfl rfl (by decide +kernel) ⟨(Nat.le_of_ble_eq_true rfl), (Nat.le_of_ble_eq_true rfl)⟩) (vx_preV (ci := 12) (q0 := 0) hPc hKc hDc hN rfl rfl) rfl rfl hl.1 rfl (lv_room (Nat.le_of_ble_eq_true rfl)) dX12_goOver_90 ⟨(Nat.le_of_ble_eq_true rfl), (Nat.le_of_ble_eq_true rfl)⟩) hS (fun q _ h => hFc q h) hFc (fun u t H1 locs ht hvm hw hB hz1 hk1 hS => ?_)
  obtain ⟨hP1, hK1, hD1⟩ := hB
  rw [ht] at hP1
  obtain ⟨hP, hD⟩ := va_join (wr := [((g701 35), .inl (cA701, 6, .inl f701)), ((g701 36), .inl (cA702, 6, .inl f702)), ((g701 37), .inl (cA703, 6, .inl f6))]) (w1 := [(h701, .inr (12, ((fsM g701).set 23 (.int (-1))).set 25 (.int 2)))]) hP hD [0] [1, 2, 3] rfl rfl (by decide) (by decide) hk1 hFc hP1 hD1
  generalize H1 = H at hP hS ⊢
  have hP : va_P (dC, dI) vwCl [((g701 35), .inl (cA701, 6, .inl f701)), ((g701 36), .inl (cA702, 6, .inl f702)), ((g701 37), .inl (cA703, 6, .inl f6)), (h701, .inr (12, ((fsM g701).set 23 (.int (-1))).set 25 (.int 2)))] H := hP
  have hD : va_D A [((g701 35), .inl (cA701, 6, .inl f701)), ((g701 36), .inl (cA702, 6, .inl f702)), ((g701 37), .inl (cA703, 6, .inl f6)), (h701, .inr (12, ((fsM g701).set 23 (.int (-1))).set 25 (.int 2)))] := hD
  refine W.widen (k := 0) (n := 0) (by decide) (by decide) ?_
  refine lv_aload_n hx hb dX12_goOver_93 rfl (lv_at hl 1 rfl) ?_
  refine va_get (D := (dC, dI)) (ci := 12) (v := .int 0) (C := RX12) (T := TX12) (N := 87) hx hb hts in_k_X12_goOver_2_12 hown hK hP 3 rfl rfl 22 (by decide) (hts (.fieldLink RX12 226 "LineKeeperModel" "sort" "I") (List.mem_of_getElem? (i := 17) rfl)) (fun _ h9 => h9) rfl dX12_goOver_94 ?_
  refine lv_if_eq (tgt := 109) hx hb dX12_goOver_97 (by decide) (fun _ => ?_) (fun h => absurd (by decide) h)
  refine lv_iconst (v := 1) hx hb dX12_goOver_109 (by decide) ?_
  have hP9 := hP.sub (ws' := [(h701, .inr (12, ((fsM g701).set 23 (.int (-1))).set 25 (.int 2))), ((g701 35), .inl (cA701, 6, .inl f701)), ((g701 36), .inl (cA702, 6, .inl f702)), ((g701 37), .inl (cA703, 6, .inl f6))]) [3, 0, 1, 2] rfl
  have hD9 := hD.sub (ws' := [(h701, .inr (12, ((fsM g701).set 23 (.int (-1))).set 25 (.int 2))), ((g701 35), .inl (cA701, 6, .inl f701)), ((g701 36), .inl (cA702, 6, .inl f702)), ((g701 37), .inl (cA703, 6, .inl f6))]) [3, 0, 1, 2] (by decide) rfl
  have hK9 := hK.sub (tys' := [(cA701, .int), (cA702, .int), (cA703, .int)]) [0, 1, 2] rfl
  exact W.zret (ty := .boolean) (v := 1) hx hb hr rfl (fun t ht hW => ⟨⟨1, (), rfl, rfl, f6, by rw [ht]; exact hP9, va_K.moved hW.alike hK9, hD9⟩, hS.F ht⟩) hS.2.2 dX12_goOver_110

def w_k_X12_see_3 : List Cond := .code yX12_see cX12_see 2 (some .int) :: ([.fieldLink RX12 207 "LineKeeperModel" "length" "I"] ++ wsX120)
theorem in_k_X12_see_3_12 : ∀ w ∈ wsX120, w ∈ w_k_X12_see_3 := fun _ h => List.mem_cons_of_mem _ (List.mem_append_right _ h)
set_option maxHeartbeats 4000000 in
set_option maxRecDepth 100000 in
theorem k_X12_see_3 (l : Launch) (dC : Nat → ClassId) (dI : Nat → Nat → Nat) (h701 : Nat) (g701 : Nat → Nat) (sz : Nat) : Met l yX12_see w_k_X12_see_3 { frames := 0, cells := 0, slots := 0, locals := 0 } (va_Pc [.ref h701, .int 0] (vx_pre dC dI [(h701, .inr (12, ((fsM g701).set 23 (.int (-1))).set 25 (.int 3)))] [] sz)) (va_Qi (fun (r : Int32) (_ : Unit) => r = (-1)) (fun _ t => vx_B dC dI (va_A [(h701, .inr (12, ((fsM g701).set 23 (.int (-1))).set 25 (.int 3)))] sz) [(h701, .inr (12, ((fsM g701).set 23 (.int (-1))).set 25 (.int 3)))] [] t) (va_A [(h701, .inr (12, ((fsM g701).set 23 (.int (-1))).set 25 (.int 3)))] sz)) 0 0 (va_A [(h701, .inr (12, ((fsM g701).set 23 (.int (-1))).set 25 (.int 3)))] sz) := by
  refine Met.ofW (cc := cX12_see) (maxL := 2) (ret := (some .int)) (by decide) rfl ?_
  intro p e s m args below meth c s₁ B hml hv
  obtain ⟨rfl, hsz, hP, hK, hD0, hN⟩ := hv
  have hx := B.exec
  have hb := B.bytes
  have hr := B.returns
  have hts := atoms_spec (ws := w_k_X12_see_3) B.pre
  have hown : s.vm.findClass RX12 = some m.cls := findClass_of_methodNamed B.named
  have hlocks := B.notSynchronized
  subst hsz
  have hD := hD0.self (sz := s.heap.size)
  generalize hAe : va_A [(h701, .inr (12, ((fsM g701).set 23 (.int (-1))).set 25 (.int 3)))] s.heap.size = A at hD ⊢
  have hA : ∀ q : Nat, s.heap.size ≤ q → A q := fun q h => by rw [← hAe]; exact Or.inr h
  obtain ⟨H, hHe⟩ : ∃ H, H = s.heap := ⟨_, rfl⟩
  rw [← hHe] at hP ⊢
  have hS : va_S A s.heap H [] := by rw [hHe]; exact va_S.rf
  have hl := lv_entry [.ref h701, .int 0] (n := 2) (Nat.le_of_ble_eq_true rfl)
  rw [lg_entry_eq]
  generalize (lg_sl [.ref h701, .int 0] ++ List.replicate (2 - (lg_sl [.ref h701, .int 0]).length) Slot.unset).toArray = ls at hl ⊢
  have hl : lv_has ls 2 [(0, .ref h701), (1, .int 0)] := hl
  refine lv_iload_n hx hb dX12_see_0 rfl (lv_at hl 1 rfl) ?_
  refine lv_aload_n hx hb dX12_see_1 rfl (lv_at hl 0 rfl) ?_
  refine va_get (D := (dC, dI)) (ci := 12) (v := .int 0) (C := RX12) (T := TX12) (N := 87) hx hb hts in_k_X12_see_3_12 hown hK hP 0 rfl rfl 21 (by decide) (hts (.fieldLink RX12 207 "LineKeeperModel" "length" "I") (List.mem_of_getElem? (i := 1) rfl)) (fun _ h9 => h9) rfl dX12_see_2 ?_
  refine lv_icmp_ge (tgt := 21) hx hb dX12_see_5 (by decide) (fun _ => ?_) (fun h => absurd (by decide) h)
  refine lv_iconst (v := (-1)) hx hb dX12_see_21 (by decide) ?_
  have hP9 := hP.sub (ws' := [(h701, .inr (12, ((fsM g701).set 23 (.int (-1))).set 25 (.int 3)))]) [0] rfl
  have hD9 := hD.sub (ws' := [(h701, .inr (12, ((fsM g701).set 23 (.int (-1))).set 25 (.int 3)))]) [0] (by decide) rfl
  have hK9 := hK.sub (tys' := []) [] rfl
  exact W.iret (v := (-1)) hx hb hr (fun t ht hW => ⟨⟨(-1), (), rfl, rfl, by rw [ht]; exact hP9, va_K.moved hW.alike hK9, hD9⟩, hS.F ht⟩) hS.2.2 dX12_see_22

def w_k_X12_advance_3 : List Cond := .code yX12_advance cX12_advance 3 none :: ([.fieldLink RX12 210 "LineKeeperModel" "next" "I", .fieldLink RX12 207 "LineKeeperModel" "length" "I", .code yX12_see cX12_see 2 (some .int), .initialized RX12, .methodLink RX12 213 yX12_see, .instanceMethod yX12_see, .selects RX12 yX12_see yX12_see, .fieldLink RX12 216 "LineKeeperModel" "place" "I", .fieldLink RX12 219 "LineKeeperModel" "word" "J", .fieldLink RX12 223 "LineKeeperModel" "value" "I", .fieldLink RX12 226 "LineKeeperModel" "sort" "I"] ++ wsX120)
theorem in_k_X12_advance_3_12 : ∀ w ∈ wsX120, w ∈ w_k_X12_advance_3 := fun _ h => List.mem_cons_of_mem _ (List.mem_append_right _ h)
set_option maxRecDepth 100000 in
theorem g_k_X12_advance_3_k_X12_see_3_213 : GoodIn w_k_X12_advance_3 (wsV RX12 213 RX12 yX12_see w_k_X12_see_3) := goodIn_r _ [5, 6, 7, 4, 3, 2, 12, 13, 14, 15, 16, 17, 18, 19, 20, 21, 22, 23, 24, 25, 26, 27, 28, 29, 30, 31, 32, 33, 34, 35, 36, 37, 38, 39, 40, 41, 42, 43, 44, 45, 46, 47, 48, 49, 50, 51, 52, 53, 54, 55, 56, 57, 58, 59, 60, 61, 62, 63, 64, 65, 66, 67, 68, 69, 70, 71, 72, 73, 74, 75, 76, 77, 78, 79, 80, 81, 82, 83, 84, 85, 86, 87, 88, 89, 90, 91, 92, 93, 94, 95, 96, 97, 98] (by decide +kernel) (by decide +kernel)
set_option maxHeartbeats 4000000 in
set_option maxRecDepth 100000 in
theorem k_X12_advance_3 (l : Launch) (dC : Nat → ClassId) (dI : Nat → Nat → Nat) (h701 : Nat) (g701 : Nat → Nat) (sz : Nat) : Met l yX12_advance w_k_X12_advance_3 { frames := 1, cells := 0, slots := 0, locals := 21 } (va_Pc [.ref h701] (vx_pre dC dI [(h701, .inr (12, ((fsM g701).set 23 (.int (-1))).set 25 (.int 3)))] [] sz)) (va_Qv (fun _ : Unit => True) (fun _ t => vx_B dC dI (va_A [(h701, .inr (12, ((fsM g701).set 23 (.int (-1))).set 25 (.int 3)))] sz) [(h701, .inr (12, ((fsM g701).set 23 (.int (-1))).set 25 (.int 3)))] [] t) (va_A [(h701, .inr (12, ((fsM g701).set 23 (.int (-1))).set 25 (.int 3)))] sz)) 0 0 (va_A [(h701, .inr (12, ((fsM g701).set 23 (.int (-1))).set 25 (.int 3)))] sz) := by
  refine Met.ofW (cc := cX12_advance) (maxL := 3) (ret := none) (by decide) rfl ?_
  intro p e s m args below meth c s₁ B hml hv
  obtain ⟨rfl, hsz, hP, hK, hD0, hN⟩ := hv
  have hx := B.exec
  have hb := B.bytes
  have hr := B.returns
  have hts := atoms_spec (ws := w_k_X12_advance_3) B.pre
  have hown : s.vm.findClass RX12 = some m.cls := findClass_of_methodNamed B.named
  have hlocks := B.notSynchronized
  subst hsz
  have hD := hD0.self (sz := s.heap.size)
  generalize hAe : va_A [(h701, .inr (12, ((fsM g701).set 23 (.int (-1))).set 25 (.int 3)))] s.heap.size = A at hD ⊢
  have hA : ∀ q : Nat, s.heap.size ≤ q → A q := fun q h => by rw [← hAe]; exact Or.inr h
  obtain ⟨H, hHe⟩ : ∃ H, H = s.heap := ⟨_, rfl⟩
  rw [← hHe] at hP ⊢
  have hS : va_S A s.heap H [] := by rw [hHe]; exact va_S.rf
  have hl := lv_entry [.ref h701] (n := 3) (Nat.le_of_ble_eq_true rfl)
  rw [lg_entry_eq]
  generalize (lg_sl [.ref h701] ++ List.replicate (3 - (lg_sl [.ref h701]).length) Slot.unset).toArray = ls at hl ⊢
  have hl : lv_has ls 3 [(0, .ref h701)] := hl
  refine lv_aload_n hx hb dX12_advance_0 rfl (lv_at hl 0 rfl) ?_
  refine lv_aload_n hx hb dX12_advance_1 rfl (lv_at hl 0 rfl) ?_
  refine va_get (D := (dC, dI)) (ci := 12) (v := .int 0) (C := RX12) (T := TX12) (N := 87) hx hb hts in_k_X12_advance_3_12 hown hK hP 0 rfl rfl 20 (by decide) (hts (.fieldLink RX12 210 "LineKeeperModel" "next" "I") (List.mem_of_getElem? (i := 1) rfl)) (fun _ h9 => h9) rfl dX12_advance_2 ?_
  have hPc := hP.sub (ws' := [(h701, .inr (12, ((fsM g701).set 23 (.int (-1))).set 25 (.int 3)))]) [0] rfl
  have hDc := hD.sub (ws' := [(h701, .inr (12, ((fsM g701).set 23 (.int (-1))).set 25 (.int 3)))]) [0] (by decide) rfl
  have hKc := hK.sub (tys' := []) [] rfl
  have hFc := va_free (wc := [(h701, .inr (12, ((fsM g701).set 23 (.int (-1))).set 25 (.int 3)))]) hD hS hA [0] rfl
  refine va_calli (va_runV (As := [.int 0]) (rest := []) ⟨hx, hb, hml, hown, hts⟩ (k_X12_see_3 l dC dI h701 g701 H.size ) (cwV 1 hts g_k_X12_advance_3_k_X12_see_3_213 rfl rfl rfl (by decide +kernel) ⟨(Nat.le_of_ble_eq_true rfl), (Nat.le_of_ble_eq_true rfl)⟩) (vx_preV (ci := 12) (q0 := 0) hPc hKc hDc hN rfl rfl) rfl rfl hl.1 rfl (lv_room (Nat.le_of_ble_eq_true rfl)) dX12_advance_5 ⟨(Nat.le_of_ble_eq_true rfl), (Nat.le_of_ble_eq_true rfl)⟩) hS (fun q _ h => hFc q h) hFc (fun r1 u t H1 locs ht hvm hw hB hz1 hk1 hS => ?_)
  obtain ⟨hP1, hK1, hD1⟩ := hB
  rw [ht] at hP1
  obtain ⟨hP, hD⟩ := va_join (wr := []) (w1 := [(h701, .inr (12, ((fsM g701).set 23 (.int (-1))).set 25 (.int 3)))]) hP hD [0] [] rfl rfl (by decide) (by decide) hk1 hFc hP1 hD1
  generalize H1 = H at hP hS ⊢
  have hP : va_P (dC, dI) vwCl [(h701, .inr (12, ((fsM g701).set 23 (.int (-1))).set 25 (.int 3)))] H := hP
  have hD : va_D A [(h701, .inr (12, ((fsM g701).set 23 (.int (-1))).set 25 (.int 3)))] := hD
  refine W.widen (k := 0) (n := 0) (by decide) (by decide) ?_
  try dsimp only at hw
  subst hw
  refine lv_bipush (v := 10) hx hb dX12_advance_8 (by decide) ?_
  refine lv_icmp_eq (tgt := 26) hx hb dX12_advance_10 (by decide) (fun h => absurd h (by decide)) (fun _ => ?_)
  refine lv_aload_n hx hb dX12_advance_13 rfl (lv_at hl 0 rfl) ?_
  refine lv_aload_n hx hb dX12_advance_14 rfl (lv_at hl 0 rfl) ?_
  refine va_get (D := (dC, dI)) (ci := 12) (v := .int 0) (C := RX12) (T := TX12) (N := 87) hx hb hts in_k_X12_advance_3_12 hown hK hP 0 rfl rfl 20 (by decide) (hts (.fieldLink RX12 210 "LineKeeperModel" "next" "I") (List.mem_of_getElem? (i := 1) rfl)) (fun _ h9 => h9) rfl dX12_advance_15 ?_
  have hPc := hP.sub (ws' := [(h701, .inr (12, ((fsM g701).set 23 (.int (-1))).set 25 (.int 3)))]) [0] rfl
  have hDc := hD.sub (ws' := [(h701, .inr (12, ((fsM g701).set 23 (.int (-1))).set 25 (.int 3)))]) [0] (by decide) rfl
  have hKc := hK.sub (tys' := []) [] rfl
  have hFc := va_free (wc := [(h701, .inr (12, ((fsM g701).set 23 (.int (-1))).set 25 (.int 3)))]) hD hS hA [0] rfl
  refine va_calli (va_runV (As := [.int 0]) (rest := []) ⟨hx, hb, hml, hown, hts⟩ (k_X12_see_3 l dC dI h701 g701 H.size ) (cwV 1 hts g_k_X12_advance_3_k_X12_see_3_213 rfl rfl rfl (by decide +kernel) ⟨(Nat.le_of_ble_eq_true rfl), (Nat.le_of_ble_eq_true rfl)⟩) (vx_preV (ci := 12) (q0 := 0) hPc hKc hDc hN rfl rfl) rfl rfl hl.1 rfl (lv_room (Nat.le_of_ble_eq_true rfl)) dX12_advance_18 ⟨(Nat.le_of_ble_eq_true rfl), (Nat.le_of_ble_eq_true rfl)⟩) hS (fun q _ h => hFc q h) hFc (fun r2 u t H1 locs ht hvm hw hB hz1 hk1 hS => ?_)
  obtain ⟨hP1, hK1, hD1⟩ := hB
  rw [ht] at hP1
  obtain ⟨hP, hD⟩ := va_join (wr := []) (w1 := [(h701, .inr (12, ((fsM g701).set 23 (.int (-1))).set 25 (.int 3)))]) hP hD [0] [] rfl rfl (by decide) (by decide) hk1 hFc hP1 hD1
  generalize H1 = H at hP hS ⊢
  have hP : va_P (dC, dI) vwCl [(h701, .inr (12, ((fsM g701).set 23 (.int (-1))).set 25 (.int 3)))] H := hP
  have hD : va_D A [(h701, .inr (12, ((fsM g701).set 23 (.int (-1))).set 25 (.int 3)))] := hD
  refine W.widen (k := 0) (n := 0) (by decide) (by decide) ?_
  try dsimp only at hw
  subst hw
  refine lv_bipush (v := 32) hx hb dX12_advance_21 (by decide) ?_
  refine lv_icmp_ne (tgt := 39) hx hb dX12_advance_23 (by decide) (fun _ => ?_) (fun h => absurd h (by decide))
  refine lv_aload_n hx hb dX12_advance_39 rfl (lv_at hl 0 rfl) ?_
  refine lv_aload_n hx hb dX12_advance_40 rfl (lv_at hl 0 rfl) ?_
  refine va_get (D := (dC, dI)) (ci := 12) (v := .int 0) (C := RX12) (T := TX12) (N := 87) hx hb hts in_k_X12_advance_3_12 hown hK hP 0 rfl rfl 20 (by decide) (hts (.fieldLink RX12 210 "LineKeeperModel" "next" "I") (List.mem_of_getElem? (i := 1) rfl)) (fun _ h9 => h9) rfl dX12_advance_41 ?_
  refine va_put (D := (dC, dI)) (ci := 12) (v := .int 0) (ty := .int) (C := RX12) (T := TX12) (N := 87) hx hb hts in_k_X12_advance_3_12 tyX12 tyX12_ok nmX12 hown hK hP hD hS 0 rfl rfl 19 (by decide) (hts (.fieldLink RX12 216 "LineKeeperModel" "place" "I") (List.mem_of_getElem? (i := 8) rfl)) (fun _ h9 => h9) rfl (tyX12_ok 19 (by decide)) rfl rfl (Nat.le_of_ble_eq_true rfl) dX12_advance_44 (fun H locs hP hD hS => ?_)
  have hP : va_P (dC, dI) vwCl [(h701, .inr (12, ((fsM g701).set 23 (.int (-1))).set 25 (.int 3)))] H := hP
  have hD : va_D A [(h701, .inr (12, ((fsM g701).set 23 (.int (-1))).set 25 (.int 3)))] := hD
  refine lv_aload_n hx hb dX12_advance_47 rfl (lv_at hl 0 rfl) ?_
  refine lv_aload_n hx hb dX12_advance_48 rfl (lv_at hl 0 rfl) ?_
  refine va_get (D := (dC, dI)) (ci := 12) (v := .int 0) (C := RX12) (T := TX12) (N := 87) hx hb hts in_k_X12_advance_3_12 hown hK hP 0 rfl rfl 20 (by decide) (hts (.fieldLink RX12 210 "LineKeeperModel" "next" "I") (List.mem_of_getElem? (i := 1) rfl)) (fun _ h9 => h9) rfl dX12_advance_49 ?_
  have hPc := hP.sub (ws' := [(h701, .inr (12, ((fsM g701).set 23 (.int (-1))).set 25 (.int 3)))]) [0] rfl
  have hDc := hD.sub (ws' := [(h701, .inr (12, ((fsM g701).set 23 (.int (-1))).set 25 (.int 3)))]) [0] (by decide) rfl
  have hKc := hK.sub (tys' := []) [] rfl
  have hFc := va_free (wc := [(h701, .inr (12, ((fsM g701).set 23 (.int (-1))).set 25 (.int 3)))]) hD hS hA [0] rfl
  refine va_calli (va_runV (As := [.int 0]) (rest := []) ⟨hx, hb, hml, hown, hts⟩ (k_X12_see_3 l dC dI h701 g701 H.size ) (cwV 1 hts g_k_X12_advance_3_k_X12_see_3_213 rfl rfl rfl (by decide +kernel) ⟨(Nat.le_of_ble_eq_true rfl), (Nat.le_of_ble_eq_true rfl)⟩) (vx_preV (ci := 12) (q0 := 0) hPc hKc hDc hN rfl rfl) rfl rfl hl.1 rfl (lv_room (Nat.le_of_ble_eq_true rfl)) dX12_advance_52 ⟨(Nat.le_of_ble_eq_true rfl), (Nat.le_of_ble_eq_true rfl)⟩) hS (fun q _ h => hFc q h) hFc (fun r3 u t H1 locs ht hvm hw hB hz1 hk1 hS => ?_)
  obtain ⟨hP1, hK1, hD1⟩ := hB
  rw [ht] at hP1
  obtain ⟨hP, hD⟩ := va_join (wr := []) (w1 := [(h701, .inr (12, ((fsM g701).set 23 (.int (-1))).set 25 (.int 3)))]) hP hD [0] [] rfl rfl (by decide) (by decide) hk1 hFc hP1 hD1
  generalize H1 = H at hP hS ⊢
  have hP : va_P (dC, dI) vwCl [(h701, .inr (12, ((fsM g701).set 23 (.int (-1))).set 25 (.int 3)))] H := hP
  have hD : va_D A [(h701, .inr (12, ((fsM g701).set 23 (.int (-1))).set 25 (.int 3)))] := hD
  refine W.widen (k := 0) (n := 0) (by decide) (by decide) ?_
  try dsimp only at hw
  subst hw
  refine lv_istore_n (lv' := [(1, .int (-1)), (0, .ref h701)]) hx hb dX12_advance_55 rfl hl (by decide) rfl (fun ls hl => ?_)
  refine lv_aload_n hx hb dX12_advance_56 rfl (lv_at hl 1 rfl) ?_
  refine lv_lconst (v := 0) hx hb dX12_advance_57 (by decide) ?_
  refine va_put (D := (dC, dI)) (ci := 12) (v := .long 0) (ty := .long) (C := RX12) (T := TX12) (N := 87) hx hb hts in_k_X12_advance_3_12 tyX12 tyX12_ok nmX12 hown hK hP hD hS 0 rfl rfl 24 (by decide) (hts (.fieldLink RX12 219 "LineKeeperModel" "word" "J") (List.mem_of_getElem? (i := 9) rfl)) (fun _ h9 => h9) rfl (tyX12_ok 24 (by decide)) rfl rfl (Nat.le_of_ble_eq_true rfl) dX12_advance_58 (fun H locs hP hD hS => ?_)
  have hP : va_P (dC, dI) vwCl [(h701, .inr (12, ((fsM g701).set 23 (.int (-1))).set 25 (.int 3)))] H := hP
  have hD : va_D A [(h701, .inr (12, ((fsM g701).set 23 (.int (-1))).set 25 (.int 3)))] := hD
  refine lv_aload_n hx hb dX12_advance_61 rfl (lv_at hl 1 rfl) ?_
  refine lv_iload_n hx hb dX12_advance_62 rfl (lv_at hl 0 rfl) ?_
  refine va_put (D := (dC, dI)) (ci := 12) (v := .int (-1)) (ty := .int) (C := RX12) (T := TX12) (N := 87) hx hb hts in_k_X12_advance_3_12 tyX12 tyX12_ok nmX12 hown hK hP hD hS 0 rfl rfl 23 (by decide) (hts (.fieldLink RX12 223 "LineKeeperModel" "value" "I") (List.mem_of_getElem? (i := 10) rfl)) (fun _ h9 => h9) rfl (tyX12_ok 23 (by decide)) rfl rfl (Nat.le_of_ble_eq_true rfl) dX12_advance_63 (fun H locs hP hD hS => ?_)
  have hP : va_P (dC, dI) vwCl [(h701, .inr (12, ((fsM g701).set 23 (.int (-1))).set 25 (.int 3)))] H := hP
  have hD : va_D A [(h701, .inr (12, ((fsM g701).set 23 (.int (-1))).set 25 (.int 3)))] := hD
  refine lv_iload_n hx hb dX12_advance_66 rfl (lv_at hl 0 rfl) ?_
  refine lv_if_ge (tgt := 78) hx hb dX12_advance_67 (by decide) (fun h => absurd h (by decide)) (fun _ => ?_)
  refine lv_aload_n hx hb dX12_advance_70 rfl (lv_at hl 1 rfl) ?_
  refine lv_iconst (v := 0) hx hb dX12_advance_71 (by decide) ?_
  refine va_put (D := (dC, dI)) (ci := 12) (v := .int 0) (ty := .int) (C := RX12) (T := TX12) (N := 87) hx hb hts in_k_X12_advance_3_12 tyX12 tyX12_ok nmX12 hown hK hP hD hS 0 rfl rfl 22 (by decide) (hts (.fieldLink RX12 226 "LineKeeperModel" "sort" "I") (List.mem_of_getElem? (i := 11) rfl)) (fun _ h9 => h9) rfl (tyX12_ok 22 (by decide)) rfl rfl (Nat.le_of_ble_eq_true rfl) dX12_advance_72 (fun H locs hP hD hS => ?_)
  have hP : va_P (dC, dI) vwCl [(h701, .inr (12, ((fsM g701).set 23 (.int (-1))).set 25 (.int 3)))] H := hP
  have hD : va_D A [(h701, .inr (12, ((fsM g701).set 23 (.int (-1))).set 25 (.int 3)))] := hD
  refine lv_goto (tgt := 282) hx hb dX12_advance_75 (by decide) ?_
  have hP9 := hP.sub (ws' := [(h701, .inr (12, ((fsM g701).set 23 (.int (-1))).set 25 (.int 3)))]) [0] rfl
  have hD9 := hD.sub (ws' := [(h701, .inr (12, ((fsM g701).set 23 (.int (-1))).set 25 (.int 3)))]) [0] (by decide) rfl
  have hK9 := hK.sub (tys' := []) [] rfl
  exact W.vret hx hb hr (fun t ht hW => ⟨⟨(), rfl, trivial, by rw [ht]; exact hP9, va_K.moved hW.alike hK9, hD9⟩, hS.F ht⟩) hS.2.2 dX12_advance_282

def w_k_X12_goOver_3 : List Cond := .code yX12_goOver cX12_goOver 3 (some .boolean) :: ([.fieldLink RX12 255 "LineKeeperModel" "phase" "I", .fieldLink RX12 210 "LineKeeperModel" "next" "I", .fieldLink RX12 268 "LineKeeperModel" "routine" "I", .fieldLink RX12 343 "LineKeeperModel" "line" "I", .fieldLink RX12 304 "LineKeeperModel" "openE" "I", .fieldLink RX12 333 "LineKeeperModel" "openBlocks" "I", .fieldLink RX12 69 "LineKeeperModel" "newFirst" "[I", .fieldLink RX12 207 "LineKeeperModel" "length" "I", .code yX12_see cX12_see 2 (some .int), .initialized RX12, .methodLink RX12 213 yX12_see, .instanceMethod yX12_see, .selects RX12 yX12_see yX12_see, .fieldLink RX12 216 "LineKeeperModel" "place" "I", .fieldLink RX12 219 "LineKeeperModel" "word" "J", .fieldLink RX12 223 "LineKeeperModel" "value" "I", .fieldLink RX12 226 "LineKeeperModel" "sort" "I", .code yX12_advance cX12_advance 3 none, .methodLink RX12 265 yX12_advance, .instanceMethod yX12_advance, .selects RX12 yX12_advance yX12_advance] ++ wsX120)
theorem in_k_X12_goOver_3_12 : ∀ w ∈ wsX120, w ∈ w_k_X12_goOver_3 := fun _ h => List.mem_cons_of_mem _ (List.mem_append_right _ h)
set_option maxRecDepth 100000 in
theorem g_k_X12_goOver_3_k_X12_advance_3_265 : GoodIn w_k_X12_goOver_3 (wsV RX12 265 RX12 yX12_advance w_k_X12_advance_3) := goodIn_r _ [19, 20, 21, 10, 18, 2, 8, 9, 10, 11, 12, 13, 14, 15, 16, 17, 22, 23, 24, 25, 26, 27, 28, 29, 30, 31, 32, 33, 34, 35, 36, 37, 38, 39, 40, 41, 42, 43, 44, 45, 46, 47, 48, 49, 50, 51, 52, 53, 54, 55, 56, 57, 58, 59, 60, 61, 62, 63, 64, 65, 66, 67, 68, 69, 70, 71, 72, 73, 74, 75, 76, 77, 78, 79, 80, 81, 82, 83, 84, 85, 86, 87, 88, 89, 90, 91, 92, 93, 94, 95, 96, 97, 98, 99, 100, 101, 102, 103, 104, 105, 106, 107, 108] (by decide +kernel) (by decide +kernel)
set_option maxHeartbeats 4000000 in
set_option maxRecDepth 100000 in
theorem k_X12_goOver_3 (l : Launch) (dC : Nat → ClassId) (dI : Nat → Nat → Nat) (h701 : Nat) (g701 : Nat → Nat) (cA701 : ClassId) (f701 : Nat → Int32) (cA702 : ClassId) (f702 : Nat → Int32) (cA703 : ClassId) (f703 : Nat → Int32) (sz : Nat) : Met l yX12_goOver w_k_X12_goOver_3 { frames := 2, cells := 0, slots := 0, locals := 43 } (va_Pc [.ref h701, .int 3] (vx_pre dC dI [(h701, .inr (12, ((fsM g701).set 23 (.int (-1))).set 25 (.int 2))), ((g701 35), .inl (cA701, 6, .inl f701)), ((g701 36), .inl (cA702, 6, .inl f702)), ((g701 37), .inl (cA703, 6, .inl f703))] [(cA701, .int), (cA702, .int), (cA703, .int)] sz)) (va_Qi (fun (r : Int32) (_ : Unit) => r = 1) (fun _ t => ∃ (f901 : Nat → Int32), vx_B dC dI (va_A [(h701, .inr (12, ((fsM g701).set 23 (.int (-1))).set 25 (.int 2))), ((g701 35), .inl (cA701, 6, .inl f701)), ((g701 36), .inl (cA702, 6, .inl f702)), ((g701 37), .inl (cA703, 6, .inl f703))] sz) [(h701, .inr (12, ((fsM g701).set 23 (.int (-1))).set 25 (.int 3))), ((g701 35), .inl (cA701, 6, .inl f701)), ((g701 36), .inl (cA702, 6, .inl f702)), ((g701 37), .inl (cA703, 6, .inl f901))] [(cA701, .int), (cA702, .int), (cA703, .int)] t) (va_A [(h701, .inr (12, ((fsM g701).set 23 (.int (-1))).set 25 (.int 2))), ((g701 35), .inl (cA701, 6, .inl f701)), ((g701 36), .inl (cA702, 6, .inl f702)), ((g701 37), .inl (cA703, 6, .inl f703))] sz)) 0 0 (va_A [(h701, .inr (12, ((fsM g701).set 23 (.int (-1))).set 25 (.int 2))), ((g701 35), .inl (cA701, 6, .inl f701)), ((g701 36), .inl (cA702, 6, .inl f702)), ((g701 37), .inl (cA703, 6, .inl f703))] sz) := by
  refine Met.ofW (cc := cX12_goOver) (maxL := 3) (ret := (some .boolean)) (by decide) rfl ?_
  intro p e s m args below meth c s₁ B hml hv
  obtain ⟨rfl, hsz, hP, hK, hD0, hN⟩ := hv
  have hx := B.exec
  have hb := B.bytes
  have hr := B.returns
  have hts := atoms_spec (ws := w_k_X12_goOver_3) B.pre
  have hown : s.vm.findClass RX12 = some m.cls := findClass_of_methodNamed B.named
  have hlocks := B.notSynchronized
  subst hsz
  have hD := hD0.self (sz := s.heap.size)
  generalize hAe : va_A [(h701, .inr (12, ((fsM g701).set 23 (.int (-1))).set 25 (.int 2))), ((g701 35), .inl (cA701, 6, .inl f701)), ((g701 36), .inl (cA702, 6, .inl f702)), ((g701 37), .inl (cA703, 6, .inl f703))] s.heap.size = A at hD ⊢
  have hA : ∀ q : Nat, s.heap.size ≤ q → A q := fun q h => by rw [← hAe]; exact Or.inr h
  obtain ⟨H, hHe⟩ : ∃ H, H = s.heap := ⟨_, rfl⟩
  rw [← hHe] at hP ⊢
  have hS : va_S A s.heap H [] := by rw [hHe]; exact va_S.rf
  have hl := lv_entry [.ref h701, .int 3] (n := 3) (Nat.le_of_ble_eq_true rfl)
  rw [lg_entry_eq]
  generalize (lg_sl [.ref h701, .int 3] ++ List.replicate (3 - (lg_sl [.ref h701, .int 3]).length) Slot.unset).toArray = ls at hl ⊢
  have hl : lv_has ls 3 [(0, .ref h701), (1, .int 3)] := hl
  refine lv_aload_n hx hb dX12_goOver_0 rfl (lv_at hl 0 rfl) ?_
  refine lv_iload_n hx hb dX12_goOver_1 rfl (lv_at hl 1 rfl) ?_
  refine va_put (D := (dC, dI)) (ci := 12) (v := .int 3) (ty := .int) (C := RX12) (T := TX12) (N := 87) hx hb hts in_k_X12_goOver_3_12 tyX12 tyX12_ok nmX12 hown hK hP hD hS 0 rfl rfl 25 (by decide) (hts (.fieldLink RX12 255 "LineKeeperModel" "phase" "I") (List.mem_of_getElem? (i := 1) rfl)) (fun _ h9 => h9) rfl (tyX12_ok 25 (by decide)) rfl rfl (Nat.le_of_ble_eq_true rfl) dX12_goOver_2 (fun H locs hP hD hS => ?_)
  have hP : va_P (dC, dI) vwCl [(h701, .inr (12, ((fsM g701).set 23 (.int (-1))).set 25 (.int 3))), ((g701 35), .inl (cA701, 6, .inl f701)), ((g701 36), .inl (cA702, 6, .inl f702)), ((g701 37), .inl (cA703, 6, .inl f703))] H := hP
  have hD : va_D A [(h701, .inr (12, ((fsM g701).set 23 (.int (-1))).set 25 (.int 3))), ((g701 35), .inl (cA701, 6, .inl f701)), ((g701 36), .inl (cA702, 6, .inl f702)), ((g701 37), .inl (cA703, 6, .inl f703))] := hD
  refine lv_aload_n hx hb dX12_goOver_5 rfl (lv_at hl 0 rfl) ?_
  refine lv_iconst (v := 0) hx hb dX12_goOver_6 (by decide) ?_
  refine va_put (D := (dC, dI)) (ci := 12) (v := .int 0) (ty := .int) (C := RX12) (T := TX12) (N := 87) hx hb hts in_k_X12_goOver_3_12 tyX12 tyX12_ok nmX12 hown hK hP hD hS 0 rfl rfl 20 (by decide) (hts (.fieldLink RX12 210 "LineKeeperModel" "next" "I") (List.mem_of_getElem? (i := 2) rfl)) (fun _ h9 => h9) rfl (tyX12_ok 20 (by decide)) rfl rfl (Nat.le_of_ble_eq_true rfl) dX12_goOver_7 (fun H locs hP hD hS => ?_)
  have hP : va_P (dC, dI) vwCl [(h701, .inr (12, ((fsM g701).set 23 (.int (-1))).set 25 (.int 3))), ((g701 35), .inl (cA701, 6, .inl f701)), ((g701 36), .inl (cA702, 6, .inl f702)), ((g701 37), .inl (cA703, 6, .inl f703))] H := hP
  have hD : va_D A [(h701, .inr (12, ((fsM g701).set 23 (.int (-1))).set 25 (.int 3))), ((g701 35), .inl (cA701, 6, .inl f701)), ((g701 36), .inl (cA702, 6, .inl f702)), ((g701 37), .inl (cA703, 6, .inl f703))] := hD
  refine lv_aload_n hx hb dX12_goOver_10 rfl (lv_at hl 0 rfl) ?_
  refine lv_iconst (v := 0) hx hb dX12_goOver_11 (by decide) ?_
  refine va_put (D := (dC, dI)) (ci := 12) (v := .int 0) (ty := .int) (C := RX12) (T := TX12) (N := 87) hx hb hts in_k_X12_goOver_3_12 tyX12 tyX12_ok nmX12 hown hK hP hD hS 0 rfl rfl 30 (by decide) (hts (.fieldLink RX12 268 "LineKeeperModel" "routine" "I") (List.mem_of_getElem? (i := 3) rfl)) (fun _ h9 => h9) rfl (tyX12_ok 30 (by decide)) rfl rfl (Nat.le_of_ble_eq_true rfl) dX12_goOver_12 (fun H locs hP hD hS => ?_)
  have hP : va_P (dC, dI) vwCl [(h701, .inr (12, ((fsM g701).set 23 (.int (-1))).set 25 (.int 3))), ((g701 35), .inl (cA701, 6, .inl f701)), ((g701 36), .inl (cA702, 6, .inl f702)), ((g701 37), .inl (cA703, 6, .inl f703))] H := hP
  have hD : va_D A [(h701, .inr (12, ((fsM g701).set 23 (.int (-1))).set 25 (.int 3))), ((g701 35), .inl (cA701, 6, .inl f701)), ((g701 36), .inl (cA702, 6, .inl f702)), ((g701 37), .inl (cA703, 6, .inl f703))] := hD
  refine lv_aload_n hx hb dX12_goOver_15 rfl (lv_at hl 0 rfl) ?_
  refine lv_iconst (v := 0) hx hb dX12_goOver_16 (by decide) ?_
  refine va_put (D := (dC, dI)) (ci := 12) (v := .int 0) (ty := .int) (C := RX12) (T := TX12) (N := 87) hx hb hts in_k_X12_goOver_3_12 tyX12 tyX12_ok nmX12 hown hK hP hD hS 0 rfl rfl 31 (by decide) (hts (.fieldLink RX12 343 "LineKeeperModel" "line" "I") (List.mem_of_getElem? (i := 4) rfl)) (fun _ h9 => h9) rfl (tyX12_ok 31 (by decide)) rfl rfl (Nat.le_of_ble_eq_true rfl) dX12_goOver_17 (fun H locs hP hD hS => ?_)
  have hP : va_P (dC, dI) vwCl [(h701, .inr (12, ((fsM g701).set 23 (.int (-1))).set 25 (.int 3))), ((g701 35), .inl (cA701, 6, .inl f701)), ((g701 36), .inl (cA702, 6, .inl f702)), ((g701 37), .inl (cA703, 6, .inl f703))] H := hP
  have hD : va_D A [(h701, .inr (12, ((fsM g701).set 23 (.int (-1))).set 25 (.int 3))), ((g701 35), .inl (cA701, 6, .inl f701)), ((g701 36), .inl (cA702, 6, .inl f702)), ((g701 37), .inl (cA703, 6, .inl f703))] := hD
  refine lv_aload_n hx hb dX12_goOver_20 rfl (lv_at hl 0 rfl) ?_
  refine lv_iconst (v := 0) hx hb dX12_goOver_21 (by decide) ?_
  refine va_put (D := (dC, dI)) (ci := 12) (v := .int 0) (ty := .int) (C := RX12) (T := TX12) (N := 87) hx hb hts in_k_X12_goOver_3_12 tyX12 tyX12_ok nmX12 hown hK hP hD hS 0 rfl rfl 28 (by decide) (hts (.fieldLink RX12 304 "LineKeeperModel" "openE" "I") (List.mem_of_getElem? (i := 5) rfl)) (fun _ h9 => h9) rfl (tyX12_ok 28 (by decide)) rfl rfl (Nat.le_of_ble_eq_true rfl) dX12_goOver_22 (fun H locs hP hD hS => ?_)
  have hP : va_P (dC, dI) vwCl [(h701, .inr (12, ((fsM g701).set 23 (.int (-1))).set 25 (.int 3))), ((g701 35), .inl (cA701, 6, .inl f701)), ((g701 36), .inl (cA702, 6, .inl f702)), ((g701 37), .inl (cA703, 6, .inl f703))] H := hP
  have hD : va_D A [(h701, .inr (12, ((fsM g701).set 23 (.int (-1))).set 25 (.int 3))), ((g701 35), .inl (cA701, 6, .inl f701)), ((g701 36), .inl (cA702, 6, .inl f702)), ((g701 37), .inl (cA703, 6, .inl f703))] := hD
  refine lv_aload_n hx hb dX12_goOver_25 rfl (lv_at hl 0 rfl) ?_
  refine lv_iconst (v := 0) hx hb dX12_goOver_26 (by decide) ?_
  refine va_put (D := (dC, dI)) (ci := 12) (v := .int 0) (ty := .int) (C := RX12) (T := TX12) (N := 87) hx hb hts in_k_X12_goOver_3_12 tyX12 tyX12_ok nmX12 hown hK hP hD hS 0 rfl rfl 29 (by decide) (hts (.fieldLink RX12 333 "LineKeeperModel" "openBlocks" "I") (List.mem_of_getElem? (i := 6) rfl)) (fun _ h9 => h9) rfl (tyX12_ok 29 (by decide)) rfl rfl (Nat.le_of_ble_eq_true rfl) dX12_goOver_27 (fun H locs hP hD hS => ?_)
  have hP : va_P (dC, dI) vwCl [(h701, .inr (12, ((fsM g701).set 23 (.int (-1))).set 25 (.int 3))), ((g701 35), .inl (cA701, 6, .inl f701)), ((g701 36), .inl (cA702, 6, .inl f702)), ((g701 37), .inl (cA703, 6, .inl f703))] H := hP
  have hD : va_D A [(h701, .inr (12, ((fsM g701).set 23 (.int (-1))).set 25 (.int 3))), ((g701 35), .inl (cA701, 6, .inl f701)), ((g701 36), .inl (cA702, 6, .inl f702)), ((g701 37), .inl (cA703, 6, .inl f703))] := hD
  refine lv_iload_n hx hb dX12_goOver_30 rfl (lv_at hl 1 rfl) ?_
  refine lv_iconst (v := 1) hx hb dX12_goOver_31 (by decide) ?_
  refine lv_icmp_ne (tgt := 68) hx hb dX12_goOver_32 (by decide) (fun _ => ?_) (fun h => absurd h (by decide))
  refine lv_iconst (v := 0) hx hb dX12_goOver_68 (by decide) ?_
  refine lv_istore_n (lv' := [(2, .int 0), (0, .ref h701), (1, .int 3)]) hx hb dX12_goOver_69 rfl hl (by decide) rfl (fun ls hl => ?_)
  refine lv_iload_n hx hb dX12_goOver_70 rfl (lv_at hl 0 rfl) ?_
  refine lv_bipush (v := 6) hx hb dX12_goOver_71 (by decide) ?_
  refine lv_icmp_ge (tgt := 89) hx hb dX12_goOver_73 (by decide) (fun h => absurd h (by decide)) (fun _ => ?_)
  refine lv_aload_n hx hb dX12_goOver_76 rfl (lv_at hl 1 rfl) ?_
  refine va_get (D := (dC, dI)) (ci := 12) (v := .ref (g701 37)) (C := RX12) (T := TX12) (N := 87) hx hb hts in_k_X12_goOver_3_12 hown hK hP 0 rfl rfl 37 (by decide) (hts (.fieldLink RX12 69 "LineKeeperModel" "newFirst" "[I") (List.mem_of_getElem? (i := 7) rfl)) (fun _ h9 => h9) rfl dX12_goOver_77 ?_
  refine lv_iload_n hx hb dX12_goOver_80 rfl (lv_at hl 0 rfl) ?_
  refine lv_iconst (v := 0) hx hb dX12_goOver_81 (by decide) ?_
  refine va_iast hx hb hK hP hD hS 3 2 rfl rfl (vx_in (by decide)) dX12_goOver_82 (fun H locs hP hD hS => ?_)
  generalize (upd f703 (0 : Int32).toNatClampNeg 0) = f1 at hP hD
  have hP : va_P (dC, dI) vwCl [(h701, .inr (12, ((fsM g701).set 23 (.int (-1))).set 25 (.int 3))), ((g701 35), .inl (cA701, 6, .inl f701)), ((g701 36), .inl (cA702, 6, .inl f702)), ((g701 37), .inl (cA703, 6, .inl f1))] H := hP
  have hD : va_D A [(h701, .inr (12, ((fsM g701).set 23 (.int (-1))).set 25 (.int 3))), ((g701 35), .inl (cA701, 6, .inl f701)), ((g701 36), .inl (cA702, 6, .inl f702)), ((g701 37), .inl (cA703, 6, .inl f1))] := hD
  refine lv_iinc (v := 1) (lv' := [(2, .int 1), (0, .ref h701), (1, .int 3)]) hx hb dX12_goOver_83 hl (k := 0) rfl (by decide) (by decide) rfl (fun ls hl => ?_)
  refine lv_goto (tgt := 70) hx hb dX12_goOver_86 (by decide) ?_
  refine lv_iload_n hx hb dX12_goOver_70 rfl (lv_at hl 0 rfl) ?_
  refine lv_bipush (v := 6) hx hb dX12_goOver_71 (by decide) ?_
  refine lv_icmp_ge (tgt := 89) hx hb dX12_goOver_73 (by decide) (fun h => absurd h (by decide)) (fun _ => ?_)
  refine lv_aload_n hx hb dX12_goOver_76 rfl (lv_at hl 1 rfl) ?_
  refine va_get (D := (dC, dI)) (ci := 12) (v := .ref (g701 37)) (C := RX12) (T := TX12) (N := 87) hx hb hts in_k_X12_goOver_3_12 hown hK hP 0 rfl rfl 37 (by decide) (hts (.fieldLink RX12 69 "LineKeeperModel" "newFirst" "[I") (List.mem_of_getElem? (i := 7) rfl)) (fun _ h9 => h9) rfl dX12_goOver_77 ?_
  refine lv_iload_n hx hb dX12_goOver_80 rfl (lv_at hl 0 rfl) ?_
  refine lv_iconst (v := 0) hx hb dX12_goOver_81 (by decide) ?_
  refine va_iast hx hb hK hP hD hS 3 2 rfl rfl (vx_in (by decide)) dX12_goOver_82 (fun H locs hP hD hS => ?_)
  generalize (upd f1 (1 : Int32).toNatClampNeg 0) = f2 at hP hD
  have hP : va_P (dC, dI) vwCl [(h701, .inr (12, ((fsM g701).set 23 (.int (-1))).set 25 (.int 3))), ((g701 35), .inl (cA701, 6, .inl f701)), ((g701 36), .inl (cA702, 6, .inl f702)), ((g701 37), .inl (cA703, 6, .inl f2))] H := hP
  have hD : va_D A [(h701, .inr (12, ((fsM g701).set 23 (.int (-1))).set 25 (.int 3))), ((g701 35), .inl (cA701, 6, .inl f701)), ((g701 36), .inl (cA702, 6, .inl f702)), ((g701 37), .inl (cA703, 6, .inl f2))] := hD
  refine lv_iinc (v := 2) (lv' := [(2, .int 2), (0, .ref h701), (1, .int 3)]) hx hb dX12_goOver_83 hl (k := 0) rfl (by decide) (by decide) rfl (fun ls hl => ?_)
  refine lv_goto (tgt := 70) hx hb dX12_goOver_86 (by decide) ?_
  refine lv_iload_n hx hb dX12_goOver_70 rfl (lv_at hl 0 rfl) ?_
  refine lv_bipush (v := 6) hx hb dX12_goOver_71 (by decide) ?_
  refine lv_icmp_ge (tgt := 89) hx hb dX12_goOver_73 (by decide) (fun h => absurd h (by decide)) (fun _ => ?_)
  refine lv_aload_n hx hb dX12_goOver_76 rfl (lv_at hl 1 rfl) ?_
  refine va_get (D := (dC, dI)) (ci := 12) (v := .ref (g701 37)) (C := RX12) (T := TX12) (N := 87) hx hb hts in_k_X12_goOver_3_12 hown hK hP 0 rfl rfl 37 (by decide) (hts (.fieldLink RX12 69 "LineKeeperModel" "newFirst" "[I") (List.mem_of_getElem? (i := 7) rfl)) (fun _ h9 => h9) rfl dX12_goOver_77 ?_
  refine lv_iload_n hx hb dX12_goOver_80 rfl (lv_at hl 0 rfl) ?_
  refine lv_iconst (v := 0) hx hb dX12_goOver_81 (by decide) ?_
  refine va_iast hx hb hK hP hD hS 3 2 rfl rfl (vx_in (by decide)) dX12_goOver_82 (fun H locs hP hD hS => ?_)
  generalize (upd f2 (2 : Int32).toNatClampNeg 0) = f3 at hP hD
  have hP : va_P (dC, dI) vwCl [(h701, .inr (12, ((fsM g701).set 23 (.int (-1))).set 25 (.int 3))), ((g701 35), .inl (cA701, 6, .inl f701)), ((g701 36), .inl (cA702, 6, .inl f702)), ((g701 37), .inl (cA703, 6, .inl f3))] H := hP
  have hD : va_D A [(h701, .inr (12, ((fsM g701).set 23 (.int (-1))).set 25 (.int 3))), ((g701 35), .inl (cA701, 6, .inl f701)), ((g701 36), .inl (cA702, 6, .inl f702)), ((g701 37), .inl (cA703, 6, .inl f3))] := hD
  refine lv_iinc (v := 3) (lv' := [(2, .int 3), (0, .ref h701), (1, .int 3)]) hx hb dX12_goOver_83 hl (k := 0) rfl (by decide) (by decide) rfl (fun ls hl => ?_)
  refine lv_goto (tgt := 70) hx hb dX12_goOver_86 (by decide) ?_
  refine lv_iload_n hx hb dX12_goOver_70 rfl (lv_at hl 0 rfl) ?_
  refine lv_bipush (v := 6) hx hb dX12_goOver_71 (by decide) ?_
  refine lv_icmp_ge (tgt := 89) hx hb dX12_goOver_73 (by decide) (fun h => absurd h (by decide)) (fun _ => ?_)
  refine lv_aload_n hx hb dX12_goOver_76 rfl (lv_at hl 1 rfl) ?_
  refine va_get (D := (dC, dI)) (ci := 12) (v := .ref (g701 37)) (C := RX12) (T := TX12) (N := 87) hx hb hts in_k_X12_goOver_3_12 hown hK hP 0 rfl rfl 37 (by decide) (hts (.fieldLink RX12 69 "LineKeeperModel" "newFirst" "[I") (List.mem_of_getElem? (i := 7) rfl)) (fun _ h9 => h9) rfl dX12_goOver_77 ?_
  refine lv_iload_n hx hb dX12_goOver_80 rfl (lv_at hl 0 rfl) ?_
  refine lv_iconst (v := 0) hx hb dX12_goOver_81 (by decide) ?_
  refine va_iast hx hb hK hP hD hS 3 2 rfl rfl (vx_in (by decide)) dX12_goOver_82 (fun H locs hP hD hS => ?_)
  generalize (upd f3 (3 : Int32).toNatClampNeg 0) = f4 at hP hD
  have hP : va_P (dC, dI) vwCl [(h701, .inr (12, ((fsM g701).set 23 (.int (-1))).set 25 (.int 3))), ((g701 35), .inl (cA701, 6, .inl f701)), ((g701 36), .inl (cA702, 6, .inl f702)), ((g701 37), .inl (cA703, 6, .inl f4))] H := hP
  have hD : va_D A [(h701, .inr (12, ((fsM g701).set 23 (.int (-1))).set 25 (.int 3))), ((g701 35), .inl (cA701, 6, .inl f701)), ((g701 36), .inl (cA702, 6, .inl f702)), ((g701 37), .inl (cA703, 6, .inl f4))] := hD
  refine lv_iinc (v := 4) (lv' := [(2, .int 4), (0, .ref h701), (1, .int 3)]) hx hb dX12_goOver_83 hl (k := 0) rfl (by decide) (by decide) rfl (fun ls hl => ?_)
  refine lv_goto (tgt := 70) hx hb dX12_goOver_86 (by decide) ?_
  refine lv_iload_n hx hb dX12_goOver_70 rfl (lv_at hl 0 rfl) ?_
  refine lv_bipush (v := 6) hx hb dX12_goOver_71 (by decide) ?_
  refine lv_icmp_ge (tgt := 89) hx hb dX12_goOver_73 (by decide) (fun h => absurd h (by decide)) (fun _ => ?_)
  refine lv_aload_n hx hb dX12_goOver_76 rfl (lv_at hl 1 rfl) ?_
  refine va_get (D := (dC, dI)) (ci := 12) (v := .ref (g701 37)) (C := RX12) (T := TX12) (N := 87) hx hb hts in_k_X12_goOver_3_12 hown hK hP 0 rfl rfl 37 (by decide) (hts (.fieldLink RX12 69 "LineKeeperModel" "newFirst" "[I") (List.mem_of_getElem? (i := 7) rfl)) (fun _ h9 => h9) rfl dX12_goOver_77 ?_
  refine lv_iload_n hx hb dX12_goOver_80 rfl (lv_at hl 0 rfl) ?_
  refine lv_iconst (v := 0) hx hb dX12_goOver_81 (by decide) ?_
  refine va_iast hx hb hK hP hD hS 3 2 rfl rfl (vx_in (by decide)) dX12_goOver_82 (fun H locs hP hD hS => ?_)
  generalize (upd f4 (4 : Int32).toNatClampNeg 0) = f5 at hP hD
  have hP : va_P (dC, dI) vwCl [(h701, .inr (12, ((fsM g701).set 23 (.int (-1))).set 25 (.int 3))), ((g701 35), .inl (cA701, 6, .inl f701)), ((g701 36), .inl (cA702, 6, .inl f702)), ((g701 37), .inl (cA703, 6, .inl f5))] H := hP
  have hD : va_D A [(h701, .inr (12, ((fsM g701).set 23 (.int (-1))).set 25 (.int 3))), ((g701 35), .inl (cA701, 6, .inl f701)), ((g701 36), .inl (cA702, 6, .inl f702)), ((g701 37), .inl (cA703, 6, .inl f5))] := hD
  refine lv_iinc (v := 5) (lv' := [(2, .int 5), (0, .ref h701), (1, .int 3)]) hx hb dX12_goOver_83 hl (k := 0) rfl (by decide) (by decide) rfl (fun ls hl => ?_)
  refine lv_goto (tgt := 70) hx hb dX12_goOver_86 (by decide) ?_
  refine lv_iload_n hx hb dX12_goOver_70 rfl (lv_at hl 0 rfl) ?_
  refine lv_bipush (v := 6) hx hb dX12_goOver_71 (by decide) ?_
  refine lv_icmp_ge (tgt := 89) hx hb dX12_goOver_73 (by decide) (fun h => absurd h (by decide)) (fun _ => ?_)
  refine lv_aload_n hx hb dX12_goOver_76 rfl (lv_at hl 1 rfl) ?_
  refine va_get (D := (dC, dI)) (ci := 12) (v := .ref (g701 37)) (C := RX12) (T := TX12) (N := 87) hx hb hts in_k_X12_goOver_3_12 hown hK hP 0 rfl rfl 37 (by decide) (hts (.fieldLink RX12 69 "LineKeeperModel" "newFirst" "[I") (List.mem_of_getElem? (i := 7) rfl)) (fun _ h9 => h9) rfl dX12_goOver_77 ?_
  refine lv_iload_n hx hb dX12_goOver_80 rfl (lv_at hl 0 rfl) ?_
  refine lv_iconst (v := 0) hx hb dX12_goOver_81 (by decide) ?_
  refine va_iast hx hb hK hP hD hS 3 2 rfl rfl (vx_in (by decide)) dX12_goOver_82 (fun H locs hP hD hS => ?_)
  generalize (upd f5 (5 : Int32).toNatClampNeg 0) = f6 at hP hD
  have hP : va_P (dC, dI) vwCl [(h701, .inr (12, ((fsM g701).set 23 (.int (-1))).set 25 (.int 3))), ((g701 35), .inl (cA701, 6, .inl f701)), ((g701 36), .inl (cA702, 6, .inl f702)), ((g701 37), .inl (cA703, 6, .inl f6))] H := hP
  have hD : va_D A [(h701, .inr (12, ((fsM g701).set 23 (.int (-1))).set 25 (.int 3))), ((g701 35), .inl (cA701, 6, .inl f701)), ((g701 36), .inl (cA702, 6, .inl f702)), ((g701 37), .inl (cA703, 6, .inl f6))] := hD
  refine lv_iinc (v := 6) (lv' := [(2, .int 6), (0, .ref h701), (1, .int 3)]) hx hb dX12_goOver_83 hl (k := 0) rfl (by decide) (by decide) rfl (fun ls hl => ?_)
  refine lv_goto (tgt := 70) hx hb dX12_goOver_86 (by decide) ?_
  refine lv_iload_n hx hb dX12_goOver_70 rfl (lv_at hl 0 rfl) ?_
  refine lv_bipush (v := 6) hx hb dX12_goOver_71 (by decide) ?_
  refine lv_icmp_ge (tgt := 89) hx hb dX12_goOver_73 (by decide) (fun _ => ?_) (fun h => absurd (by decide) h)
  refine lv_aload_n hx hb dX12_goOver_89 rfl (lv_at hl 1 rfl) ?_
  have hPc := hP.sub (ws' := [(h701, .inr (12, ((fsM g701).set 23 (.int (-1))).set 25 (.int 3)))]) [0] rfl
  have hDc := hD.sub (ws' := [(h701, .inr (12, ((fsM g701).set 23 (.int (-1))).set 25 (.int 3)))]) [0] (by decide) rfl
  have hKc := hK.sub (tys' := []) [] rfl
  have hFc := va_free (wc := [(h701, .inr (12, ((fsM g701).set 23 (.int (-1))).set 25 (.int 3)))]) hD hS hA [0] rfl
  refine va_callv (va_runV (As := []) (rest := []) ⟨hx, hb, hml, hown, hts⟩ (k_X12_advance_3 l dC dI h701 g701 H.size ) (cwV 0 hts g_k_X12_goOver_3_k_X12_advance_3_265 rfl rfl rfl (by decide +kernel) ⟨(Nat.le_of_ble_eq_true rfl), (Nat.le_of_ble_eq_true rfl)⟩) (vx_preV (ci := 12) (q0 := 0) hPc hKc hDc hN rfl rfl) rfl rfl hl.1 rfl (lv_room (Nat.le_of_ble_eq_true rfl)) dX12_goOver_90 ⟨(Nat.le_of_ble_eq_true rfl), (Nat.le_of_ble_eq_true rfl)⟩) hS (fun q _ h => hFc q h) hFc (fun u t H1 locs ht hvm hw hB hz1 hk1 hS => ?_)
  obtain ⟨hP1, hK1, hD1⟩ := hB
  rw [ht] at hP1
  obtain ⟨hP, hD⟩ := va_join (wr := [((g701 35), .inl (cA701, 6, .inl f701)), ((g701 36), .inl (cA702, 6, .inl f702)), ((g701 37), .inl (cA703, 6, .inl f6))]) (w1 := [(h701, .inr (12, ((fsM g701).set 23 (.int (-1))).set 25 (.int 3)))]) hP hD [0] [1, 2, 3] rfl rfl (by decide) (by decide) hk1 hFc hP1 hD1
  generalize H1 = H at hP hS ⊢
  have hP : va_P (dC, dI) vwCl [((g701 35), .inl (cA701, 6, .inl f701)), ((g701 36), .inl (cA702, 6, .inl f702)), ((g701 37), .inl (cA703, 6, .inl f6)), (h701, .inr (12, ((fsM g701).set 23 (.int (-1))).set 25 (.int 3)))] H := hP
  have hD : va_D A [((g701 35), .inl (cA701, 6, .inl f701)), ((g701 36), .inl (cA702, 6, .inl f702)), ((g701 37), .inl (cA703, 6, .inl f6)), (h701, .inr (12, ((fsM g701).set 23 (.int (-1))).set 25 (.int 3)))] := hD
  refine W.widen (k := 0) (n := 0) (by decide) (by decide) ?_
  refine lv_aload_n hx hb dX12_goOver_93 rfl (lv_at hl 1 rfl) ?_
  refine va_get (D := (dC, dI)) (ci := 12) (v := .int 0) (C := RX12) (T := TX12) (N := 87) hx hb hts in_k_X12_goOver_3_12 hown hK hP 3 rfl rfl 22 (by decide) (hts (.fieldLink RX12 226 "LineKeeperModel" "sort" "I") (List.mem_of_getElem? (i := 17) rfl)) (fun _ h9 => h9) rfl dX12_goOver_94 ?_
  refine lv_if_eq (tgt := 109) hx hb dX12_goOver_97 (by decide) (fun _ => ?_) (fun h => absurd (by decide) h)
  refine lv_iconst (v := 1) hx hb dX12_goOver_109 (by decide) ?_
  have hP9 := hP.sub (ws' := [(h701, .inr (12, ((fsM g701).set 23 (.int (-1))).set 25 (.int 3))), ((g701 35), .inl (cA701, 6, .inl f701)), ((g701 36), .inl (cA702, 6, .inl f702)), ((g701 37), .inl (cA703, 6, .inl f6))]) [3, 0, 1, 2] rfl
  have hD9 := hD.sub (ws' := [(h701, .inr (12, ((fsM g701).set 23 (.int (-1))).set 25 (.int 3))), ((g701 35), .inl (cA701, 6, .inl f701)), ((g701 36), .inl (cA702, 6, .inl f702)), ((g701 37), .inl (cA703, 6, .inl f6))]) [3, 0, 1, 2] (by decide) rfl
  have hK9 := hK.sub (tys' := [(cA701, .int), (cA702, .int), (cA703, .int)]) [0, 1, 2] rfl
  exact W.zret (ty := .boolean) (v := 1) hx hb hr rfl (fun t ht hW => ⟨⟨1, (), rfl, rfl, f6, by rw [ht]; exact hP9, va_K.moved hW.alike hK9, hD9⟩, hS.F ht⟩) hS.2.2 dX12_goOver_110

def w_m_read : List Cond := .code yX12_read cX12_read 4 (some .int) :: ([.fieldLink RX12 185 "LineKeeperModel" "code" "I", .fieldLink RX12 382 "LineKeeperModel" "size" "I", .fieldLink RX12 207 "LineKeeperModel" "length" "I", .fieldLink RX12 252 "LineKeeperModel" "fault" "I", .fieldLink RX12 59 "LineKeeperModel" "faultPlace" "I", .fieldLink RX12 255 "LineKeeperModel" "phase" "I", .fieldLink RX12 210 "LineKeeperModel" "next" "I", .fieldLink RX12 268 "LineKeeperModel" "routine" "I", .fieldLink RX12 343 "LineKeeperModel" "line" "I", .fieldLink RX12 304 "LineKeeperModel" "openE" "I", .fieldLink RX12 333 "LineKeeperModel" "openBlocks" "I", .fieldLink RX12 69 "LineKeeperModel" "newFirst" "[I", .code yX12_see cX12_see 2 (some .int), .initialized RX12, .methodLink RX12 213 yX12_see, .instanceMethod yX12_see, .selects RX12 yX12_see yX12_see, .fieldLink RX12 216 "LineKeeperModel" "place" "I", .fieldLink RX12 219 "LineKeeperModel" "word" "J", .fieldLink RX12 223 "LineKeeperModel" "value" "I", .fieldLink RX12 226 "LineKeeperModel" "sort" "I", .code yX12_advance cX12_advance 3 none, .methodLink RX12 265 yX12_advance, .instanceMethod yX12_advance, .selects RX12 yX12_advance yX12_advance, .code yX12_goOver cX12_goOver 3 (some .boolean), .methodLink RX12 388 yX12_goOver, .instanceMethod yX12_goOver, .selects RX12 yX12_goOver yX12_goOver, .fieldLink RX12 376 "LineKeeperModel" "toldRoutines" "I", .fieldLink RX12 63 "LineKeeperModel" "newNames" "[I", .fieldLink RX12 66 "LineKeeperModel" "newParams" "[I", .fieldLink RX12 391 "LineKeeperModel" "routines" "I", .fieldLink RX12 95 "LineKeeperModel" "hasStates" "[Z", .fieldLink RX12 397 "LineKeeperModel" "started" "Z"] ++ wsX120)
theorem in_m_read_12 : ∀ w ∈ wsX120, w ∈ w_m_read := fun _ h => List.mem_cons_of_mem _ (List.mem_append_right _ h)
set_option maxRecDepth 100000 in
theorem g_m_read_k_X12_goOver_0_388 : GoodIn w_m_read (wsV RX12 388 RX12 yX12_goOver w_k_X12_goOver_0) := goodIn_r _ [27, 28, 29, 14, 26, 6, 7, 8, 9, 10, 11, 12, 3, 13, 14, 15, 16, 17, 18, 19, 20, 21, 22, 23, 24, 25, 36, 37, 38, 39, 40, 41, 42, 43, 44, 45, 46, 47, 48, 49, 50, 51, 52, 53, 54, 55, 56, 57, 58, 59, 60, 61, 62, 63, 64, 65, 66, 67, 68, 69, 70, 71, 72, 73, 74, 75, 76, 77, 78, 79, 80, 81, 82, 83, 84, 85, 86, 87, 88, 89, 90, 91, 92, 93, 94, 95, 96, 97, 98, 99, 100, 101, 102, 103, 104, 105, 106, 107, 108, 109, 110, 111, 112, 113, 114, 115, 116, 117, 118, 119, 120, 121, 122] (by decide +kernel) (by decide +kernel)
set_option maxRecDepth 100000 in
theorem g_m_read_k_X12_goOver_1_388 : GoodIn w_m_read (wsV RX12 388 RX12 yX12_goOver w_k_X12_goOver_1) := goodIn_r _ [27, 28, 29, 14, 26, 6, 7, 8, 9, 10, 11, 30, 31, 32, 12, 3, 13, 14, 15, 16, 17, 18, 19, 20, 21, 22, 23, 24, 25, 36, 37, 38, 39, 40, 41, 42, 43, 44, 45, 46, 47, 48, 49, 50, 51, 52, 53, 54, 55, 56, 57, 58, 59, 60, 61, 62, 63, 64, 65, 66, 67, 68, 69, 70, 71, 72, 73, 74, 75, 76, 77, 78, 79, 80, 81, 82, 83, 84, 85, 86, 87, 88, 89, 90, 91, 92, 93, 94, 95, 96, 97, 98, 99, 100, 101, 102, 103, 104, 105, 106, 107, 108, 109, 110, 111, 112, 113, 114, 115, 116, 117, 118, 119, 120, 121, 122] (by decide +kernel) (by decide +kernel)
set_option maxRecDepth 100000 in
theorem g_m_read_k_X12_goOver_2_388 : GoodIn w_m_read (wsV RX12 388 RX12 yX12_goOver w_k_X12_goOver_2) := goodIn_r _ [27, 28, 29, 14, 26, 6, 7, 8, 9, 10, 11, 12, 3, 13, 14, 15, 16, 17, 18, 19, 20, 21, 22, 23, 24, 25, 36, 37, 38, 39, 40, 41, 42, 43, 44, 45, 46, 47, 48, 49, 50, 51, 52, 53, 54, 55, 56, 57, 58, 59, 60, 61, 62, 63, 64, 65, 66, 67, 68, 69, 70, 71, 72, 73, 74, 75, 76, 77, 78, 79, 80, 81, 82, 83, 84, 85, 86, 87, 88, 89, 90, 91, 92, 93, 94, 95, 96, 97, 98, 99, 100, 101, 102, 103, 104, 105, 106, 107, 108, 109, 110, 111, 112, 113, 114, 115, 116, 117, 118, 119, 120, 121, 122] (by decide +kernel) (by decide +kernel)
set_option maxRecDepth 100000 in
theorem g_m_read_k_X12_goOver_3_388 : GoodIn w_m_read (wsV RX12 388 RX12 yX12_goOver w_k_X12_goOver_3) := goodIn_r _ [27, 28, 29, 14, 26, 6, 7, 8, 9, 10, 11, 12, 3, 13, 14, 15, 16, 17, 18, 19, 20, 21, 22, 23, 24, 25, 36, 37, 38, 39, 40, 41, 42, 43, 44, 45, 46, 47, 48, 49, 50, 51, 52, 53, 54, 55, 56, 57, 58, 59, 60, 61, 62, 63, 64, 65, 66, 67, 68, 69, 70, 71, 72, 73, 74, 75, 76, 77, 78, 79, 80, 81, 82, 83, 84, 85, 86, 87, 88, 89, 90, 91, 92, 93, 94, 95, 96, 97, 98, 99, 100, 101, 102, 103, 104, 105, 106, 107, 108, 109, 110, 111, 112, 113, 114, 115, 116, 117, 118, 119, 120, 121, 122] (by decide +kernel) (by decide +kernel)
set_option maxHeartbeats 4000000 in
set_option maxRecDepth 100000 in
theorem m_read (l : Launch) (dC : Nat → ClassId) (dI : Nat → Nat → Nat) (h0 : Nat) (g : Nat → Nat) (cA802 : ClassId) (cA803 : ClassId) (cA804 : ClassId) (cA805 : ClassId) (f802 : Nat → Int32) (f803 : Nat → Int32) (f804 : Nat → Int32) (f805 : Nat → Int32) (sz : Nat) : Met l yX12_read w_m_read { frames := 3, cells := 0, slots := 0, locals := 65 } (va_Pc [.ref h0] (vx_pre dC dI [(h0, .inr (12, fsM g)), ((g 35), .inl (cA802, 6, .inl f802)), ((g 36), .inl (cA803, 6, .inl f803)), ((g 37), .inl (cA804, 6, .inl f804)), ((g 48), .inl (cA805, 6, .inl f805))] [(cA802, .int), (cA803, .int), (cA804, .int), (cA805, .boolean)] sz)) (va_Qi (fun (r : Int32) (_ : Unit) => r = 0) (fun _ t => vx_B dC dI (va_A [(h0, .inr (12, fsM g)), ((g 35), .inl (cA802, 6, .inl f802)), ((g 36), .inl (cA803, 6, .inl f803)), ((g 37), .inl (cA804, 6, .inl f804)), ((g 48), .inl (cA805, 6, .inl f805))] sz) [] [] t) (va_A [(h0, .inr (12, fsM g)), ((g 35), .inl (cA802, 6, .inl f802)), ((g 36), .inl (cA803, 6, .inl f803)), ((g 37), .inl (cA804, 6, .inl f804)), ((g 48), .inl (cA805, 6, .inl f805))] sz)) 0 0 (va_A [(h0, .inr (12, fsM g)), ((g 35), .inl (cA802, 6, .inl f802)), ((g 36), .inl (cA803, 6, .inl f803)), ((g 37), .inl (cA804, 6, .inl f804)), ((g 48), .inl (cA805, 6, .inl f805))] sz) := by
  refine Met.ofW (cc := cX12_read) (maxL := 4) (ret := (some .int)) (by decide) rfl ?_
  intro p e s m args below meth c s₁ B hml hv
  obtain ⟨rfl, hsz, hP, hK, hD0, hN⟩ := hv
  have hx := B.exec
  have hb := B.bytes
  have hr := B.returns
  have hts := atoms_spec (ws := w_m_read) B.pre
  have hown : s.vm.findClass RX12 = some m.cls := findClass_of_methodNamed B.named
  have hlocks := B.notSynchronized
  subst hsz
  have hD := hD0.self (sz := s.heap.size)
  generalize hAe : va_A [(h0, .inr (12, fsM g)), ((g 35), .inl (cA802, 6, .inl f802)), ((g 36), .inl (cA803, 6, .inl f803)), ((g 37), .inl (cA804, 6, .inl f804)), ((g 48), .inl (cA805, 6, .inl f805))] s.heap.size = A at hD ⊢
  have hA : ∀ q : Nat, s.heap.size ≤ q → A q := fun q h => by rw [← hAe]; exact Or.inr h
  obtain ⟨H, hHe⟩ : ∃ H, H = s.heap := ⟨_, rfl⟩
  rw [← hHe] at hP ⊢
  have hS : va_S A s.heap H [] := by rw [hHe]; exact va_S.rf
  have hl := lv_entry [.ref h0] (n := 4) (Nat.le_of_ble_eq_true rfl)
  rw [lg_entry_eq]
  generalize (lg_sl [.ref h0] ++ List.replicate (4 - (lg_sl [.ref h0]).length) Slot.unset).toArray = ls at hl ⊢
  have hl : lv_has ls 4 [(0, .ref h0)] := hl
  refine lv_aload_n hx hb dX12_read_0 rfl (lv_at hl 0 rfl) ?_
  refine lv_iconst (v := 0) hx hb dX12_read_1 (by decide) ?_
  refine va_put (D := (dC, dI)) (ci := 12) (v := .int 0) (ty := .int) (C := RX12) (T := TX12) (N := 87) hx hb hts in_m_read_12 tyX12 tyX12_ok nmX12 hown hK hP hD hS 0 rfl rfl 0 (by decide) (hts (.fieldLink RX12 185 "LineKeeperModel" "code" "I") (List.mem_of_getElem? (i := 1) rfl)) (fun _ h9 => h9) rfl (tyX12_ok 0 (by decide)) rfl rfl (Nat.le_of_ble_eq_true rfl) dX12_read_2 (fun H locs hP hD hS => ?_)
  have hP : va_P (dC, dI) vwCl [(h0, .inr (12, fsM g)), ((g 35), .inl (cA802, 6, .inl f802)), ((g 36), .inl (cA803, 6, .inl f803)), ((g 37), .inl (cA804, 6, .inl f804)), ((g 48), .inl (cA805, 6, .inl f805))] H := hP
  have hD : va_D A [(h0, .inr (12, fsM g)), ((g 35), .inl (cA802, 6, .inl f802)), ((g 36), .inl (cA803, 6, .inl f803)), ((g 37), .inl (cA804, 6, .inl f804)), ((g 48), .inl (cA805, 6, .inl f805))] := hD
  refine lv_aload_n hx hb dX12_read_5 rfl (lv_at hl 0 rfl) ?_
  refine lv_aload_n hx hb dX12_read_6 rfl (lv_at hl 0 rfl) ?_
  refine va_get (D := (dC, dI)) (ci := 12) (v := .int 0) (C := RX12) (T := TX12) (N := 87) hx hb hts in_m_read_12 hown hK hP 0 rfl rfl 2 (by decide) (hts (.fieldLink RX12 382 "LineKeeperModel" "size" "I") (List.mem_of_getElem? (i := 2) rfl)) (fun _ h9 => h9) rfl dX12_read_7 ?_
  refine va_put (D := (dC, dI)) (ci := 12) (v := .int 0) (ty := .int) (C := RX12) (T := TX12) (N := 87) hx hb hts in_m_read_12 tyX12 tyX12_ok nmX12 hown hK hP hD hS 0 rfl rfl 21 (by decide) (hts (.fieldLink RX12 207 "LineKeeperModel" "length" "I") (List.mem_of_getElem? (i := 3) rfl)) (fun _ h9 => h9) rfl (tyX12_ok 21 (by decide)) rfl rfl (Nat.le_of_ble_eq_true rfl) dX12_read_10 (fun H locs hP hD hS => ?_)
  have hP : va_P (dC, dI) vwCl [(h0, .inr (12, fsM g)), ((g 35), .inl (cA802, 6, .inl f802)), ((g 36), .inl (cA803, 6, .inl f803)), ((g 37), .inl (cA804, 6, .inl f804)), ((g 48), .inl (cA805, 6, .inl f805))] H := hP
  have hD : va_D A [(h0, .inr (12, fsM g)), ((g 35), .inl (cA802, 6, .inl f802)), ((g 36), .inl (cA803, 6, .inl f803)), ((g 37), .inl (cA804, 6, .inl f804)), ((g 48), .inl (cA805, 6, .inl f805))] := hD
  refine lv_aload_n hx hb dX12_read_13 rfl (lv_at hl 0 rfl) ?_
  refine lv_iconst (v := 0) hx hb dX12_read_14 (by decide) ?_
  refine va_put (D := (dC, dI)) (ci := 12) (v := .int 0) (ty := .int) (C := RX12) (T := TX12) (N := 87) hx hb hts in_m_read_12 tyX12 tyX12_ok nmX12 hown hK hP hD hS 0 rfl rfl 2 (by decide) (hts (.fieldLink RX12 382 "LineKeeperModel" "size" "I") (List.mem_of_getElem? (i := 2) rfl)) (fun _ h9 => h9) rfl (tyX12_ok 2 (by decide)) rfl rfl (Nat.le_of_ble_eq_true rfl) dX12_read_15 (fun H locs hP hD hS => ?_)
  have hP : va_P (dC, dI) vwCl [(h0, .inr (12, fsM g)), ((g 35), .inl (cA802, 6, .inl f802)), ((g 36), .inl (cA803, 6, .inl f803)), ((g 37), .inl (cA804, 6, .inl f804)), ((g 48), .inl (cA805, 6, .inl f805))] H := hP
  have hD : va_D A [(h0, .inr (12, fsM g)), ((g 35), .inl (cA802, 6, .inl f802)), ((g 36), .inl (cA803, 6, .inl f803)), ((g 37), .inl (cA804, 6, .inl f804)), ((g 48), .inl (cA805, 6, .inl f805))] := hD
  refine lv_aload_n hx hb dX12_read_18 rfl (lv_at hl 0 rfl) ?_
  refine lv_iconst (v := 0) hx hb dX12_read_19 (by decide) ?_
  refine va_put (D := (dC, dI)) (ci := 12) (v := .int 0) (ty := .int) (C := RX12) (T := TX12) (N := 87) hx hb hts in_m_read_12 tyX12 tyX12_ok nmX12 hown hK hP hD hS 0 rfl rfl 26 (by decide) (hts (.fieldLink RX12 252 "LineKeeperModel" "fault" "I") (List.mem_of_getElem? (i := 4) rfl)) (fun _ h9 => h9) rfl (tyX12_ok 26 (by decide)) rfl rfl (Nat.le_of_ble_eq_true rfl) dX12_read_20 (fun H locs hP hD hS => ?_)
  have hP : va_P (dC, dI) vwCl [(h0, .inr (12, fsM g)), ((g 35), .inl (cA802, 6, .inl f802)), ((g 36), .inl (cA803, 6, .inl f803)), ((g 37), .inl (cA804, 6, .inl f804)), ((g 48), .inl (cA805, 6, .inl f805))] H := hP
  have hD : va_D A [(h0, .inr (12, fsM g)), ((g 35), .inl (cA802, 6, .inl f802)), ((g 36), .inl (cA803, 6, .inl f803)), ((g 37), .inl (cA804, 6, .inl f804)), ((g 48), .inl (cA805, 6, .inl f805))] := hD
  refine lv_aload_n hx hb dX12_read_23 rfl (lv_at hl 0 rfl) ?_
  refine lv_iconst (v := (-1)) hx hb dX12_read_24 (by decide) ?_
  refine va_put (D := (dC, dI)) (ci := 12) (v := .int (-1)) (ty := .int) (C := RX12) (T := TX12) (N := 87) hx hb hts in_m_read_12 tyX12 tyX12_ok nmX12 hown hK hP hD hS 0 rfl rfl 27 (by decide) (hts (.fieldLink RX12 59 "LineKeeperModel" "faultPlace" "I") (List.mem_of_getElem? (i := 5) rfl)) (fun _ h9 => h9) rfl (tyX12_ok 27 (by decide)) rfl rfl (Nat.le_of_ble_eq_true rfl) dX12_read_25 (fun H locs hP hD hS => ?_)
  have hP : va_P (dC, dI) vwCl [(h0, .inr (12, fsM g)), ((g 35), .inl (cA802, 6, .inl f802)), ((g 36), .inl (cA803, 6, .inl f803)), ((g 37), .inl (cA804, 6, .inl f804)), ((g 48), .inl (cA805, 6, .inl f805))] H := hP
  have hD : va_D A [(h0, .inr (12, fsM g)), ((g 35), .inl (cA802, 6, .inl f802)), ((g 36), .inl (cA803, 6, .inl f803)), ((g 37), .inl (cA804, 6, .inl f804)), ((g 48), .inl (cA805, 6, .inl f805))] := hD
  refine lv_aload_n hx hb dX12_read_28 rfl (lv_at hl 0 rfl) ?_
  refine lv_iconst (v := 0) hx hb dX12_read_29 (by decide) ?_
  have hPc := hP.sub (ws' := [(h0, .inr (12, fsM g)), ((g 35), .inl (cA802, 6, .inl f802)), ((g 36), .inl (cA803, 6, .inl f803)), ((g 37), .inl (cA804, 6, .inl f804))]) [0, 1, 2, 3] rfl
  have hDc := hD.sub (ws' := [(h0, .inr (12, fsM g)), ((g 35), .inl (cA802, 6, .inl f802)), ((g 36), .inl (cA803, 6, .inl f803)), ((g 37), .inl (cA804, 6, .inl f804))]) [0, 1, 2, 3] (by decide) rfl
  have hKc := hK.sub (tys' := [(cA802, .int), (cA803, .int), (cA804, .int)]) [0, 1, 2] rfl
  have hFc := va_free (wc := [(h0, .inr (12, fsM g)), ((g 35), .inl (cA802, 6, .inl f802)), ((g 36), .inl (cA803, 6, .inl f803)), ((g 37), .inl (cA804, 6, .inl f804))]) hD hS hA [0, 1, 2, 3] rfl
  refine va_calli (va_runV (As := [.int 0]) (rest := []) ⟨hx, hb, hml, hown, hts⟩ (k_X12_goOver_0 l dC dI h0 g cA802 f802 cA803 f803 cA804 f804 H.size ) (cwV 1 hts g_m_read_k_X12_goOver_0_388 rfl rfl rfl (by decide +kernel) ⟨(Nat.le_of_ble_eq_true rfl), (Nat.le_of_ble_eq_true rfl)⟩) (vx_preV (ci := 12) (q0 := 0) hPc hKc hDc hN rfl rfl) rfl rfl hl.1 rfl (lv_room (Nat.le_of_ble_eq_true rfl)) dX12_read_30 ⟨(Nat.le_of_ble_eq_true rfl), (Nat.le_of_ble_eq_true rfl)⟩) hS (fun q _ h => hFc q h) hFc (fun r1 u t H1 locs ht hvm hw hB hz1 hk1 hS => ?_)
  obtain ⟨f2, hP1, hK1, hD1⟩ := hB
  rw [ht] at hP1
  obtain ⟨hP, hD⟩ := va_join (wr := [((g 48), .inl (cA805, 6, .inl f805))]) (w1 := [(h0, .inr (12, (fsM g).set 23 (.int (-1)))), ((g 35), .inl (cA802, 6, .inl f802)), ((g 36), .inl (cA803, 6, .inl f803)), ((g 37), .inl (cA804, 6, .inl f2))]) hP hD [0, 1, 2, 3] [4] rfl rfl (by decide) (by decide) hk1 hFc hP1 hD1
  generalize H1 = H at hP hS ⊢
  have hP : va_P (dC, dI) vwCl [((g 48), .inl (cA805, 6, .inl f805)), (h0, .inr (12, (fsM g).set 23 (.int (-1)))), ((g 35), .inl (cA802, 6, .inl f802)), ((g 36), .inl (cA803, 6, .inl f803)), ((g 37), .inl (cA804, 6, .inl f2))] H := hP
  have hD : va_D A [((g 48), .inl (cA805, 6, .inl f805)), (h0, .inr (12, (fsM g).set 23 (.int (-1)))), ((g 35), .inl (cA802, 6, .inl f802)), ((g 36), .inl (cA803, 6, .inl f803)), ((g 37), .inl (cA804, 6, .inl f2))] := hD
  refine W.widen (k := 0) (n := 0) (by decide) (by decide) ?_
  try dsimp only at hw
  subst hw
  refine lv_if_eq (tgt := 56) hx hb dX12_read_33 (by decide) (fun h => absurd h (by decide)) (fun _ => ?_)
  refine lv_aload_n hx hb dX12_read_36 rfl (lv_at hl 0 rfl) ?_
  refine lv_iconst (v := 1) hx hb dX12_read_37 (by decide) ?_
  have hPc := hP.sub (ws' := [(h0, .inr (12, (fsM g).set 23 (.int (-1)))), ((g 35), .inl (cA802, 6, .inl f802)), ((g 36), .inl (cA803, 6, .inl f803)), ((g 37), .inl (cA804, 6, .inl f2))]) [1, 2, 3, 4] rfl
  have hDc := hD.sub (ws' := [(h0, .inr (12, (fsM g).set 23 (.int (-1)))), ((g 35), .inl (cA802, 6, .inl f802)), ((g 36), .inl (cA803, 6, .inl f803)), ((g 37), .inl (cA804, 6, .inl f2))]) [1, 2, 3, 4] (by decide) rfl
  have hKc := hK.sub (tys' := [(cA802, .int), (cA803, .int), (cA804, .int)]) [0, 1, 2] rfl
  have hFc := va_free (wc := [(h0, .inr (12, (fsM g).set 23 (.int (-1)))), ((g 35), .inl (cA802, 6, .inl f802)), ((g 36), .inl (cA803, 6, .inl f803)), ((g 37), .inl (cA804, 6, .inl f2))]) hD hS hA [1, 2, 3, 4] rfl
  refine va_calli (va_runV (As := [.int 1]) (rest := []) ⟨hx, hb, hml, hown, hts⟩ (k_X12_goOver_1 l dC dI h0 g cA802 f802 cA803 f803 cA804 f2 H.size ) (cwV 1 hts g_m_read_k_X12_goOver_1_388 rfl rfl rfl (by decide +kernel) ⟨(Nat.le_of_ble_eq_true rfl), (Nat.le_of_ble_eq_true rfl)⟩) (vx_preV (ci := 12) (q0 := 0) hPc hKc hDc hN rfl rfl) rfl rfl hl.1 rfl (lv_room (Nat.le_of_ble_eq_true rfl)) dX12_read_38 ⟨(Nat.le_of_ble_eq_true rfl), (Nat.le_of_ble_eq_true rfl)⟩) hS (fun q _ h => hFc q h) hFc (fun r3 u t H1 locs ht hvm hw hB hz1 hk1 hS => ?_)
  obtain ⟨f4, f5, f6, hP1, hK1, hD1⟩ := hB
  rw [ht] at hP1
  obtain ⟨hP, hD⟩ := va_join (wr := [((g 48), .inl (cA805, 6, .inl f805))]) (w1 := [(h0, .inr (12, ((fsM g).set 23 (.int (-1))).set 25 (.int 1))), ((g 35), .inl (cA802, 6, .inl f4)), ((g 36), .inl (cA803, 6, .inl f5)), ((g 37), .inl (cA804, 6, .inl f6))]) hP hD [1, 2, 3, 4] [0] rfl rfl (by decide) (by decide) hk1 hFc hP1 hD1
  generalize H1 = H at hP hS ⊢
  have hP : va_P (dC, dI) vwCl [((g 48), .inl (cA805, 6, .inl f805)), (h0, .inr (12, ((fsM g).set 23 (.int (-1))).set 25 (.int 1))), ((g 35), .inl (cA802, 6, .inl f4)), ((g 36), .inl (cA803, 6, .inl f5)), ((g 37), .inl (cA804, 6, .inl f6))] H := hP
  have hD : va_D A [((g 48), .inl (cA805, 6, .inl f805)), (h0, .inr (12, ((fsM g).set 23 (.int (-1))).set 25 (.int 1))), ((g 35), .inl (cA802, 6, .inl f4)), ((g 36), .inl (cA803, 6, .inl f5)), ((g 37), .inl (cA804, 6, .inl f6))] := hD
  refine W.widen (k := 0) (n := 0) (by decide) (by decide) ?_
  try dsimp only at hw
  subst hw
  refine lv_if_eq (tgt := 56) hx hb dX12_read_41 (by decide) (fun h => absurd h (by decide)) (fun _ => ?_)
  refine lv_aload_n hx hb dX12_read_44 rfl (lv_at hl 0 rfl) ?_
  refine lv_iconst (v := 2) hx hb dX12_read_45 (by decide) ?_
  have hPc := hP.sub (ws' := [(h0, .inr (12, ((fsM g).set 23 (.int (-1))).set 25 (.int 1))), ((g 35), .inl (cA802, 6, .inl f4)), ((g 36), .inl (cA803, 6, .inl f5)), ((g 37), .inl (cA804, 6, .inl f6))]) [1, 2, 3, 4] rfl
  have hDc := hD.sub (ws' := [(h0, .inr (12, ((fsM g).set 23 (.int (-1))).set 25 (.int 1))), ((g 35), .inl (cA802, 6, .inl f4)), ((g 36), .inl (cA803, 6, .inl f5)), ((g 37), .inl (cA804, 6, .inl f6))]) [1, 2, 3, 4] (by decide) rfl
  have hKc := hK.sub (tys' := [(cA802, .int), (cA803, .int), (cA804, .int)]) [0, 1, 2] rfl
  have hFc := va_free (wc := [(h0, .inr (12, ((fsM g).set 23 (.int (-1))).set 25 (.int 1))), ((g 35), .inl (cA802, 6, .inl f4)), ((g 36), .inl (cA803, 6, .inl f5)), ((g 37), .inl (cA804, 6, .inl f6))]) hD hS hA [1, 2, 3, 4] rfl
  refine va_calli (va_runV (As := [.int 2]) (rest := []) ⟨hx, hb, hml, hown, hts⟩ (k_X12_goOver_2 l dC dI h0 g cA802 f4 cA803 f5 cA804 f6 H.size ) (cwV 1 hts g_m_read_k_X12_goOver_2_388 rfl rfl rfl (by decide +kernel) ⟨(Nat.le_of_ble_eq_true rfl), (Nat.le_of_ble_eq_true rfl)⟩) (vx_preV (ci := 12) (q0 := 0) hPc hKc hDc hN rfl rfl) rfl rfl hl.1 rfl (lv_room (Nat.le_of_ble_eq_true rfl)) dX12_read_46 ⟨(Nat.le_of_ble_eq_true rfl), (Nat.le_of_ble_eq_true rfl)⟩) hS (fun q _ h => hFc q h) hFc (fun r7 u t H1 locs ht hvm hw hB hz1 hk1 hS => ?_)
  obtain ⟨f8, hP1, hK1, hD1⟩ := hB
  rw [ht] at hP1
  obtain ⟨hP, hD⟩ := va_join (wr := [((g 48), .inl (cA805, 6, .inl f805))]) (w1 := [(h0, .inr (12, ((fsM g).set 23 (.int (-1))).set 25 (.int 2))), ((g 35), .inl (cA802, 6, .inl f4)), ((g 36), .inl (cA803, 6, .inl f5)), ((g 37), .inl (cA804, 6, .inl f8))]) hP hD [1, 2, 3, 4] [0] rfl rfl (by decide) (by decide) hk1 hFc hP1 hD1
  generalize H1 = H at hP hS ⊢
  have hP : va_P (dC, dI) vwCl [((g 48), .inl (cA805, 6, .inl f805)), (h0, .inr (12, ((fsM g).set 23 (.int (-1))).set 25 (.int 2))), ((g 35), .inl (cA802, 6, .inl f4)), ((g 36), .inl (cA803, 6, .inl f5)), ((g 37), .inl (cA804, 6, .inl f8))] H := hP
  have hD : va_D A [((g 48), .inl (cA805, 6, .inl f805)), (h0, .inr (12, ((fsM g).set 23 (.int (-1))).set 25 (.int 2))), ((g 35), .inl (cA802, 6, .inl f4)), ((g 36), .inl (cA803, 6, .inl f5)), ((g 37), .inl (cA804, 6, .inl f8))] := hD
  refine W.widen (k := 0) (n := 0) (by decide) (by decide) ?_
  try dsimp only at hw
  subst hw
  refine lv_if_eq (tgt := 56) hx hb dX12_read_49 (by decide) (fun h => absurd h (by decide)) (fun _ => ?_)
  refine lv_iconst (v := 1) hx hb dX12_read_52 (by decide) ?_
  refine lv_goto (tgt := 57) hx hb dX12_read_53 (by decide) ?_
  refine lv_istore_n (lv' := [(1, .int 1), (0, .ref h0)]) hx hb dX12_read_57 rfl hl (by decide) rfl (fun ls hl => ?_)
  refine lv_aload_n hx hb dX12_read_58 rfl (lv_at hl 1 rfl) ?_
  refine va_get (D := (dC, dI)) (ci := 12) (v := .int 0) (C := RX12) (T := TX12) (N := 87) hx hb hts in_m_read_12 hown hK hP 1 rfl rfl 26 (by decide) (hts (.fieldLink RX12 252 "LineKeeperModel" "fault" "I") (List.mem_of_getElem? (i := 4) rfl)) (fun _ h9 => h9) rfl dX12_read_59 ?_
  refine lv_if_gt (tgt := 69) hx hb dX12_read_62 (by decide) (fun h => absurd h (by decide)) (fun _ => ?_)
  refine lv_iload_n hx hb dX12_read_65 rfl (lv_at hl 0 rfl) ?_
  refine lv_if_ne (tgt := 71) hx hb dX12_read_66 (by decide) (fun _ => ?_) (fun h => absurd h (by decide))
  refine lv_aload_n hx hb dX12_read_71 rfl (lv_at hl 1 rfl) ?_
  refine lv_aload_n hx hb dX12_read_72 rfl (lv_at hl 1 rfl) ?_
  refine va_get (D := (dC, dI)) (ci := 12) (v := .int 0) (C := RX12) (T := TX12) (N := 87) hx hb hts in_m_read_12 hown hK hP 1 rfl rfl 30 (by decide) (hts (.fieldLink RX12 268 "LineKeeperModel" "routine" "I") (List.mem_of_getElem? (i := 8) rfl)) (fun _ h9 => h9) rfl dX12_read_73 ?_
  refine va_put (D := (dC, dI)) (ci := 12) (v := .int 0) (ty := .int) (C := RX12) (T := TX12) (N := 87) hx hb hts in_m_read_12 tyX12 tyX12_ok nmX12 hown hK hP hD hS 1 rfl rfl 10 (by decide) (hts (.fieldLink RX12 391 "LineKeeperModel" "routines" "I") (List.mem_of_getElem? (i := 33) rfl)) (fun _ h9 => h9) rfl (tyX12_ok 10 (by decide)) rfl rfl (Nat.le_of_ble_eq_true rfl) dX12_read_76 (fun H locs hP hD hS => ?_)
  have hP : va_P (dC, dI) vwCl [((g 48), .inl (cA805, 6, .inl f805)), (h0, .inr (12, ((fsM g).set 23 (.int (-1))).set 25 (.int 2))), ((g 35), .inl (cA802, 6, .inl f4)), ((g 36), .inl (cA803, 6, .inl f5)), ((g 37), .inl (cA804, 6, .inl f8))] H := hP
  have hD : va_D A [((g 48), .inl (cA805, 6, .inl f805)), (h0, .inr (12, ((fsM g).set 23 (.int (-1))).set 25 (.int 2))), ((g 35), .inl (cA802, 6, .inl f4)), ((g 36), .inl (cA803, 6, .inl f5)), ((g 37), .inl (cA804, 6, .inl f8))] := hD
  refine lv_iconst (v := 0) hx hb dX12_read_79 (by decide) ?_
  refine lv_istore_n (lv' := [(2, .int 0), (1, .int 1), (0, .ref h0)]) hx hb dX12_read_80 rfl hl (by decide) rfl (fun ls hl => ?_)
  refine lv_iload_n hx hb dX12_read_81 rfl (lv_at hl 0 rfl) ?_
  refine lv_aload_n hx hb dX12_read_82 rfl (lv_at hl 2 rfl) ?_
  refine va_get (D := (dC, dI)) (ci := 12) (v := .int 0) (C := RX12) (T := TX12) (N := 87) hx hb hts in_m_read_12 hown hK hP 1 rfl rfl 10 (by decide) (hts (.fieldLink RX12 391 "LineKeeperModel" "routines" "I") (List.mem_of_getElem? (i := 33) rfl)) (fun _ h9 => h9) rfl dX12_read_83 ?_
  refine lv_icmp_ge (tgt := 119) hx hb dX12_read_86 (by decide) (fun _ => ?_) (fun h => absurd (by decide) h)
  refine lv_aload_n hx hb dX12_read_119 rfl (lv_at hl 2 rfl) ?_
  refine lv_iconst (v := 3) hx hb dX12_read_120 (by decide) ?_
  have hPc := hP.sub (ws' := [(h0, .inr (12, ((fsM g).set 23 (.int (-1))).set 25 (.int 2))), ((g 35), .inl (cA802, 6, .inl f4)), ((g 36), .inl (cA803, 6, .inl f5)), ((g 37), .inl (cA804, 6, .inl f8))]) [1, 2, 3, 4] rfl
  have hDc := hD.sub (ws' := [(h0, .inr (12, ((fsM g).set 23 (.int (-1))).set 25 (.int 2))), ((g 35), .inl (cA802, 6, .inl f4)), ((g 36), .inl (cA803, 6, .inl f5)), ((g 37), .inl (cA804, 6, .inl f8))]) [1, 2, 3, 4] (by decide) rfl
  have hKc := hK.sub (tys' := [(cA802, .int), (cA803, .int), (cA804, .int)]) [0, 1, 2] rfl
  have hFc := va_free (wc := [(h0, .inr (12, ((fsM g).set 23 (.int (-1))).set 25 (.int 2))), ((g 35), .inl (cA802, 6, .inl f4)), ((g 36), .inl (cA803, 6, .inl f5)), ((g 37), .inl (cA804, 6, .inl f8))]) hD hS hA [1, 2, 3, 4] rfl
  refine va_calli (va_runV (As := [.int 3]) (rest := []) ⟨hx, hb, hml, hown, hts⟩ (k_X12_goOver_3 l dC dI h0 g cA802 f4 cA803 f5 cA804 f8 H.size ) (cwV 1 hts g_m_read_k_X12_goOver_3_388 rfl rfl rfl (by decide +kernel) ⟨(Nat.le_of_ble_eq_true rfl), (Nat.le_of_ble_eq_true rfl)⟩) (vx_preV (ci := 12) (q0 := 0) hPc hKc hDc hN rfl rfl) rfl rfl hl.1 rfl (lv_room (Nat.le_of_ble_eq_true rfl)) dX12_read_121 ⟨(Nat.le_of_ble_eq_true rfl), (Nat.le_of_ble_eq_true rfl)⟩) hS (fun q _ h => hFc q h) hFc (fun r9 u t H1 locs ht hvm hw hB hz1 hk1 hS => ?_)
  obtain ⟨f10, hP1, hK1, hD1⟩ := hB
  rw [ht] at hP1
  obtain ⟨hP, hD⟩ := va_join (wr := [((g 48), .inl (cA805, 6, .inl f805))]) (w1 := [(h0, .inr (12, ((fsM g).set 23 (.int (-1))).set 25 (.int 3))), ((g 35), .inl (cA802, 6, .inl f4)), ((g 36), .inl (cA803, 6, .inl f5)), ((g 37), .inl (cA804, 6, .inl f10))]) hP hD [1, 2, 3, 4] [0] rfl rfl (by decide) (by decide) hk1 hFc hP1 hD1
  generalize H1 = H at hP hS ⊢
  have hP : va_P (dC, dI) vwCl [((g 48), .inl (cA805, 6, .inl f805)), (h0, .inr (12, ((fsM g).set 23 (.int (-1))).set 25 (.int 3))), ((g 35), .inl (cA802, 6, .inl f4)), ((g 36), .inl (cA803, 6, .inl f5)), ((g 37), .inl (cA804, 6, .inl f10))] H := hP
  have hD : va_D A [((g 48), .inl (cA805, 6, .inl f805)), (h0, .inr (12, ((fsM g).set 23 (.int (-1))).set 25 (.int 3))), ((g 35), .inl (cA802, 6, .inl f4)), ((g 36), .inl (cA803, 6, .inl f5)), ((g 37), .inl (cA804, 6, .inl f10))] := hD
  refine W.widen (k := 0) (n := 0) (by decide) (by decide) ?_
  try dsimp only at hw
  subst hw
  refine lv_istore_n (lv' := [(1, .int 1), (2, .int 0), (0, .ref h0)]) hx hb dX12_read_124 rfl hl (by decide) rfl (fun ls hl => ?_)
  refine lv_iconst (v := 0) hx hb dX12_read_125 (by decide) ?_
  refine lv_istore_n (lv' := [(2, .int 0), (1, .int 1), (0, .ref h0)]) hx hb dX12_read_126 rfl hl (by decide) rfl (fun ls hl => ?_)
  refine lv_iload_n hx hb dX12_read_127 rfl (lv_at hl 0 rfl) ?_
  refine lv_aload_n hx hb dX12_read_128 rfl (lv_at hl 2 rfl) ?_
  refine va_get (D := (dC, dI)) (ci := 12) (v := .int 0) (C := RX12) (T := TX12) (N := 87) hx hb hts in_m_read_12 hown hK hP 1 rfl rfl 10 (by decide) (hts (.fieldLink RX12 391 "LineKeeperModel" "routines" "I") (List.mem_of_getElem? (i := 33) rfl)) (fun _ h9 => h9) rfl dX12_read_129 ?_
  refine lv_icmp_ge (tgt := 269) hx hb dX12_read_132 (by decide) (fun _ => ?_) (fun h => absurd (by decide) h)
  refine lv_iconst (v := 0) hx hb dX12_read_269 (by decide) ?_
  refine lv_istore_n (lv' := [(2, .int 0), (1, .int 1), (0, .ref h0)]) hx hb dX12_read_270 rfl hl (by decide) rfl (fun ls hl => ?_)
  refine lv_iload_n hx hb dX12_read_271 rfl (lv_at hl 0 rfl) ?_
  refine lv_bipush (v := 6) hx hb dX12_read_272 (by decide) ?_
  refine lv_icmp_ge (tgt := 290) hx hb dX12_read_274 (by decide) (fun h => absurd h (by decide)) (fun _ => ?_)
  refine lv_aload_n hx hb dX12_read_277 rfl (lv_at hl 2 rfl) ?_
  refine va_get (D := (dC, dI)) (ci := 12) (v := .ref (g 48)) (C := RX12) (T := TX12) (N := 87) hx hb hts in_m_read_12 hown hK hP 1 rfl rfl 48 (by decide) (hts (.fieldLink RX12 95 "LineKeeperModel" "hasStates" "[Z") (List.mem_of_getElem? (i := 34) rfl)) (fun _ h9 => h9) rfl dX12_read_278 ?_
  refine lv_iload_n hx hb dX12_read_281 rfl (lv_at hl 0 rfl) ?_
  refine lv_iconst (v := 0) hx hb dX12_read_282 (by decide) ?_
  refine va_zast hx hb hK hP hD hS 0 3 rfl rfl (vx_in (by decide)) dX12_read_283 (fun H locs hP hD hS => ?_)
  generalize (upd f805 (0 : Int32).toNatClampNeg (vp_nar .boolean 0)) = f11 at hP hD
  have hP : va_P (dC, dI) vwCl [((g 48), .inl (cA805, 6, .inl f11)), (h0, .inr (12, ((fsM g).set 23 (.int (-1))).set 25 (.int 3))), ((g 35), .inl (cA802, 6, .inl f4)), ((g 36), .inl (cA803, 6, .inl f5)), ((g 37), .inl (cA804, 6, .inl f10))] H := hP
  have hD : va_D A [((g 48), .inl (cA805, 6, .inl f11)), (h0, .inr (12, ((fsM g).set 23 (.int (-1))).set 25 (.int 3))), ((g 35), .inl (cA802, 6, .inl f4)), ((g 36), .inl (cA803, 6, .inl f5)), ((g 37), .inl (cA804, 6, .inl f10))] := hD
  refine lv_iinc (v := 1) (lv' := [(2, .int 1), (1, .int 1), (0, .ref h0)]) hx hb dX12_read_284 hl (k := 0) rfl (by decide) (by decide) rfl (fun ls hl => ?_)
  refine lv_goto (tgt := 271) hx hb dX12_read_287 (by decide) ?_
  refine lv_iload_n hx hb dX12_read_271 rfl (lv_at hl 0 rfl) ?_
  refine lv_bipush (v := 6) hx hb dX12_read_272 (by decide) ?_
  refine lv_icmp_ge (tgt := 290) hx hb dX12_read_274 (by decide) (fun h => absurd h (by decide)) (fun _ => ?_)
  refine lv_aload_n hx hb dX12_read_277 rfl (lv_at hl 2 rfl) ?_
  refine va_get (D := (dC, dI)) (ci := 12) (v := .ref (g 48)) (C := RX12) (T := TX12) (N := 87) hx hb hts in_m_read_12 hown hK hP 1 rfl rfl 48 (by decide) (hts (.fieldLink RX12 95 "LineKeeperModel" "hasStates" "[Z") (List.mem_of_getElem? (i := 34) rfl)) (fun _ h9 => h9) rfl dX12_read_278 ?_
  refine lv_iload_n hx hb dX12_read_281 rfl (lv_at hl 0 rfl) ?_
  refine lv_iconst (v := 0) hx hb dX12_read_282 (by decide) ?_
  refine va_zast hx hb hK hP hD hS 0 3 rfl rfl (vx_in (by decide)) dX12_read_283 (fun H locs hP hD hS => ?_)
  generalize (upd f11 (1 : Int32).toNatClampNeg (vp_nar .boolean 0)) = f12 at hP hD
  have hP : va_P (dC, dI) vwCl [((g 48), .inl (cA805, 6, .inl f12)), (h0, .inr (12, ((fsM g).set 23 (.int (-1))).set 25 (.int 3))), ((g 35), .inl (cA802, 6, .inl f4)), ((g 36), .inl (cA803, 6, .inl f5)), ((g 37), .inl (cA804, 6, .inl f10))] H := hP
  have hD : va_D A [((g 48), .inl (cA805, 6, .inl f12)), (h0, .inr (12, ((fsM g).set 23 (.int (-1))).set 25 (.int 3))), ((g 35), .inl (cA802, 6, .inl f4)), ((g 36), .inl (cA803, 6, .inl f5)), ((g 37), .inl (cA804, 6, .inl f10))] := hD
  refine lv_iinc (v := 2) (lv' := [(2, .int 2), (1, .int 1), (0, .ref h0)]) hx hb dX12_read_284 hl (k := 0) rfl (by decide) (by decide) rfl (fun ls hl => ?_)
  refine lv_goto (tgt := 271) hx hb dX12_read_287 (by decide) ?_
  refine lv_iload_n hx hb dX12_read_271 rfl (lv_at hl 0 rfl) ?_
  refine lv_bipush (v := 6) hx hb dX12_read_272 (by decide) ?_
  refine lv_icmp_ge (tgt := 290) hx hb dX12_read_274 (by decide) (fun h => absurd h (by decide)) (fun _ => ?_)
  refine lv_aload_n hx hb dX12_read_277 rfl (lv_at hl 2 rfl) ?_
  refine va_get (D := (dC, dI)) (ci := 12) (v := .ref (g 48)) (C := RX12) (T := TX12) (N := 87) hx hb hts in_m_read_12 hown hK hP 1 rfl rfl 48 (by decide) (hts (.fieldLink RX12 95 "LineKeeperModel" "hasStates" "[Z") (List.mem_of_getElem? (i := 34) rfl)) (fun _ h9 => h9) rfl dX12_read_278 ?_
  refine lv_iload_n hx hb dX12_read_281 rfl (lv_at hl 0 rfl) ?_
  refine lv_iconst (v := 0) hx hb dX12_read_282 (by decide) ?_
  refine va_zast hx hb hK hP hD hS 0 3 rfl rfl (vx_in (by decide)) dX12_read_283 (fun H locs hP hD hS => ?_)
  generalize (upd f12 (2 : Int32).toNatClampNeg (vp_nar .boolean 0)) = f13 at hP hD
  have hP : va_P (dC, dI) vwCl [((g 48), .inl (cA805, 6, .inl f13)), (h0, .inr (12, ((fsM g).set 23 (.int (-1))).set 25 (.int 3))), ((g 35), .inl (cA802, 6, .inl f4)), ((g 36), .inl (cA803, 6, .inl f5)), ((g 37), .inl (cA804, 6, .inl f10))] H := hP
  have hD : va_D A [((g 48), .inl (cA805, 6, .inl f13)), (h0, .inr (12, ((fsM g).set 23 (.int (-1))).set 25 (.int 3))), ((g 35), .inl (cA802, 6, .inl f4)), ((g 36), .inl (cA803, 6, .inl f5)), ((g 37), .inl (cA804, 6, .inl f10))] := hD
  refine lv_iinc (v := 3) (lv' := [(2, .int 3), (1, .int 1), (0, .ref h0)]) hx hb dX12_read_284 hl (k := 0) rfl (by decide) (by decide) rfl (fun ls hl => ?_)
  refine lv_goto (tgt := 271) hx hb dX12_read_287 (by decide) ?_
  refine lv_iload_n hx hb dX12_read_271 rfl (lv_at hl 0 rfl) ?_
  refine lv_bipush (v := 6) hx hb dX12_read_272 (by decide) ?_
  refine lv_icmp_ge (tgt := 290) hx hb dX12_read_274 (by decide) (fun h => absurd h (by decide)) (fun _ => ?_)
  refine lv_aload_n hx hb dX12_read_277 rfl (lv_at hl 2 rfl) ?_
  refine va_get (D := (dC, dI)) (ci := 12) (v := .ref (g 48)) (C := RX12) (T := TX12) (N := 87) hx hb hts in_m_read_12 hown hK hP 1 rfl rfl 48 (by decide) (hts (.fieldLink RX12 95 "LineKeeperModel" "hasStates" "[Z") (List.mem_of_getElem? (i := 34) rfl)) (fun _ h9 => h9) rfl dX12_read_278 ?_
  refine lv_iload_n hx hb dX12_read_281 rfl (lv_at hl 0 rfl) ?_
  refine lv_iconst (v := 0) hx hb dX12_read_282 (by decide) ?_
  refine va_zast hx hb hK hP hD hS 0 3 rfl rfl (vx_in (by decide)) dX12_read_283 (fun H locs hP hD hS => ?_)
  generalize (upd f13 (3 : Int32).toNatClampNeg (vp_nar .boolean 0)) = f14 at hP hD
  have hP : va_P (dC, dI) vwCl [((g 48), .inl (cA805, 6, .inl f14)), (h0, .inr (12, ((fsM g).set 23 (.int (-1))).set 25 (.int 3))), ((g 35), .inl (cA802, 6, .inl f4)), ((g 36), .inl (cA803, 6, .inl f5)), ((g 37), .inl (cA804, 6, .inl f10))] H := hP
  have hD : va_D A [((g 48), .inl (cA805, 6, .inl f14)), (h0, .inr (12, ((fsM g).set 23 (.int (-1))).set 25 (.int 3))), ((g 35), .inl (cA802, 6, .inl f4)), ((g 36), .inl (cA803, 6, .inl f5)), ((g 37), .inl (cA804, 6, .inl f10))] := hD
  refine lv_iinc (v := 4) (lv' := [(2, .int 4), (1, .int 1), (0, .ref h0)]) hx hb dX12_read_284 hl (k := 0) rfl (by decide) (by decide) rfl (fun ls hl => ?_)
  refine lv_goto (tgt := 271) hx hb dX12_read_287 (by decide) ?_
  refine lv_iload_n hx hb dX12_read_271 rfl (lv_at hl 0 rfl) ?_
  refine lv_bipush (v := 6) hx hb dX12_read_272 (by decide) ?_
  refine lv_icmp_ge (tgt := 290) hx hb dX12_read_274 (by decide) (fun h => absurd h (by decide)) (fun _ => ?_)
  refine lv_aload_n hx hb dX12_read_277 rfl (lv_at hl 2 rfl) ?_
  refine va_get (D := (dC, dI)) (ci := 12) (v := .ref (g 48)) (C := RX12) (T := TX12) (N := 87) hx hb hts in_m_read_12 hown hK hP 1 rfl rfl 48 (by decide) (hts (.fieldLink RX12 95 "LineKeeperModel" "hasStates" "[Z") (List.mem_of_getElem? (i := 34) rfl)) (fun _ h9 => h9) rfl dX12_read_278 ?_
  refine lv_iload_n hx hb dX12_read_281 rfl (lv_at hl 0 rfl) ?_
  refine lv_iconst (v := 0) hx hb dX12_read_282 (by decide) ?_
  refine va_zast hx hb hK hP hD hS 0 3 rfl rfl (vx_in (by decide)) dX12_read_283 (fun H locs hP hD hS => ?_)
  generalize (upd f14 (4 : Int32).toNatClampNeg (vp_nar .boolean 0)) = f15 at hP hD
  have hP : va_P (dC, dI) vwCl [((g 48), .inl (cA805, 6, .inl f15)), (h0, .inr (12, ((fsM g).set 23 (.int (-1))).set 25 (.int 3))), ((g 35), .inl (cA802, 6, .inl f4)), ((g 36), .inl (cA803, 6, .inl f5)), ((g 37), .inl (cA804, 6, .inl f10))] H := hP
  have hD : va_D A [((g 48), .inl (cA805, 6, .inl f15)), (h0, .inr (12, ((fsM g).set 23 (.int (-1))).set 25 (.int 3))), ((g 35), .inl (cA802, 6, .inl f4)), ((g 36), .inl (cA803, 6, .inl f5)), ((g 37), .inl (cA804, 6, .inl f10))] := hD
  refine lv_iinc (v := 5) (lv' := [(2, .int 5), (1, .int 1), (0, .ref h0)]) hx hb dX12_read_284 hl (k := 0) rfl (by decide) (by decide) rfl (fun ls hl => ?_)
  refine lv_goto (tgt := 271) hx hb dX12_read_287 (by decide) ?_
  refine lv_iload_n hx hb dX12_read_271 rfl (lv_at hl 0 rfl) ?_
  refine lv_bipush (v := 6) hx hb dX12_read_272 (by decide) ?_
  refine lv_icmp_ge (tgt := 290) hx hb dX12_read_274 (by decide) (fun h => absurd h (by decide)) (fun _ => ?_)
  refine lv_aload_n hx hb dX12_read_277 rfl (lv_at hl 2 rfl) ?_
  refine va_get (D := (dC, dI)) (ci := 12) (v := .ref (g 48)) (C := RX12) (T := TX12) (N := 87) hx hb hts in_m_read_12 hown hK hP 1 rfl rfl 48 (by decide) (hts (.fieldLink RX12 95 "LineKeeperModel" "hasStates" "[Z") (List.mem_of_getElem? (i := 34) rfl)) (fun _ h9 => h9) rfl dX12_read_278 ?_
  refine lv_iload_n hx hb dX12_read_281 rfl (lv_at hl 0 rfl) ?_
  refine lv_iconst (v := 0) hx hb dX12_read_282 (by decide) ?_
  refine va_zast hx hb hK hP hD hS 0 3 rfl rfl (vx_in (by decide)) dX12_read_283 (fun H locs hP hD hS => ?_)
  generalize (upd f15 (5 : Int32).toNatClampNeg (vp_nar .boolean 0)) = f16 at hP hD
  have hP : va_P (dC, dI) vwCl [((g 48), .inl (cA805, 6, .inl f16)), (h0, .inr (12, ((fsM g).set 23 (.int (-1))).set 25 (.int 3))), ((g 35), .inl (cA802, 6, .inl f4)), ((g 36), .inl (cA803, 6, .inl f5)), ((g 37), .inl (cA804, 6, .inl f10))] H := hP
  have hD : va_D A [((g 48), .inl (cA805, 6, .inl f16)), (h0, .inr (12, ((fsM g).set 23 (.int (-1))).set 25 (.int 3))), ((g 35), .inl (cA802, 6, .inl f4)), ((g 36), .inl (cA803, 6, .inl f5)), ((g 37), .inl (cA804, 6, .inl f10))] := hD
  refine lv_iinc (v := 6) (lv' := [(2, .int 6), (1, .int 1), (0, .ref h0)]) hx hb dX12_read_284 hl (k := 0) rfl (by decide) (by decide) rfl (fun ls hl => ?_)
  refine lv_goto (tgt := 271) hx hb dX12_read_287 (by decide) ?_
  refine lv_iload_n hx hb dX12_read_271 rfl (lv_at hl 0 rfl) ?_
  refine lv_bipush (v := 6) hx hb dX12_read_272 (by decide) ?_
  refine lv_icmp_ge (tgt := 290) hx hb dX12_read_274 (by decide) (fun _ => ?_) (fun h => absurd (by decide) h)
  refine lv_aload_n hx hb dX12_read_290 rfl (lv_at hl 2 rfl) ?_
  refine lv_iconst (v := 0) hx hb dX12_read_291 (by decide) ?_
  refine va_put (D := (dC, dI)) (ci := 12) (v := .int 0) (ty := .boolean) (C := RX12) (T := TX12) (N := 87) hx hb hts in_m_read_12 tyX12 tyX12_ok nmX12 hown hK hP hD hS 1 rfl rfl 67 (by decide) (hts (.fieldLink RX12 397 "LineKeeperModel" "started" "Z") (List.mem_of_getElem? (i := 35) rfl)) (fun _ h9 => h9) rfl (tyX12_ok 67 (by decide)) rfl rfl (Nat.le_of_ble_eq_true rfl) dX12_read_292 (fun H locs hP hD hS => ?_)
  have hP : va_P (dC, dI) vwCl [((g 48), .inl (cA805, 6, .inl f16)), (h0, .inr (12, ((fsM g).set 23 (.int (-1))).set 25 (.int 3))), ((g 35), .inl (cA802, 6, .inl f4)), ((g 36), .inl (cA803, 6, .inl f5)), ((g 37), .inl (cA804, 6, .inl f10))] H := hP
  have hD : va_D A [((g 48), .inl (cA805, 6, .inl f16)), (h0, .inr (12, ((fsM g).set 23 (.int (-1))).set 25 (.int 3))), ((g 35), .inl (cA802, 6, .inl f4)), ((g 36), .inl (cA803, 6, .inl f5)), ((g 37), .inl (cA804, 6, .inl f10))] := hD
  refine lv_aload_n hx hb dX12_read_295 rfl (lv_at hl 2 rfl) ?_
  refine va_get (D := (dC, dI)) (ci := 12) (v := .int 0) (C := RX12) (T := TX12) (N := 87) hx hb hts in_m_read_12 hown hK hP 1 rfl rfl 10 (by decide) (hts (.fieldLink RX12 391 "LineKeeperModel" "routines" "I") (List.mem_of_getElem? (i := 33) rfl)) (fun _ h9 => h9) rfl dX12_read_296 ?_
  have hP9 := hP.sub (ws' := []) [] rfl
  have hD9 := hD.sub (ws' := []) [] (by decide) rfl
  have hK9 := hK.sub (tys' := []) [] rfl
  exact W.iret (v := 0) hx hb hr (fun t ht hW => ⟨⟨0, (), rfl, rfl, by rw [ht]; exact hP9, va_K.moved hW.alike hK9, hD9⟩, hS.F ht⟩) hS.2.2 dX12_read_299

def w_m_fault : List Cond := .code yX12_fault cX12_fault 2 (some .int) :: ([.fieldLink RX12 185 "LineKeeperModel" "code" "I", .fieldLink RX12 59 "LineKeeperModel" "faultPlace" "I", .fieldLink RX12 252 "LineKeeperModel" "fault" "I"] ++ wsX120)
theorem in_m_fault_12 : ∀ w ∈ wsX120, w ∈ w_m_fault := fun _ h => List.mem_cons_of_mem _ (List.mem_append_right _ h)
set_option maxHeartbeats 4000000 in
set_option maxRecDepth 100000 in
theorem m_fault (l : Launch) (dC : Nat → ClassId) (dI : Nat → Nat → Nat) (h0 : Nat) (g : Nat → Nat) (p1 : Int32) (sz : Nat) : Met l yX12_fault w_m_fault { frames := 0, cells := 0, slots := 0, locals := 0 } (va_Pc [.ref h0, .int p1] (vx_pre dC dI [(h0, .inr (12, fsM g))] [] sz)) (va_Qi (fun (r : Int32) (_ : Unit) => r = md_fault p1) (fun _ t => vx_B dC dI (va_A [(h0, .inr (12, fsM g))] sz) [] [] t) (va_A [(h0, .inr (12, fsM g))] sz)) 0 0 (va_A [(h0, .inr (12, fsM g))] sz) := by
  refine Met.ofW (cc := cX12_fault) (maxL := 2) (ret := (some .int)) (by decide) rfl ?_
  intro p e s m args below meth c s₁ B hml hv
  obtain ⟨rfl, hsz, hP, hK, hD0, hN⟩ := hv
  have hx := B.exec
  have hb := B.bytes
  have hr := B.returns
  have hts := atoms_spec (ws := w_m_fault) B.pre
  have hown : s.vm.findClass RX12 = some m.cls := findClass_of_methodNamed B.named
  have hlocks := B.notSynchronized
  subst hsz
  have hD := hD0.self (sz := s.heap.size)
  generalize hAe : va_A [(h0, .inr (12, fsM g))] s.heap.size = A at hD ⊢
  have hA : ∀ q : Nat, s.heap.size ≤ q → A q := fun q h => by rw [← hAe]; exact Or.inr h
  obtain ⟨H, hHe⟩ : ∃ H, H = s.heap := ⟨_, rfl⟩
  rw [← hHe] at hP ⊢
  have hS : va_S A s.heap H [] := by rw [hHe]; exact va_S.rf
  have hl := lv_entry [.ref h0, .int p1] (n := 2) (Nat.le_of_ble_eq_true rfl)
  rw [lg_entry_eq]
  generalize (lg_sl [.ref h0, .int p1] ++ List.replicate (2 - (lg_sl [.ref h0, .int p1]).length) Slot.unset).toArray = ls at hl ⊢
  have hl : lv_has ls 2 [(0, .ref h0), (1, .int p1)] := hl
  refine lv_aload_n hx hb dX12_fault_0 rfl (lv_at hl 0 rfl) ?_
  refine lv_iconst (v := 0) hx hb dX12_fault_1 (by decide) ?_
  refine va_put (D := (dC, dI)) (ci := 12) (v := .int 0) (ty := .int) (C := RX12) (T := TX12) (N := 87) hx hb hts in_m_fault_12 tyX12 tyX12_ok nmX12 hown hK hP hD hS 0 rfl rfl 0 (by decide) (hts (.fieldLink RX12 185 "LineKeeperModel" "code" "I") (List.mem_of_getElem? (i := 1) rfl)) (fun _ h9 => h9) rfl (tyX12_ok 0 (by decide)) rfl rfl (Nat.le_of_ble_eq_true rfl) dX12_fault_2 (fun H locs hP hD hS => ?_)
  have hP : va_P (dC, dI) vwCl [(h0, .inr (12, fsM g))] H := hP
  have hD : va_D A [(h0, .inr (12, fsM g))] := hD
  refine lv_iload_n hx hb dX12_fault_5 rfl (lv_at hl 1 rfl) ?_
  refine lv_if_ne (tgt := 16) hx hb dX12_fault_6 (by decide) (fun c1 => ?_) (fun c1 => ?_)
  · refine lv_iload_n hx hb dX12_fault_16 rfl (lv_at hl 1 rfl) ?_
    refine lv_iconst (v := 1) hx hb dX12_fault_17 (by decide) ?_
    refine lv_icmp_ne (tgt := 28) hx hb dX12_fault_18 (by decide) (fun c2 => ?_) (fun c2 => ?_)
    · refine lv_iconst (v := (-1)) hx hb dX12_fault_28 (by decide) ?_
      have hP9 := hP.sub (ws' := []) [] rfl
      have hD9 := hD.sub (ws' := []) [] (by decide) rfl
      have hK9 := hK.sub (tys' := []) [] rfl
      exact W.iret (v := (-1)) hx hb hr (fun t ht hW => ⟨⟨(-1), (), rfl, md_fault_b c1, by rw [ht]; exact hP9, va_K.moved hW.alike hK9, hD9⟩, hS.F ht⟩) hS.2.2 dX12_fault_29
    · refine lv_aload_n hx hb dX12_fault_21 rfl (lv_at hl 0 rfl) ?_
      refine va_get (D := (dC, dI)) (ci := 12) (v := .int (-1)) (C := RX12) (T := TX12) (N := 87) hx hb hts in_m_fault_12 hown hK hP 0 rfl rfl 27 (by decide) (hts (.fieldLink RX12 59 "LineKeeperModel" "faultPlace" "I") (List.mem_of_getElem? (i := 2) rfl)) (fun _ h9 => h9) rfl dX12_fault_22 ?_
      refine lv_goto (tgt := 29) hx hb dX12_fault_25 (by decide) ?_
      have hP9 := hP.sub (ws' := []) [] rfl
      have hD9 := hD.sub (ws' := []) [] (by decide) rfl
      have hK9 := hK.sub (tys' := []) [] rfl
      exact W.iret (v := (-1)) hx hb hr (fun t ht hW => ⟨⟨(-1), (), rfl, md_fault_b c1, by rw [ht]; exact hP9, va_K.moved hW.alike hK9, hD9⟩, hS.F ht⟩) hS.2.2 dX12_fault_29
  · refine lv_aload_n hx hb dX12_fault_9 rfl (lv_at hl 0 rfl) ?_
    refine va_get (D := (dC, dI)) (ci := 12) (v := .int 0) (C := RX12) (T := TX12) (N := 87) hx hb hts in_m_fault_12 hown hK hP 0 rfl rfl 26 (by decide) (hts (.fieldLink RX12 252 "LineKeeperModel" "fault" "I") (List.mem_of_getElem? (i := 3) rfl)) (fun _ h9 => h9) rfl dX12_fault_10 ?_
    refine lv_goto (tgt := 29) hx hb dX12_fault_13 (by decide) ?_
    have hP9 := hP.sub (ws' := []) [] rfl
    have hD9 := hD.sub (ws' := []) [] (by decide) rfl
    have hK9 := hK.sub (tys' := []) [] rfl
    exact W.iret (v := 0) hx hb hr (fun t ht hW => ⟨⟨0, (), rfl, md_fault_a c1, by rw [ht]; exact hP9, va_K.moved hW.alike hK9, hD9⟩, hS.F ht⟩) hS.2.2 dX12_fault_29

def w_k_X12_isRoutine_0 : List Cond := .code yX12_isRoutine cX12_isRoutine 2 (some .boolean) :: ([.fieldLink RX12 391 "LineKeeperModel" "routines" "I", .code yX12_in cX12_in 3 (some .boolean), .initialized RX12, .methodLink RX12 188 yX12_in, .static yX12_in] ++ wsX120)
theorem in_k_X12_isRoutine_0_12 : ∀ w ∈ wsX120, w ∈ w_k_X12_isRoutine_0 := fun _ h => List.mem_cons_of_mem _ (List.mem_append_right _ h)
set_option maxRecDepth 100000 in
theorem g_k_X12_isRoutine_0_k_in_188 : GoodIn w_k_X12_isRoutine_0 (wsS RX12 188 yX12_in w_k_in) := goodIn_r _ [4, 5, 3, 2] (by decide +kernel) (by decide +kernel)
set_option maxHeartbeats 4000000 in
set_option maxRecDepth 100000 in
theorem k_X12_isRoutine_0 (l : Launch) (dC : Nat → ClassId) (dI : Nat → Nat → Nat) (h701 : Nat) (x701 : Int32) (g701 : Nat → Nat) (sz : Nat) : Met l yX12_isRoutine w_k_X12_isRoutine_0 { frames := 1, cells := 0, slots := 0, locals := 22 } (va_Pc [.ref h701, .int x701] (vx_pre dC dI [(h701, .inr (12, fsM g701))] [] sz)) (va_Qi (fun (r : Int32) (_ : Unit) => r = 0) (fun _ t => vx_B dC dI (va_A [(h701, .inr (12, fsM g701))] sz) [(h701, .inr (12, fsM g701))] [] t) (va_A [(h701, .inr (12, fsM g701))] sz)) 0 0 (va_A [(h701, .inr (12, fsM g701))] sz) := by
  refine Met.ofW (cc := cX12_isRoutine) (maxL := 2) (ret := (some .boolean)) (by decide) rfl ?_
  intro p e s m args below meth c s₁ B hml hv
  obtain ⟨rfl, hsz, hP, hK, hD0, hN⟩ := hv
  have hx := B.exec
  have hb := B.bytes
  have hr := B.returns
  have hts := atoms_spec (ws := w_k_X12_isRoutine_0) B.pre
  have hown : s.vm.findClass RX12 = some m.cls := findClass_of_methodNamed B.named
  have hlocks := B.notSynchronized
  subst hsz
  have hD := hD0.self (sz := s.heap.size)
  generalize hAe : va_A [(h701, .inr (12, fsM g701))] s.heap.size = A at hD ⊢
  have hA : ∀ q : Nat, s.heap.size ≤ q → A q := fun q h => by rw [← hAe]; exact Or.inr h
  obtain ⟨H, hHe⟩ : ∃ H, H = s.heap := ⟨_, rfl⟩
  rw [← hHe] at hP ⊢
  have hS : va_S A s.heap H [] := by rw [hHe]; exact va_S.rf
  have hl := lv_entry [.ref h701, .int x701] (n := 2) (Nat.le_of_ble_eq_true rfl)
  rw [lg_entry_eq]
  generalize (lg_sl [.ref h701, .int x701] ++ List.replicate (2 - (lg_sl [.ref h701, .int x701]).length) Slot.unset).toArray = ls at hl ⊢
  have hl : lv_has ls 2 [(0, .ref h701), (1, .int x701)] := hl
  refine lv_iload_n hx hb dX12_isRoutine_0 rfl (lv_at hl 1 rfl) ?_
  refine lv_iconst (v := 0) hx hb dX12_isRoutine_1 (by decide) ?_
  refine lv_aload_n hx hb dX12_isRoutine_2 rfl (lv_at hl 0 rfl) ?_
  refine va_get (D := (dC, dI)) (ci := 12) (v := .int 0) (C := RX12) (T := TX12) (N := 87) hx hb hts in_k_X12_isRoutine_0_12 hown hK hP 0 rfl rfl 10 (by decide) (hts (.fieldLink RX12 391 "LineKeeperModel" "routines" "I") (List.mem_of_getElem? (i := 1) rfl)) (fun _ h9 => h9) rfl dX12_isRoutine_3 ?_
  refine lv_iconst (v := 1) hx hb dX12_isRoutine_6 (by decide) ?_
  refine lv_isub hx hb dX12_isRoutine_7 ?_
  refine vx_topc (v := (-1)) (by decide) ?_
  have hPc := hP.sub (ws' := []) [] rfl
  have hDc := hD.sub (ws' := []) [] (by decide) rfl
  have hKc := hK.sub (tys' := []) [] rfl
  have hFc := va_free (wc := []) hD hS hA [] rfl
  refine va_calli (va_runS (As := [.int x701, .int 0, .int (-1)]) (rest := []) ⟨hx, hb, hml, hown, hts⟩ (k_in l dC dI x701 0 (-1) H.size ) (cwS 3 hts g_k_X12_isRoutine_0_k_in_188 rfl rfl rfl (by decide +kernel) ⟨(Nat.le_of_ble_eq_true rfl), (Nat.le_of_ble_eq_true rfl)⟩) (vx_preS hPc hKc hDc hN) rfl rfl hl.1 rfl (lv_room (Nat.le_of_ble_eq_true rfl)) dX12_isRoutine_8 ⟨(Nat.le_of_ble_eq_true rfl), (Nat.le_of_ble_eq_true rfl)⟩) hS (fun q _ h => hFc q h) hFc (fun r1 u t H1 locs ht hvm hw hB hz1 hk1 hS => ?_)
  obtain ⟨hP1, hK1, hD1⟩ := hB
  rw [ht] at hP1
  obtain ⟨hP, hD⟩ := va_join (wr := [(h701, .inr (12, fsM g701))]) (w1 := []) hP hD [] [0] rfl rfl (by decide) (by decide) hk1 hFc hP1 hD1
  generalize H1 = H at hP hS ⊢
  have hP : va_P (dC, dI) vwCl [(h701, .inr (12, fsM g701))] H := hP
  have hD : va_D A [(h701, .inr (12, fsM g701))] := hD
  refine W.widen (k := 0) (n := 0) (by decide) (by decide) ?_
  try dsimp only at hw
  have hw_r1 := hw
  have hP9 := hP.sub (ws' := [(h701, .inr (12, fsM g701))]) [0] rfl
  have hD9 := hD.sub (ws' := [(h701, .inr (12, fsM g701))]) [0] (by decide) rfl
  have hK9 := hK.sub (tys' := []) [] rfl
  have er : r1 = 0 := hw_r1.trans (vx_bin_no (by decide))
  subst er
  exact W.zret (ty := .boolean) (v := 0) hx hb hr rfl (fun t ht hW => ⟨⟨0, (), rfl, rfl, by rw [ht]; exact hP9, va_K.moved hW.alike hK9, hD9⟩, hS.F ht⟩) hS.2.2 dX12_isRoutine_11

def w_m_routine : List Cond := .code yX12_routine cX12_routine 3 (some .int) :: ([.fieldLink RX12 185 "LineKeeperModel" "code" "I", .fieldLink RX12 391 "LineKeeperModel" "routines" "I", .code yX12_in cX12_in 3 (some .boolean), .initialized RX12, .methodLink RX12 188 yX12_in, .static yX12_in, .code yX12_isRoutine cX12_isRoutine 2 (some .boolean), .methodLink RX12 404 yX12_isRoutine, .instanceMethod yX12_isRoutine, .selects RX12 yX12_isRoutine yX12_isRoutine] ++ wsX120)
theorem in_m_routine_12 : ∀ w ∈ wsX120, w ∈ w_m_routine := fun _ h => List.mem_cons_of_mem _ (List.mem_append_right _ h)
set_option maxRecDepth 100000 in
theorem g_m_routine_k_X12_isRoutine_0_404 : GoodIn w_m_routine (wsV RX12 404 RX12 yX12_isRoutine w_k_X12_isRoutine_0) := goodIn_r _ [8, 9, 10, 4, 7, 2, 3, 4, 5, 6, 11, 12, 13, 14, 15, 16, 17, 18, 19, 20, 21, 22, 23, 24, 25, 26, 27, 28, 29, 30, 31, 32, 33, 34, 35, 36, 37, 38, 39, 40, 41, 42, 43, 44, 45, 46, 47, 48, 49, 50, 51, 52, 53, 54, 55, 56, 57, 58, 59, 60, 61, 62, 63, 64, 65, 66, 67, 68, 69, 70, 71, 72, 73, 74, 75, 76, 77, 78, 79, 80, 81, 82, 83, 84, 85, 86, 87, 88, 89, 90, 91, 92, 93, 94, 95, 96, 97] (by decide +kernel) (by decide +kernel)
set_option maxHeartbeats 4000000 in
set_option maxRecDepth 100000 in
theorem m_routine (l : Launch) (dC : Nat → ClassId) (dI : Nat → Nat → Nat) (h0 : Nat) (g : Nat → Nat) (p1 : Int32) (p2 : Int32) (sz : Nat) : Met l yX12_routine w_m_routine { frames := 2, cells := 0, slots := 0, locals := 43 } (va_Pc [.ref h0, .int p1, .int p2] (vx_pre dC dI [(h0, .inr (12, fsM g))] [] sz)) (va_Qi (fun (r : Int32) (_ : Unit) => r = (-1)) (fun _ t => vx_B dC dI (va_A [(h0, .inr (12, fsM g))] sz) [] [] t) (va_A [(h0, .inr (12, fsM g))] sz)) 0 0 (va_A [(h0, .inr (12, fsM g))] sz) := by
  refine Met.ofW (cc := cX12_routine) (maxL := 3) (ret := (some .int)) (by decide) rfl ?_
  intro p e s m args below meth c s₁ B hml hv
  obtain ⟨rfl, hsz, hP, hK, hD0, hN⟩ := hv
  have hx := B.exec
  have hb := B.bytes
  have hr := B.returns
  have hts := atoms_spec (ws := w_m_routine) B.pre
  have hown : s.vm.findClass RX12 = some m.cls := findClass_of_methodNamed B.named
  have hlocks := B.notSynchronized
  subst hsz
  have hD := hD0.self (sz := s.heap.size)
  generalize hAe : va_A [(h0, .inr (12, fsM g))] s.heap.size = A at hD ⊢
  have hA : ∀ q : Nat, s.heap.size ≤ q → A q := fun q h => by rw [← hAe]; exact Or.inr h
  obtain ⟨H, hHe⟩ : ∃ H, H = s.heap := ⟨_, rfl⟩
  rw [← hHe] at hP ⊢
  have hS : va_S A s.heap H [] := by rw [hHe]; exact va_S.rf
  have hl := lv_entry [.ref h0, .int p1, .int p2] (n := 3) (Nat.le_of_ble_eq_true rfl)
  rw [lg_entry_eq]
  generalize (lg_sl [.ref h0, .int p1, .int p2] ++ List.replicate (3 - (lg_sl [.ref h0, .int p1, .int p2]).length) Slot.unset).toArray = ls at hl ⊢
  have hl : lv_has ls 3 [(0, .ref h0), (1, .int p1), (2, .int p2)] := hl
  refine lv_aload_n hx hb dX12_routine_0 rfl (lv_at hl 0 rfl) ?_
  refine lv_iconst (v := 0) hx hb dX12_routine_1 (by decide) ?_
  refine va_put (D := (dC, dI)) (ci := 12) (v := .int 0) (ty := .int) (C := RX12) (T := TX12) (N := 87) hx hb hts in_m_routine_12 tyX12 tyX12_ok nmX12 hown hK hP hD hS 0 rfl rfl 0 (by decide) (hts (.fieldLink RX12 185 "LineKeeperModel" "code" "I") (List.mem_of_getElem? (i := 1) rfl)) (fun _ h9 => h9) rfl (tyX12_ok 0 (by decide)) rfl rfl (Nat.le_of_ble_eq_true rfl) dX12_routine_2 (fun H locs hP hD hS => ?_)
  have hP : va_P (dC, dI) vwCl [(h0, .inr (12, fsM g))] H := hP
  have hD : va_D A [(h0, .inr (12, fsM g))] := hD
  refine lv_aload_n hx hb dX12_routine_5 rfl (lv_at hl 0 rfl) ?_
  refine lv_iload_n hx hb dX12_routine_6 rfl (lv_at hl 1 rfl) ?_
  have hPc := hP.sub (ws' := [(h0, .inr (12, fsM g))]) [0] rfl
  have hDc := hD.sub (ws' := [(h0, .inr (12, fsM g))]) [0] (by decide) rfl
  have hKc := hK.sub (tys' := []) [] rfl
  have hFc := va_free (wc := [(h0, .inr (12, fsM g))]) hD hS hA [0] rfl
  refine va_calli (va_runV (As := [.int p1]) (rest := []) ⟨hx, hb, hml, hown, hts⟩ (k_X12_isRoutine_0 l dC dI h0 p1 g H.size ) (cwV 1 hts g_m_routine_k_X12_isRoutine_0_404 rfl rfl rfl (by decide +kernel) ⟨(Nat.le_of_ble_eq_true rfl), (Nat.le_of_ble_eq_true rfl)⟩) (vx_preV (ci := 12) (q0 := 0) hPc hKc hDc hN rfl rfl) rfl rfl hl.1 rfl (lv_room (Nat.le_of_ble_eq_true rfl)) dX12_routine_7 ⟨(Nat.le_of_ble_eq_true rfl), (Nat.le_of_ble_eq_true rfl)⟩) hS (fun q _ h => hFc q h) hFc (fun r1 u t H1 locs ht hvm hw hB hz1 hk1 hS => ?_)
  obtain ⟨hP1, hK1, hD1⟩ := hB
  rw [ht] at hP1
  obtain ⟨hP, hD⟩ := va_join (wr := []) (w1 := [(h0, .inr (12, fsM g))]) hP hD [0] [] rfl rfl (by decide) (by decide) hk1 hFc hP1 hD1
  generalize H1 = H at hP hS ⊢
  have hP : va_P (dC, dI) vwCl [(h0, .inr (12, fsM g))] H := hP
  have hD : va_D A [(h0, .inr (12, fsM g))] := hD
  refine W.widen (k := 0) (n := 0) (by decide) (by decide) ?_
  try dsimp only at hw
  subst hw
  refine lv_if_ne (tgt := 15) hx hb dX12_routine_10 (by decide) (fun h => absurd (by decide) h) (fun _ => ?_)
  refine lv_iconst (v := (-1)) hx hb dX12_routine_13 (by decide) ?_
  have hP9 := hP.sub (ws' := []) [] rfl
  have hD9 := hD.sub (ws' := []) [] (by decide) rfl
  have hK9 := hK.sub (tys' := []) [] rfl
  exact W.iret (v := (-1)) hx hb hr (fun t ht hW => ⟨⟨(-1), (), rfl, rfl, by rw [ht]; exact hP9, va_K.moved hW.alike hK9, hD9⟩, hS.F ht⟩) hS.2.2 dX12_routine_14

def w_m_item : List Cond := .code yX12_item cX12_item 6 (some .int) :: ([.fieldLink RX12 185 "LineKeeperModel" "code" "I", .fieldLink RX12 391 "LineKeeperModel" "routines" "I", .code yX12_in cX12_in 3 (some .boolean), .initialized RX12, .methodLink RX12 188 yX12_in, .static yX12_in, .code yX12_isRoutine cX12_isRoutine 2 (some .boolean), .methodLink RX12 404 yX12_isRoutine, .instanceMethod yX12_isRoutine, .selects RX12 yX12_isRoutine yX12_isRoutine] ++ wsX120)
theorem in_m_item_12 : ∀ w ∈ wsX120, w ∈ w_m_item := fun _ h => List.mem_cons_of_mem _ (List.mem_append_right _ h)
set_option maxRecDepth 100000 in
theorem g_m_item_k_X12_isRoutine_0_404 : GoodIn w_m_item (wsV RX12 404 RX12 yX12_isRoutine w_k_X12_isRoutine_0) := goodIn_r _ [8, 9, 10, 4, 7, 2, 3, 4, 5, 6, 11, 12, 13, 14, 15, 16, 17, 18, 19, 20, 21, 22, 23, 24, 25, 26, 27, 28, 29, 30, 31, 32, 33, 34, 35, 36, 37, 38, 39, 40, 41, 42, 43, 44, 45, 46, 47, 48, 49, 50, 51, 52, 53, 54, 55, 56, 57, 58, 59, 60, 61, 62, 63, 64, 65, 66, 67, 68, 69, 70, 71, 72, 73, 74, 75, 76, 77, 78, 79, 80, 81, 82, 83, 84, 85, 86, 87, 88, 89, 90, 91, 92, 93, 94, 95, 96, 97] (by decide +kernel) (by decide +kernel)
set_option maxHeartbeats 4000000 in
set_option maxRecDepth 100000 in
theorem m_item (l : Launch) (dC : Nat → ClassId) (dI : Nat → Nat → Nat) (h0 : Nat) (g : Nat → Nat) (p1 : Int32) (p2 : Int32) (p3 : Int32) (sz : Nat) : Met l yX12_item w_m_item { frames := 2, cells := 0, slots := 0, locals := 43 } (va_Pc [.ref h0, .int p1, .int p2, .int p3] (vx_pre dC dI [(h0, .inr (12, fsM g))] [] sz)) (va_Qi (fun (r : Int32) (_ : Unit) => r = (-1)) (fun _ t => vx_B dC dI (va_A [(h0, .inr (12, fsM g))] sz) [] [] t) (va_A [(h0, .inr (12, fsM g))] sz)) 0 0 (va_A [(h0, .inr (12, fsM g))] sz) := by
  refine Met.ofW (cc := cX12_item) (maxL := 6) (ret := (some .int)) (by decide) rfl ?_
  intro p e s m args below meth c s₁ B hml hv
  obtain ⟨rfl, hsz, hP, hK, hD0, hN⟩ := hv
  have hx := B.exec
  have hb := B.bytes
  have hr := B.returns
  have hts := atoms_spec (ws := w_m_item) B.pre
  have hown : s.vm.findClass RX12 = some m.cls := findClass_of_methodNamed B.named
  have hlocks := B.notSynchronized
  subst hsz
  have hD := hD0.self (sz := s.heap.size)
  generalize hAe : va_A [(h0, .inr (12, fsM g))] s.heap.size = A at hD ⊢
  have hA : ∀ q : Nat, s.heap.size ≤ q → A q := fun q h => by rw [← hAe]; exact Or.inr h
  obtain ⟨H, hHe⟩ : ∃ H, H = s.heap := ⟨_, rfl⟩
  rw [← hHe] at hP ⊢
  have hS : va_S A s.heap H [] := by rw [hHe]; exact va_S.rf
  have hl := lv_entry [.ref h0, .int p1, .int p2, .int p3] (n := 6) (Nat.le_of_ble_eq_true rfl)
  rw [lg_entry_eq]
  generalize (lg_sl [.ref h0, .int p1, .int p2, .int p3] ++ List.replicate (6 - (lg_sl [.ref h0, .int p1, .int p2, .int p3]).length) Slot.unset).toArray = ls at hl ⊢
  have hl : lv_has ls 6 [(0, .ref h0), (1, .int p1), (2, .int p2), (3, .int p3)] := hl
  refine lv_aload_n hx hb dX12_item_0 rfl (lv_at hl 0 rfl) ?_
  refine lv_iconst (v := 0) hx hb dX12_item_1 (by decide) ?_
  refine va_put (D := (dC, dI)) (ci := 12) (v := .int 0) (ty := .int) (C := RX12) (T := TX12) (N := 87) hx hb hts in_m_item_12 tyX12 tyX12_ok nmX12 hown hK hP hD hS 0 rfl rfl 0 (by decide) (hts (.fieldLink RX12 185 "LineKeeperModel" "code" "I") (List.mem_of_getElem? (i := 1) rfl)) (fun _ h9 => h9) rfl (tyX12_ok 0 (by decide)) rfl rfl (Nat.le_of_ble_eq_true rfl) dX12_item_2 (fun H locs hP hD hS => ?_)
  have hP : va_P (dC, dI) vwCl [(h0, .inr (12, fsM g))] H := hP
  have hD : va_D A [(h0, .inr (12, fsM g))] := hD
  refine lv_aload_n hx hb dX12_item_5 rfl (lv_at hl 0 rfl) ?_
  refine lv_iload_n hx hb dX12_item_6 rfl (lv_at hl 1 rfl) ?_
  have hPc := hP.sub (ws' := [(h0, .inr (12, fsM g))]) [0] rfl
  have hDc := hD.sub (ws' := [(h0, .inr (12, fsM g))]) [0] (by decide) rfl
  have hKc := hK.sub (tys' := []) [] rfl
  have hFc := va_free (wc := [(h0, .inr (12, fsM g))]) hD hS hA [0] rfl
  refine va_calli (va_runV (As := [.int p1]) (rest := []) ⟨hx, hb, hml, hown, hts⟩ (k_X12_isRoutine_0 l dC dI h0 p1 g H.size ) (cwV 1 hts g_m_item_k_X12_isRoutine_0_404 rfl rfl rfl (by decide +kernel) ⟨(Nat.le_of_ble_eq_true rfl), (Nat.le_of_ble_eq_true rfl)⟩) (vx_preV (ci := 12) (q0 := 0) hPc hKc hDc hN rfl rfl) rfl rfl hl.1 rfl (lv_room (Nat.le_of_ble_eq_true rfl)) dX12_item_7 ⟨(Nat.le_of_ble_eq_true rfl), (Nat.le_of_ble_eq_true rfl)⟩) hS (fun q _ h => hFc q h) hFc (fun r1 u t H1 locs ht hvm hw hB hz1 hk1 hS => ?_)
  obtain ⟨hP1, hK1, hD1⟩ := hB
  rw [ht] at hP1
  obtain ⟨hP, hD⟩ := va_join (wr := []) (w1 := [(h0, .inr (12, fsM g))]) hP hD [0] [] rfl rfl (by decide) (by decide) hk1 hFc hP1 hD1
  generalize H1 = H at hP hS ⊢
  have hP : va_P (dC, dI) vwCl [(h0, .inr (12, fsM g))] H := hP
  have hD : va_D A [(h0, .inr (12, fsM g))] := hD
  refine W.widen (k := 0) (n := 0) (by decide) (by decide) ?_
  try dsimp only at hw
  subst hw
  refine lv_if_eq (tgt := 39) hx hb dX12_item_10 (by decide) (fun _ => ?_) (fun h => absurd (by decide) h)
  refine lv_iconst (v := (-1)) hx hb dX12_item_39 (by decide) ?_
  have hP9 := hP.sub (ws' := []) [] rfl
  have hD9 := hD.sub (ws' := []) [] (by decide) rfl
  have hK9 := hK.sub (tys' := []) [] rfl
  exact W.iret (v := (-1)) hx hb hr (fun t ht hW => ⟨⟨(-1), (), rfl, rfl, by rw [ht]; exact hP9, va_K.moved hW.alike hK9, hD9⟩, hS.F ht⟩) hS.2.2 dX12_item_40

def w_m_frame : List Cond := .code yX12_frame cX12_frame 5 (some .int) :: ([.fieldLink RX12 185 "LineKeeperModel" "code" "I", .fieldLink RX12 391 "LineKeeperModel" "routines" "I", .code yX12_in cX12_in 3 (some .boolean), .initialized RX12, .methodLink RX12 188 yX12_in, .static yX12_in, .code yX12_isRoutine cX12_isRoutine 2 (some .boolean), .methodLink RX12 404 yX12_isRoutine, .instanceMethod yX12_isRoutine, .selects RX12 yX12_isRoutine yX12_isRoutine] ++ wsX120)
theorem in_m_frame_12 : ∀ w ∈ wsX120, w ∈ w_m_frame := fun _ h => List.mem_cons_of_mem _ (List.mem_append_right _ h)
set_option maxRecDepth 100000 in
theorem g_m_frame_k_X12_isRoutine_0_404 : GoodIn w_m_frame (wsV RX12 404 RX12 yX12_isRoutine w_k_X12_isRoutine_0) := goodIn_r _ [8, 9, 10, 4, 7, 2, 3, 4, 5, 6, 11, 12, 13, 14, 15, 16, 17, 18, 19, 20, 21, 22, 23, 24, 25, 26, 27, 28, 29, 30, 31, 32, 33, 34, 35, 36, 37, 38, 39, 40, 41, 42, 43, 44, 45, 46, 47, 48, 49, 50, 51, 52, 53, 54, 55, 56, 57, 58, 59, 60, 61, 62, 63, 64, 65, 66, 67, 68, 69, 70, 71, 72, 73, 74, 75, 76, 77, 78, 79, 80, 81, 82, 83, 84, 85, 86, 87, 88, 89, 90, 91, 92, 93, 94, 95, 96, 97] (by decide +kernel) (by decide +kernel)
set_option maxHeartbeats 4000000 in
set_option maxRecDepth 100000 in
theorem m_frame (l : Launch) (dC : Nat → ClassId) (dI : Nat → Nat → Nat) (h0 : Nat) (g : Nat → Nat) (p1 : Int32) (p2 : Int32) (p3 : Int32) (sz : Nat) : Met l yX12_frame w_m_frame { frames := 2, cells := 0, slots := 0, locals := 43 } (va_Pc [.ref h0, .int p1, .int p2, .int p3] (vx_pre dC dI [(h0, .inr (12, fsM g))] [] sz)) (va_Qi (fun (r : Int32) (_ : Unit) => r = (-1)) (fun _ t => vx_B dC dI (va_A [(h0, .inr (12, fsM g))] sz) [] [] t) (va_A [(h0, .inr (12, fsM g))] sz)) 0 0 (va_A [(h0, .inr (12, fsM g))] sz) := by
  refine Met.ofW (cc := cX12_frame) (maxL := 5) (ret := (some .int)) (by decide) rfl ?_
  intro p e s m args below meth c s₁ B hml hv
  obtain ⟨rfl, hsz, hP, hK, hD0, hN⟩ := hv
  have hx := B.exec
  have hb := B.bytes
  have hr := B.returns
  have hts := atoms_spec (ws := w_m_frame) B.pre
  have hown : s.vm.findClass RX12 = some m.cls := findClass_of_methodNamed B.named
  have hlocks := B.notSynchronized
  subst hsz
  have hD := hD0.self (sz := s.heap.size)
  generalize hAe : va_A [(h0, .inr (12, fsM g))] s.heap.size = A at hD ⊢
  have hA : ∀ q : Nat, s.heap.size ≤ q → A q := fun q h => by rw [← hAe]; exact Or.inr h
  obtain ⟨H, hHe⟩ : ∃ H, H = s.heap := ⟨_, rfl⟩
  rw [← hHe] at hP ⊢
  have hS : va_S A s.heap H [] := by rw [hHe]; exact va_S.rf
  have hl := lv_entry [.ref h0, .int p1, .int p2, .int p3] (n := 5) (Nat.le_of_ble_eq_true rfl)
  rw [lg_entry_eq]
  generalize (lg_sl [.ref h0, .int p1, .int p2, .int p3] ++ List.replicate (5 - (lg_sl [.ref h0, .int p1, .int p2, .int p3]).length) Slot.unset).toArray = ls at hl ⊢
  have hl : lv_has ls 5 [(0, .ref h0), (1, .int p1), (2, .int p2), (3, .int p3)] := hl
  refine lv_aload_n hx hb dX12_frame_0 rfl (lv_at hl 0 rfl) ?_
  refine lv_iconst (v := 0) hx hb dX12_frame_1 (by decide) ?_
  refine va_put (D := (dC, dI)) (ci := 12) (v := .int 0) (ty := .int) (C := RX12) (T := TX12) (N := 87) hx hb hts in_m_frame_12 tyX12 tyX12_ok nmX12 hown hK hP hD hS 0 rfl rfl 0 (by decide) (hts (.fieldLink RX12 185 "LineKeeperModel" "code" "I") (List.mem_of_getElem? (i := 1) rfl)) (fun _ h9 => h9) rfl (tyX12_ok 0 (by decide)) rfl rfl (Nat.le_of_ble_eq_true rfl) dX12_frame_2 (fun H locs hP hD hS => ?_)
  have hP : va_P (dC, dI) vwCl [(h0, .inr (12, fsM g))] H := hP
  have hD : va_D A [(h0, .inr (12, fsM g))] := hD
  refine lv_aload_n hx hb dX12_frame_5 rfl (lv_at hl 0 rfl) ?_
  refine lv_iload_n hx hb dX12_frame_6 rfl (lv_at hl 1 rfl) ?_
  have hPc := hP.sub (ws' := [(h0, .inr (12, fsM g))]) [0] rfl
  have hDc := hD.sub (ws' := [(h0, .inr (12, fsM g))]) [0] (by decide) rfl
  have hKc := hK.sub (tys' := []) [] rfl
  have hFc := va_free (wc := [(h0, .inr (12, fsM g))]) hD hS hA [0] rfl
  refine va_calli (va_runV (As := [.int p1]) (rest := []) ⟨hx, hb, hml, hown, hts⟩ (k_X12_isRoutine_0 l dC dI h0 p1 g H.size ) (cwV 1 hts g_m_frame_k_X12_isRoutine_0_404 rfl rfl rfl (by decide +kernel) ⟨(Nat.le_of_ble_eq_true rfl), (Nat.le_of_ble_eq_true rfl)⟩) (vx_preV (ci := 12) (q0 := 0) hPc hKc hDc hN rfl rfl) rfl rfl hl.1 rfl (lv_room (Nat.le_of_ble_eq_true rfl)) dX12_frame_7 ⟨(Nat.le_of_ble_eq_true rfl), (Nat.le_of_ble_eq_true rfl)⟩) hS (fun q _ h => hFc q h) hFc (fun r1 u t H1 locs ht hvm hw hB hz1 hk1 hS => ?_)
  obtain ⟨hP1, hK1, hD1⟩ := hB
  rw [ht] at hP1
  obtain ⟨hP, hD⟩ := va_join (wr := []) (w1 := [(h0, .inr (12, fsM g))]) hP hD [0] [] rfl rfl (by decide) (by decide) hk1 hFc hP1 hD1
  generalize H1 = H at hP hS ⊢
  have hP : va_P (dC, dI) vwCl [(h0, .inr (12, fsM g))] H := hP
  have hD : va_D A [(h0, .inr (12, fsM g))] := hD
  refine W.widen (k := 0) (n := 0) (by decide) (by decide) ?_
  try dsimp only at hw
  subst hw
  refine lv_if_eq (tgt := 29) hx hb dX12_frame_10 (by decide) (fun _ => ?_) (fun h => absurd (by decide) h)
  refine lv_iconst (v := (-1)) hx hb dX12_frame_29 (by decide) ?_
  have hP9 := hP.sub (ws' := []) [] rfl
  have hD9 := hD.sub (ws' := []) [] (by decide) rfl
  have hK9 := hK.sub (tys' := []) [] rfl
  exact W.iret (v := (-1)) hx hb hr (fun t ht hW => ⟨⟨(-1), (), rfl, rfl, by rw [ht]; exact hP9, va_K.moved hW.alike hK9, hD9⟩, hS.F ht⟩) hS.2.2 dX12_frame_30

def w_m_told : List Cond := .code yX12_told cX12_told 7 (some .int) :: ([.fieldLink RX12 185 "LineKeeperModel" "code" "I", .fieldLink RX12 391 "LineKeeperModel" "routines" "I", .code yX12_in cX12_in 3 (some .boolean), .initialized RX12, .methodLink RX12 188 yX12_in, .static yX12_in, .code yX12_isRoutine cX12_isRoutine 2 (some .boolean), .methodLink RX12 404 yX12_isRoutine, .instanceMethod yX12_isRoutine, .selects RX12 yX12_isRoutine yX12_isRoutine] ++ wsX120)
theorem in_m_told_12 : ∀ w ∈ wsX120, w ∈ w_m_told := fun _ h => List.mem_cons_of_mem _ (List.mem_append_right _ h)
set_option maxRecDepth 100000 in
theorem g_m_told_k_X12_isRoutine_0_404 : GoodIn w_m_told (wsV RX12 404 RX12 yX12_isRoutine w_k_X12_isRoutine_0) := goodIn_r _ [8, 9, 10, 4, 7, 2, 3, 4, 5, 6, 11, 12, 13, 14, 15, 16, 17, 18, 19, 20, 21, 22, 23, 24, 25, 26, 27, 28, 29, 30, 31, 32, 33, 34, 35, 36, 37, 38, 39, 40, 41, 42, 43, 44, 45, 46, 47, 48, 49, 50, 51, 52, 53, 54, 55, 56, 57, 58, 59, 60, 61, 62, 63, 64, 65, 66, 67, 68, 69, 70, 71, 72, 73, 74, 75, 76, 77, 78, 79, 80, 81, 82, 83, 84, 85, 86, 87, 88, 89, 90, 91, 92, 93, 94, 95, 96, 97] (by decide +kernel) (by decide +kernel)
set_option maxHeartbeats 4000000 in
set_option maxRecDepth 100000 in
theorem m_told (l : Launch) (dC : Nat → ClassId) (dI : Nat → Nat → Nat) (h0 : Nat) (g : Nat → Nat) (p1 : Int32) (p2 : Int32) (p3 : Int32) (p4 : Int32) (p5 : Int32) (sz : Nat) : Met l yX12_told w_m_told { frames := 2, cells := 0, slots := 0, locals := 43 } (va_Pc [.ref h0, .int p1, .int p2, .int p3, .int p4, .int p5] (vx_pre dC dI [(h0, .inr (12, fsM g))] [] sz)) (va_Qi (fun (r : Int32) (_ : Unit) => r = (-1)) (fun _ t => vx_B dC dI (va_A [(h0, .inr (12, fsM g))] sz) [] [] t) (va_A [(h0, .inr (12, fsM g))] sz)) 0 0 (va_A [(h0, .inr (12, fsM g))] sz) := by
  refine Met.ofW (cc := cX12_told) (maxL := 7) (ret := (some .int)) (by decide) rfl ?_
  intro p e s m args below meth c s₁ B hml hv
  obtain ⟨rfl, hsz, hP, hK, hD0, hN⟩ := hv
  have hx := B.exec
  have hb := B.bytes
  have hr := B.returns
  have hts := atoms_spec (ws := w_m_told) B.pre
  have hown : s.vm.findClass RX12 = some m.cls := findClass_of_methodNamed B.named
  have hlocks := B.notSynchronized
  subst hsz
  have hD := hD0.self (sz := s.heap.size)
  generalize hAe : va_A [(h0, .inr (12, fsM g))] s.heap.size = A at hD ⊢
  have hA : ∀ q : Nat, s.heap.size ≤ q → A q := fun q h => by rw [← hAe]; exact Or.inr h
  obtain ⟨H, hHe⟩ : ∃ H, H = s.heap := ⟨_, rfl⟩
  rw [← hHe] at hP ⊢
  have hS : va_S A s.heap H [] := by rw [hHe]; exact va_S.rf
  have hl := lv_entry [.ref h0, .int p1, .int p2, .int p3, .int p4, .int p5] (n := 7) (Nat.le_of_ble_eq_true rfl)
  rw [lg_entry_eq]
  generalize (lg_sl [.ref h0, .int p1, .int p2, .int p3, .int p4, .int p5] ++ List.replicate (7 - (lg_sl [.ref h0, .int p1, .int p2, .int p3, .int p4, .int p5]).length) Slot.unset).toArray = ls at hl ⊢
  have hl : lv_has ls 7 [(0, .ref h0), (1, .int p1), (2, .int p2), (3, .int p3), (4, .int p4), (5, .int p5)] := hl
  refine lv_aload_n hx hb dX12_told_0 rfl (lv_at hl 0 rfl) ?_
  refine lv_iconst (v := 0) hx hb dX12_told_1 (by decide) ?_
  refine va_put (D := (dC, dI)) (ci := 12) (v := .int 0) (ty := .int) (C := RX12) (T := TX12) (N := 87) hx hb hts in_m_told_12 tyX12 tyX12_ok nmX12 hown hK hP hD hS 0 rfl rfl 0 (by decide) (hts (.fieldLink RX12 185 "LineKeeperModel" "code" "I") (List.mem_of_getElem? (i := 1) rfl)) (fun _ h9 => h9) rfl (tyX12_ok 0 (by decide)) rfl rfl (Nat.le_of_ble_eq_true rfl) dX12_told_2 (fun H locs hP hD hS => ?_)
  have hP : va_P (dC, dI) vwCl [(h0, .inr (12, fsM g))] H := hP
  have hD : va_D A [(h0, .inr (12, fsM g))] := hD
  refine lv_aload_n hx hb dX12_told_5 rfl (lv_at hl 0 rfl) ?_
  refine lv_iload_n hx hb dX12_told_6 rfl (lv_at hl 1 rfl) ?_
  have hPc := hP.sub (ws' := [(h0, .inr (12, fsM g))]) [0] rfl
  have hDc := hD.sub (ws' := [(h0, .inr (12, fsM g))]) [0] (by decide) rfl
  have hKc := hK.sub (tys' := []) [] rfl
  have hFc := va_free (wc := [(h0, .inr (12, fsM g))]) hD hS hA [0] rfl
  refine va_calli (va_runV (As := [.int p1]) (rest := []) ⟨hx, hb, hml, hown, hts⟩ (k_X12_isRoutine_0 l dC dI h0 p1 g H.size ) (cwV 1 hts g_m_told_k_X12_isRoutine_0_404 rfl rfl rfl (by decide +kernel) ⟨(Nat.le_of_ble_eq_true rfl), (Nat.le_of_ble_eq_true rfl)⟩) (vx_preV (ci := 12) (q0 := 0) hPc hKc hDc hN rfl rfl) rfl rfl hl.1 rfl (lv_room (Nat.le_of_ble_eq_true rfl)) dX12_told_7 ⟨(Nat.le_of_ble_eq_true rfl), (Nat.le_of_ble_eq_true rfl)⟩) hS (fun q _ h => hFc q h) hFc (fun r1 u t H1 locs ht hvm hw hB hz1 hk1 hS => ?_)
  obtain ⟨hP1, hK1, hD1⟩ := hB
  rw [ht] at hP1
  obtain ⟨hP, hD⟩ := va_join (wr := []) (w1 := [(h0, .inr (12, fsM g))]) hP hD [0] [] rfl rfl (by decide) (by decide) hk1 hFc hP1 hD1
  generalize H1 = H at hP hS ⊢
  have hP : va_P (dC, dI) vwCl [(h0, .inr (12, fsM g))] H := hP
  have hD : va_D A [(h0, .inr (12, fsM g))] := hD
  refine W.widen (k := 0) (n := 0) (by decide) (by decide) ?_
  try dsimp only at hw
  subst hw
  refine lv_if_eq (tgt := 80) hx hb dX12_told_10 (by decide) (fun _ => ?_) (fun h => absurd (by decide) h)
  refine lv_iconst (v := (-1)) hx hb dX12_told_80 (by decide) ?_
  have hP9 := hP.sub (ws' := []) [] rfl
  have hD9 := hD.sub (ws' := []) [] (by decide) rfl
  have hK9 := hK.sub (tys' := []) [] rfl
  exact W.iret (v := (-1)) hx hb hr (fun t ht hW => ⟨⟨(-1), (), rfl, rfl, by rw [ht]; exact hP9, va_K.moved hW.alike hK9, hD9⟩, hS.F ht⟩) hS.2.2 dX12_told_81

def w_m_pass : List Cond := .code yX12_pass cX12_pass 3 (some .int) :: ([.fieldLink RX12 185 "LineKeeperModel" "code" "I", .code yX12_in cX12_in 3 (some .boolean), .initialized RX12, .methodLink RX12 188 yX12_in, .static yX12_in, .fieldLink RX12 391 "LineKeeperModel" "routines" "I", .code yX12_isRoutine cX12_isRoutine 2 (some .boolean), .methodLink RX12 404 yX12_isRoutine, .instanceMethod yX12_isRoutine, .selects RX12 yX12_isRoutine yX12_isRoutine] ++ wsX120)
theorem in_m_pass_12 : ∀ w ∈ wsX120, w ∈ w_m_pass := fun _ h => List.mem_cons_of_mem _ (List.mem_append_right _ h)
set_option maxRecDepth 100000 in
theorem g_m_pass_k_in_188 : GoodIn w_m_pass (wsS RX12 188 yX12_in w_k_in) := goodIn_r _ [4, 5, 3, 2] (by decide +kernel) (by decide +kernel)
set_option maxRecDepth 100000 in
theorem g_m_pass_k_X12_isRoutine_0_404 : GoodIn w_m_pass (wsV RX12 404 RX12 yX12_isRoutine w_k_X12_isRoutine_0) := goodIn_r _ [8, 9, 10, 3, 7, 6, 2, 3, 4, 5, 11, 12, 13, 14, 15, 16, 17, 18, 19, 20, 21, 22, 23, 24, 25, 26, 27, 28, 29, 30, 31, 32, 33, 34, 35, 36, 37, 38, 39, 40, 41, 42, 43, 44, 45, 46, 47, 48, 49, 50, 51, 52, 53, 54, 55, 56, 57, 58, 59, 60, 61, 62, 63, 64, 65, 66, 67, 68, 69, 70, 71, 72, 73, 74, 75, 76, 77, 78, 79, 80, 81, 82, 83, 84, 85, 86, 87, 88, 89, 90, 91, 92, 93, 94, 95, 96, 97] (by decide +kernel) (by decide +kernel)
set_option maxHeartbeats 4000000 in
set_option maxRecDepth 100000 in
theorem m_pass (l : Launch) (dC : Nat → ClassId) (dI : Nat → Nat → Nat) (h0 : Nat) (g : Nat → Nat) (p1 : Int32) (p2 : Int32) (sz : Nat) : Met l yX12_pass w_m_pass { frames := 2, cells := 0, slots := 0, locals := 43 } (va_Pc [.ref h0, .int p1, .int p2] (vx_pre dC dI [(h0, .inr (12, fsM g))] [] sz)) (va_Qi (fun (r : Int32) (_ : Unit) => r = (-1)) (fun _ t => vx_B dC dI (va_A [(h0, .inr (12, fsM g))] sz) [] [] t) (va_A [(h0, .inr (12, fsM g))] sz)) 0 0 (va_A [(h0, .inr (12, fsM g))] sz) := by
  refine Met.ofW (cc := cX12_pass) (maxL := 3) (ret := (some .int)) (by decide) rfl ?_
  intro p e s m args below meth c s₁ B hml hv
  obtain ⟨rfl, hsz, hP, hK, hD0, hN⟩ := hv
  have hx := B.exec
  have hb := B.bytes
  have hr := B.returns
  have hts := atoms_spec (ws := w_m_pass) B.pre
  have hown : s.vm.findClass RX12 = some m.cls := findClass_of_methodNamed B.named
  have hlocks := B.notSynchronized
  subst hsz
  have hD := hD0.self (sz := s.heap.size)
  generalize hAe : va_A [(h0, .inr (12, fsM g))] s.heap.size = A at hD ⊢
  have hA : ∀ q : Nat, s.heap.size ≤ q → A q := fun q h => by rw [← hAe]; exact Or.inr h
  obtain ⟨H, hHe⟩ : ∃ H, H = s.heap := ⟨_, rfl⟩
  rw [← hHe] at hP ⊢
  have hS : va_S A s.heap H [] := by rw [hHe]; exact va_S.rf
  have hl := lv_entry [.ref h0, .int p1, .int p2] (n := 3) (Nat.le_of_ble_eq_true rfl)
  rw [lg_entry_eq]
  generalize (lg_sl [.ref h0, .int p1, .int p2] ++ List.replicate (3 - (lg_sl [.ref h0, .int p1, .int p2]).length) Slot.unset).toArray = ls at hl ⊢
  have hl : lv_has ls 3 [(0, .ref h0), (1, .int p1), (2, .int p2)] := hl
  refine lv_aload_n hx hb dX12_pass_0 rfl (lv_at hl 0 rfl) ?_
  refine lv_iconst (v := 0) hx hb dX12_pass_1 (by decide) ?_
  refine va_put (D := (dC, dI)) (ci := 12) (v := .int 0) (ty := .int) (C := RX12) (T := TX12) (N := 87) hx hb hts in_m_pass_12 tyX12 tyX12_ok nmX12 hown hK hP hD hS 0 rfl rfl 0 (by decide) (hts (.fieldLink RX12 185 "LineKeeperModel" "code" "I") (List.mem_of_getElem? (i := 1) rfl)) (fun _ h9 => h9) rfl (tyX12_ok 0 (by decide)) rfl rfl (Nat.le_of_ble_eq_true rfl) dX12_pass_2 (fun H locs hP hD hS => ?_)
  have hP : va_P (dC, dI) vwCl [(h0, .inr (12, fsM g))] H := hP
  have hD : va_D A [(h0, .inr (12, fsM g))] := hD
  refine lv_iload_n hx hb dX12_pass_5 rfl (lv_at hl 1 rfl) ?_
  refine lv_iconst (v := 0) hx hb dX12_pass_6 (by decide) ?_
  refine lv_iconst (v := 5) hx hb dX12_pass_7 (by decide) ?_
  have hPc := hP.sub (ws' := []) [] rfl
  have hDc := hD.sub (ws' := []) [] (by decide) rfl
  have hKc := hK.sub (tys' := []) [] rfl
  have hFc := va_free (wc := []) hD hS hA [] rfl
  refine va_calli (va_runS (As := [.int p1, .int 0, .int 5]) (rest := []) ⟨hx, hb, hml, hown, hts⟩ (k_in l dC dI p1 0 5 H.size ) (cwS 3 hts g_m_pass_k_in_188 rfl rfl rfl (by decide +kernel) ⟨(Nat.le_of_ble_eq_true rfl), (Nat.le_of_ble_eq_true rfl)⟩) (vx_preS hPc hKc hDc hN) rfl rfl hl.1 rfl (lv_room (Nat.le_of_ble_eq_true rfl)) dX12_pass_8 ⟨(Nat.le_of_ble_eq_true rfl), (Nat.le_of_ble_eq_true rfl)⟩) hS (fun q _ h => hFc q h) hFc (fun r1 u t H1 locs ht hvm hw hB hz1 hk1 hS => ?_)
  obtain ⟨hP1, hK1, hD1⟩ := hB
  rw [ht] at hP1
  obtain ⟨hP, hD⟩ := va_join (wr := [(h0, .inr (12, fsM g))]) (w1 := []) hP hD [] [0] rfl rfl (by decide) (by decide) hk1 hFc hP1 hD1
  generalize H1 = H at hP hS ⊢
  have hP : va_P (dC, dI) vwCl [(h0, .inr (12, fsM g))] H := hP
  have hD : va_D A [(h0, .inr (12, fsM g))] := hD
  refine W.widen (k := 0) (n := 0) (by decide) (by decide) ?_
  try dsimp only at hw
  have hw_r1 := hw
  refine lv_if_eq (tgt := 22) hx hb dX12_pass_11 (by decide) (fun c2 => ?_) (fun c2 => ?_)
  · refine lv_iconst (v := (-1)) hx hb dX12_pass_22 (by decide) ?_
    have hP9 := hP.sub (ws' := []) [] rfl
    have hD9 := hD.sub (ws' := []) [] (by decide) rfl
    have hK9 := hK.sub (tys' := []) [] rfl
    exact W.iret (v := (-1)) hx hb hr (fun t ht hW => ⟨⟨(-1), (), rfl, rfl, by rw [ht]; exact hP9, va_K.moved hW.alike hK9, hD9⟩, hS.F ht⟩) hS.2.2 dX12_pass_23
  · refine lv_aload_n hx hb dX12_pass_14 rfl (lv_at hl 0 rfl) ?_
    refine lv_iload_n hx hb dX12_pass_15 rfl (lv_at hl 2 rfl) ?_
    have hPc := hP.sub (ws' := [(h0, .inr (12, fsM g))]) [0] rfl
    have hDc := hD.sub (ws' := [(h0, .inr (12, fsM g))]) [0] (by decide) rfl
    have hKc := hK.sub (tys' := []) [] rfl
    have hFc := va_free (wc := [(h0, .inr (12, fsM g))]) hD hS hA [0] rfl
    refine va_calli (va_runV (As := [.int p2]) (rest := []) ⟨hx, hb, hml, hown, hts⟩ (k_X12_isRoutine_0 l dC dI h0 p2 g H.size ) (cwV 1 hts g_m_pass_k_X12_isRoutine_0_404 rfl rfl rfl (by decide +kernel) ⟨(Nat.le_of_ble_eq_true rfl), (Nat.le_of_ble_eq_true rfl)⟩) (vx_preV (ci := 12) (q0 := 0) hPc hKc hDc hN rfl rfl) rfl rfl hl.1 rfl (lv_room (Nat.le_of_ble_eq_true rfl)) dX12_pass_16 ⟨(Nat.le_of_ble_eq_true rfl), (Nat.le_of_ble_eq_true rfl)⟩) hS (fun q _ h => hFc q h) hFc (fun r3 u t H1 locs ht hvm hw hB hz1 hk1 hS => ?_)
    obtain ⟨hP1, hK1, hD1⟩ := hB
    rw [ht] at hP1
    obtain ⟨hP, hD⟩ := va_join (wr := []) (w1 := [(h0, .inr (12, fsM g))]) hP hD [0] [] rfl rfl (by decide) (by decide) hk1 hFc hP1 hD1
    generalize H1 = H at hP hS ⊢
    have hP : va_P (dC, dI) vwCl [(h0, .inr (12, fsM g))] H := hP
    have hD : va_D A [(h0, .inr (12, fsM g))] := hD
    refine W.widen (k := 0) (n := 0) (by decide) (by decide) ?_
    try dsimp only at hw
    subst hw
    refine lv_if_ne (tgt := 24) hx hb dX12_pass_19 (by decide) (fun h => absurd (by decide) h) (fun _ => ?_)
    refine lv_iconst (v := (-1)) hx hb dX12_pass_22 (by decide) ?_
    have hP9 := hP.sub (ws' := []) [] rfl
    have hD9 := hD.sub (ws' := []) [] (by decide) rfl
    have hK9 := hK.sub (tys' := []) [] rfl
    exact W.iret (v := (-1)) hx hb hr (fun t ht hW => ⟨⟨(-1), (), rfl, rfl, by rw [ht]; exact hP9, va_K.moved hW.alike hK9, hD9⟩, hS.F ht⟩) hS.2.2 dX12_pass_23

def w_m_start : List Cond := .code yX12_start cX12_start 6 (some .boolean) :: ([.fieldLink RX12 185 "LineKeeperModel" "code" "I", .fieldLink RX12 391 "LineKeeperModel" "routines" "I", .code yX12_in cX12_in 3 (some .boolean), .initialized RX12, .methodLink RX12 188 yX12_in, .static yX12_in, .code yX12_isRoutine cX12_isRoutine 2 (some .boolean), .methodLink RX12 404 yX12_isRoutine, .instanceMethod yX12_isRoutine, .selects RX12 yX12_isRoutine yX12_isRoutine] ++ wsX120)
theorem in_m_start_12 : ∀ w ∈ wsX120, w ∈ w_m_start := fun _ h => List.mem_cons_of_mem _ (List.mem_append_right _ h)
set_option maxRecDepth 100000 in
theorem g_m_start_k_X12_isRoutine_0_404 : GoodIn w_m_start (wsV RX12 404 RX12 yX12_isRoutine w_k_X12_isRoutine_0) := goodIn_r _ [8, 9, 10, 4, 7, 2, 3, 4, 5, 6, 11, 12, 13, 14, 15, 16, 17, 18, 19, 20, 21, 22, 23, 24, 25, 26, 27, 28, 29, 30, 31, 32, 33, 34, 35, 36, 37, 38, 39, 40, 41, 42, 43, 44, 45, 46, 47, 48, 49, 50, 51, 52, 53, 54, 55, 56, 57, 58, 59, 60, 61, 62, 63, 64, 65, 66, 67, 68, 69, 70, 71, 72, 73, 74, 75, 76, 77, 78, 79, 80, 81, 82, 83, 84, 85, 86, 87, 88, 89, 90, 91, 92, 93, 94, 95, 96, 97] (by decide +kernel) (by decide +kernel)
set_option maxHeartbeats 4000000 in
set_option maxRecDepth 100000 in
theorem m_start (l : Launch) (dC : Nat → ClassId) (dI : Nat → Nat → Nat) (h0 : Nat) (g : Nat → Nat) (p1 : Int32) (p2 : Int32) (p3 : Int32) (p4 : Int32) (p5 : Int32) (sz : Nat) : Met l yX12_start w_m_start { frames := 2, cells := 0, slots := 0, locals := 43 } (va_Pc [.ref h0, .int p1, .int p2, .int p3, .int p4, .int p5] (vx_pre dC dI [(h0, .inr (12, fsM g))] [] sz)) (va_Qi (fun (r : Int32) (_ : Unit) => r = 0) (fun _ t => vx_B dC dI (va_A [(h0, .inr (12, fsM g))] sz) [] [] t) (va_A [(h0, .inr (12, fsM g))] sz)) 0 0 (va_A [(h0, .inr (12, fsM g))] sz) := by
  refine Met.ofW (cc := cX12_start) (maxL := 6) (ret := (some .boolean)) (by decide) rfl ?_
  intro p e s m args below meth c s₁ B hml hv
  obtain ⟨rfl, hsz, hP, hK, hD0, hN⟩ := hv
  have hx := B.exec
  have hb := B.bytes
  have hr := B.returns
  have hts := atoms_spec (ws := w_m_start) B.pre
  have hown : s.vm.findClass RX12 = some m.cls := findClass_of_methodNamed B.named
  have hlocks := B.notSynchronized
  subst hsz
  have hD := hD0.self (sz := s.heap.size)
  generalize hAe : va_A [(h0, .inr (12, fsM g))] s.heap.size = A at hD ⊢
  have hA : ∀ q : Nat, s.heap.size ≤ q → A q := fun q h => by rw [← hAe]; exact Or.inr h
  obtain ⟨H, hHe⟩ : ∃ H, H = s.heap := ⟨_, rfl⟩
  rw [← hHe] at hP ⊢
  have hS : va_S A s.heap H [] := by rw [hHe]; exact va_S.rf
  have hl := lv_entry [.ref h0, .int p1, .int p2, .int p3, .int p4, .int p5] (n := 6) (Nat.le_of_ble_eq_true rfl)
  rw [lg_entry_eq]
  generalize (lg_sl [.ref h0, .int p1, .int p2, .int p3, .int p4, .int p5] ++ List.replicate (6 - (lg_sl [.ref h0, .int p1, .int p2, .int p3, .int p4, .int p5]).length) Slot.unset).toArray = ls at hl ⊢
  have hl : lv_has ls 6 [(0, .ref h0), (1, .int p1), (2, .int p2), (3, .int p3), (4, .int p4), (5, .int p5)] := hl
  refine lv_aload_n hx hb dX12_start_0 rfl (lv_at hl 0 rfl) ?_
  refine lv_iconst (v := 0) hx hb dX12_start_1 (by decide) ?_
  refine va_put (D := (dC, dI)) (ci := 12) (v := .int 0) (ty := .int) (C := RX12) (T := TX12) (N := 87) hx hb hts in_m_start_12 tyX12 tyX12_ok nmX12 hown hK hP hD hS 0 rfl rfl 0 (by decide) (hts (.fieldLink RX12 185 "LineKeeperModel" "code" "I") (List.mem_of_getElem? (i := 1) rfl)) (fun _ h9 => h9) rfl (tyX12_ok 0 (by decide)) rfl rfl (Nat.le_of_ble_eq_true rfl) dX12_start_2 (fun H locs hP hD hS => ?_)
  have hP : va_P (dC, dI) vwCl [(h0, .inr (12, fsM g))] H := hP
  have hD : va_D A [(h0, .inr (12, fsM g))] := hD
  refine lv_aload_n hx hb dX12_start_5 rfl (lv_at hl 0 rfl) ?_
  refine lv_iload_n hx hb dX12_start_6 rfl (lv_at hl 1 rfl) ?_
  have hPc := hP.sub (ws' := [(h0, .inr (12, fsM g))]) [0] rfl
  have hDc := hD.sub (ws' := [(h0, .inr (12, fsM g))]) [0] (by decide) rfl
  have hKc := hK.sub (tys' := []) [] rfl
  have hFc := va_free (wc := [(h0, .inr (12, fsM g))]) hD hS hA [0] rfl
  refine va_calli (va_runV (As := [.int p1]) (rest := []) ⟨hx, hb, hml, hown, hts⟩ (k_X12_isRoutine_0 l dC dI h0 p1 g H.size ) (cwV 1 hts g_m_start_k_X12_isRoutine_0_404 rfl rfl rfl (by decide +kernel) ⟨(Nat.le_of_ble_eq_true rfl), (Nat.le_of_ble_eq_true rfl)⟩) (vx_preV (ci := 12) (q0 := 0) hPc hKc hDc hN rfl rfl) rfl rfl hl.1 rfl (lv_room (Nat.le_of_ble_eq_true rfl)) dX12_start_7 ⟨(Nat.le_of_ble_eq_true rfl), (Nat.le_of_ble_eq_true rfl)⟩) hS (fun q _ h => hFc q h) hFc (fun r1 u t H1 locs ht hvm hw hB hz1 hk1 hS => ?_)
  obtain ⟨hP1, hK1, hD1⟩ := hB
  rw [ht] at hP1
  obtain ⟨hP, hD⟩ := va_join (wr := []) (w1 := [(h0, .inr (12, fsM g))]) hP hD [0] [] rfl rfl (by decide) (by decide) hk1 hFc hP1 hD1
  generalize H1 = H at hP hS ⊢
  have hP : va_P (dC, dI) vwCl [(h0, .inr (12, fsM g))] H := hP
  have hD : va_D A [(h0, .inr (12, fsM g))] := hD
  refine W.widen (k := 0) (n := 0) (by decide) (by decide) ?_
  try dsimp only at hw
  subst hw
  refine lv_if_ne (tgt := 15) hx hb dX12_start_10 (by decide) (fun h => absurd (by decide) h) (fun _ => ?_)
  refine lv_iconst (v := 0) hx hb dX12_start_13 (by decide) ?_
  have hP9 := hP.sub (ws' := []) [] rfl
  have hD9 := hD.sub (ws' := []) [] (by decide) rfl
  have hK9 := hK.sub (tys' := []) [] rfl
  exact W.zret (ty := .boolean) (v := 0) hx hb hr rfl (fun t ht hW => ⟨⟨0, (), rfl, rfl, by rw [ht]; exact hP9, va_K.moved hW.alike hK9, hD9⟩, hS.F ht⟩) hS.2.2 dX12_start_14

def w_m_beside : List Cond := .code yX12_beside cX12_beside 12 (some .int) :: ([.fieldLink RX12 185 "LineKeeperModel" "code" "I", .fieldLink RX12 391 "LineKeeperModel" "routines" "I", .code yX12_in cX12_in 3 (some .boolean), .initialized RX12, .methodLink RX12 188 yX12_in, .static yX12_in, .code yX12_isRoutine cX12_isRoutine 2 (some .boolean), .methodLink RX12 404 yX12_isRoutine, .instanceMethod yX12_isRoutine, .selects RX12 yX12_isRoutine yX12_isRoutine] ++ wsX120)
theorem in_m_beside_12 : ∀ w ∈ wsX120, w ∈ w_m_beside := fun _ h => List.mem_cons_of_mem _ (List.mem_append_right _ h)
set_option maxRecDepth 100000 in
theorem g_m_beside_k_X12_isRoutine_0_404 : GoodIn w_m_beside (wsV RX12 404 RX12 yX12_isRoutine w_k_X12_isRoutine_0) := goodIn_r _ [8, 9, 10, 4, 7, 2, 3, 4, 5, 6, 11, 12, 13, 14, 15, 16, 17, 18, 19, 20, 21, 22, 23, 24, 25, 26, 27, 28, 29, 30, 31, 32, 33, 34, 35, 36, 37, 38, 39, 40, 41, 42, 43, 44, 45, 46, 47, 48, 49, 50, 51, 52, 53, 54, 55, 56, 57, 58, 59, 60, 61, 62, 63, 64, 65, 66, 67, 68, 69, 70, 71, 72, 73, 74, 75, 76, 77, 78, 79, 80, 81, 82, 83, 84, 85, 86, 87, 88, 89, 90, 91, 92, 93, 94, 95, 96, 97] (by decide +kernel) (by decide +kernel)
set_option maxHeartbeats 4000000 in
set_option maxRecDepth 100000 in
theorem m_beside (l : Launch) (dC : Nat → ClassId) (dI : Nat → Nat → Nat) (h0 : Nat) (g : Nat → Nat) (p1 : Int32) (p2 : Int32) (p3 : Int32) (p4 : Int32) (p5 : Int32) (p6 : Int32) (sz : Nat) : Met l yX12_beside w_m_beside { frames := 2, cells := 0, slots := 0, locals := 43 } (va_Pc [.ref h0, .int p1, .int p2, .int p3, .int p4, .int p5, .int p6] (vx_pre dC dI [(h0, .inr (12, fsM g))] [] sz)) (va_Qi (fun (r : Int32) (_ : Unit) => r = (-1)) (fun _ t => vx_B dC dI (va_A [(h0, .inr (12, fsM g))] sz) [] [] t) (va_A [(h0, .inr (12, fsM g))] sz)) 0 0 (va_A [(h0, .inr (12, fsM g))] sz) := by
  refine Met.ofW (cc := cX12_beside) (maxL := 12) (ret := (some .int)) (by decide) rfl ?_
  intro p e s m args below meth c s₁ B hml hv
  obtain ⟨rfl, hsz, hP, hK, hD0, hN⟩ := hv
  have hx := B.exec
  have hb := B.bytes
  have hr := B.returns
  have hts := atoms_spec (ws := w_m_beside) B.pre
  have hown : s.vm.findClass RX12 = some m.cls := findClass_of_methodNamed B.named
  have hlocks := B.notSynchronized
  subst hsz
  have hD := hD0.self (sz := s.heap.size)
  generalize hAe : va_A [(h0, .inr (12, fsM g))] s.heap.size = A at hD ⊢
  have hA : ∀ q : Nat, s.heap.size ≤ q → A q := fun q h => by rw [← hAe]; exact Or.inr h
  obtain ⟨H, hHe⟩ : ∃ H, H = s.heap := ⟨_, rfl⟩
  rw [← hHe] at hP ⊢
  have hS : va_S A s.heap H [] := by rw [hHe]; exact va_S.rf
  have hl := lv_entry [.ref h0, .int p1, .int p2, .int p3, .int p4, .int p5, .int p6] (n := 12) (Nat.le_of_ble_eq_true rfl)
  rw [lg_entry_eq]
  generalize (lg_sl [.ref h0, .int p1, .int p2, .int p3, .int p4, .int p5, .int p6] ++ List.replicate (12 - (lg_sl [.ref h0, .int p1, .int p2, .int p3, .int p4, .int p5, .int p6]).length) Slot.unset).toArray = ls at hl ⊢
  have hl : lv_has ls 12 [(0, .ref h0), (1, .int p1), (2, .int p2), (3, .int p3), (4, .int p4), (5, .int p5), (6, .int p6)] := hl
  refine lv_aload_n hx hb dX12_beside_0 rfl (lv_at hl 0 rfl) ?_
  refine lv_iconst (v := 0) hx hb dX12_beside_1 (by decide) ?_
  refine va_put (D := (dC, dI)) (ci := 12) (v := .int 0) (ty := .int) (C := RX12) (T := TX12) (N := 87) hx hb hts in_m_beside_12 tyX12 tyX12_ok nmX12 hown hK hP hD hS 0 rfl rfl 0 (by decide) (hts (.fieldLink RX12 185 "LineKeeperModel" "code" "I") (List.mem_of_getElem? (i := 1) rfl)) (fun _ h9 => h9) rfl (tyX12_ok 0 (by decide)) rfl rfl (Nat.le_of_ble_eq_true rfl) dX12_beside_2 (fun H locs hP hD hS => ?_)
  have hP : va_P (dC, dI) vwCl [(h0, .inr (12, fsM g))] H := hP
  have hD : va_D A [(h0, .inr (12, fsM g))] := hD
  refine lv_aload_n hx hb dX12_beside_5 rfl (lv_at hl 0 rfl) ?_
  refine lv_iload_n hx hb dX12_beside_6 rfl (lv_at hl 1 rfl) ?_
  have hPc := hP.sub (ws' := [(h0, .inr (12, fsM g))]) [0] rfl
  have hDc := hD.sub (ws' := [(h0, .inr (12, fsM g))]) [0] (by decide) rfl
  have hKc := hK.sub (tys' := []) [] rfl
  have hFc := va_free (wc := [(h0, .inr (12, fsM g))]) hD hS hA [0] rfl
  refine va_calli (va_runV (As := [.int p1]) (rest := []) ⟨hx, hb, hml, hown, hts⟩ (k_X12_isRoutine_0 l dC dI h0 p1 g H.size ) (cwV 1 hts g_m_beside_k_X12_isRoutine_0_404 rfl rfl rfl (by decide +kernel) ⟨(Nat.le_of_ble_eq_true rfl), (Nat.le_of_ble_eq_true rfl)⟩) (vx_preV (ci := 12) (q0 := 0) hPc hKc hDc hN rfl rfl) rfl rfl hl.1 rfl (lv_room (Nat.le_of_ble_eq_true rfl)) dX12_beside_7 ⟨(Nat.le_of_ble_eq_true rfl), (Nat.le_of_ble_eq_true rfl)⟩) hS (fun q _ h => hFc q h) hFc (fun r1 u t H1 locs ht hvm hw hB hz1 hk1 hS => ?_)
  obtain ⟨hP1, hK1, hD1⟩ := hB
  rw [ht] at hP1
  obtain ⟨hP, hD⟩ := va_join (wr := []) (w1 := [(h0, .inr (12, fsM g))]) hP hD [0] [] rfl rfl (by decide) (by decide) hk1 hFc hP1 hD1
  generalize H1 = H at hP hS ⊢
  have hP : va_P (dC, dI) vwCl [(h0, .inr (12, fsM g))] H := hP
  have hD : va_D A [(h0, .inr (12, fsM g))] := hD
  refine W.widen (k := 0) (n := 0) (by decide) (by decide) ?_
  try dsimp only at hw
  subst hw
  refine lv_if_eq (tgt := 25) hx hb dX12_beside_10 (by decide) (fun _ => ?_) (fun h => absurd (by decide) h)
  refine lv_iconst (v := (-1)) hx hb dX12_beside_25 (by decide) ?_
  have hP9 := hP.sub (ws' := []) [] rfl
  have hD9 := hD.sub (ws' := []) [] (by decide) rfl
  have hK9 := hK.sub (tys' := []) [] rfl
  exact W.iret (v := (-1)) hx hb hr (fun t ht hW => ⟨⟨(-1), (), rfl, rfl, by rw [ht]; exact hP9, va_K.moved hW.alike hK9, hD9⟩, hS.F ht⟩) hS.2.2 dX12_beside_26

def w_m_compared : List Cond := .code yX12_compared cX12_compared 2 (some .int) :: ([.fieldLink RX12 185 "LineKeeperModel" "code" "I", .fieldLink RX12 596 "LineKeeperModel" "hasCompared" "Z"] ++ wsX120)
theorem in_m_compared_12 : ∀ w ∈ wsX120, w ∈ w_m_compared := fun _ h => List.mem_cons_of_mem _ (List.mem_append_right _ h)
set_option maxHeartbeats 4000000 in
set_option maxRecDepth 100000 in
theorem m_compared (l : Launch) (dC : Nat → ClassId) (dI : Nat → Nat → Nat) (h0 : Nat) (g : Nat → Nat) (p1 : Int32) (sz : Nat) : Met l yX12_compared w_m_compared { frames := 0, cells := 0, slots := 0, locals := 0 } (va_Pc [.ref h0, .int p1] (vx_pre dC dI [(h0, .inr (12, fsM g))] [] sz)) (va_Qi (fun (r : Int32) (_ : Unit) => r = (-1)) (fun _ t => vx_B dC dI (va_A [(h0, .inr (12, fsM g))] sz) [] [] t) (va_A [(h0, .inr (12, fsM g))] sz)) 0 0 (va_A [(h0, .inr (12, fsM g))] sz) := by
  refine Met.ofW (cc := cX12_compared) (maxL := 2) (ret := (some .int)) (by decide) rfl ?_
  intro p e s m args below meth c s₁ B hml hv
  obtain ⟨rfl, hsz, hP, hK, hD0, hN⟩ := hv
  have hx := B.exec
  have hb := B.bytes
  have hr := B.returns
  have hts := atoms_spec (ws := w_m_compared) B.pre
  have hown : s.vm.findClass RX12 = some m.cls := findClass_of_methodNamed B.named
  have hlocks := B.notSynchronized
  subst hsz
  have hD := hD0.self (sz := s.heap.size)
  generalize hAe : va_A [(h0, .inr (12, fsM g))] s.heap.size = A at hD ⊢
  have hA : ∀ q : Nat, s.heap.size ≤ q → A q := fun q h => by rw [← hAe]; exact Or.inr h
  obtain ⟨H, hHe⟩ : ∃ H, H = s.heap := ⟨_, rfl⟩
  rw [← hHe] at hP ⊢
  have hS : va_S A s.heap H [] := by rw [hHe]; exact va_S.rf
  have hl := lv_entry [.ref h0, .int p1] (n := 2) (Nat.le_of_ble_eq_true rfl)
  rw [lg_entry_eq]
  generalize (lg_sl [.ref h0, .int p1] ++ List.replicate (2 - (lg_sl [.ref h0, .int p1]).length) Slot.unset).toArray = ls at hl ⊢
  have hl : lv_has ls 2 [(0, .ref h0), (1, .int p1)] := hl
  refine lv_aload_n hx hb dX12_compared_0 rfl (lv_at hl 0 rfl) ?_
  refine lv_iconst (v := 0) hx hb dX12_compared_1 (by decide) ?_
  refine va_put (D := (dC, dI)) (ci := 12) (v := .int 0) (ty := .int) (C := RX12) (T := TX12) (N := 87) hx hb hts in_m_compared_12 tyX12 tyX12_ok nmX12 hown hK hP hD hS 0 rfl rfl 0 (by decide) (hts (.fieldLink RX12 185 "LineKeeperModel" "code" "I") (List.mem_of_getElem? (i := 1) rfl)) (fun _ h9 => h9) rfl (tyX12_ok 0 (by decide)) rfl rfl (Nat.le_of_ble_eq_true rfl) dX12_compared_2 (fun H locs hP hD hS => ?_)
  have hP : va_P (dC, dI) vwCl [(h0, .inr (12, fsM g))] H := hP
  have hD : va_D A [(h0, .inr (12, fsM g))] := hD
  refine lv_aload_n hx hb dX12_compared_5 rfl (lv_at hl 0 rfl) ?_
  refine va_get (D := (dC, dI)) (ci := 12) (v := .int 0) (C := RX12) (T := TX12) (N := 87) hx hb hts in_m_compared_12 hown hK hP 0 rfl rfl 85 (by decide) (hts (.fieldLink RX12 596 "LineKeeperModel" "hasCompared" "Z") (List.mem_of_getElem? (i := 2) rfl)) (fun _ h9 => h9) rfl dX12_compared_6 ?_
  refine lv_if_eq (tgt := 30) hx hb dX12_compared_9 (by decide) (fun _ => ?_) (fun h => absurd (by decide) h)
  refine lv_iconst (v := (-1)) hx hb dX12_compared_30 (by decide) ?_
  have hP9 := hP.sub (ws' := []) [] rfl
  have hD9 := hD.sub (ws' := []) [] (by decide) rfl
  have hK9 := hK.sub (tys' := []) [] rfl
  exact W.iret (v := (-1)) hx hb hr (fun t ht hW => ⟨⟨(-1), (), rfl, rfl, by rw [ht]; exact hP9, va_K.moved hW.alike hK9, hD9⟩, hS.F ht⟩) hS.2.2 dX12_compared_31

def w_m_go : List Cond := .code yX12_go cX12_go 8 (some .int) :: ([.fieldLink RX12 185 "LineKeeperModel" "code" "I", .fieldLink RX12 397 "LineKeeperModel" "started" "Z"] ++ wsX120)
theorem in_m_go_12 : ∀ w ∈ wsX120, w ∈ w_m_go := fun _ h => List.mem_cons_of_mem _ (List.mem_append_right _ h)
set_option maxHeartbeats 4000000 in
set_option maxRecDepth 100000 in
theorem m_go (l : Launch) (dC : Nat → ClassId) (dI : Nat → Nat → Nat) (h0 : Nat) (g : Nat → Nat) (p1 : Int32) (p2 : Int32) (sz : Nat) : Met l yX12_go w_m_go { frames := 0, cells := 0, slots := 0, locals := 0 } (va_Pc [.ref h0, .int p1, .int p2] (vx_pre dC dI [(h0, .inr (12, fsM g))] [] sz)) (va_Qi (fun (r : Int32) (_ : Unit) => r = (-1)) (fun _ t => vx_B dC dI (va_A [(h0, .inr (12, fsM g))] sz) [] [] t) (va_A [(h0, .inr (12, fsM g))] sz)) 0 0 (va_A [(h0, .inr (12, fsM g))] sz) := by
  refine Met.ofW (cc := cX12_go) (maxL := 8) (ret := (some .int)) (by decide) rfl ?_
  intro p e s m args below meth c s₁ B hml hv
  obtain ⟨rfl, hsz, hP, hK, hD0, hN⟩ := hv
  have hx := B.exec
  have hb := B.bytes
  have hr := B.returns
  have hts := atoms_spec (ws := w_m_go) B.pre
  have hown : s.vm.findClass RX12 = some m.cls := findClass_of_methodNamed B.named
  have hlocks := B.notSynchronized
  subst hsz
  have hD := hD0.self (sz := s.heap.size)
  generalize hAe : va_A [(h0, .inr (12, fsM g))] s.heap.size = A at hD ⊢
  have hA : ∀ q : Nat, s.heap.size ≤ q → A q := fun q h => by rw [← hAe]; exact Or.inr h
  obtain ⟨H, hHe⟩ : ∃ H, H = s.heap := ⟨_, rfl⟩
  rw [← hHe] at hP ⊢
  have hS : va_S A s.heap H [] := by rw [hHe]; exact va_S.rf
  have hl := lv_entry [.ref h0, .int p1, .int p2] (n := 8) (Nat.le_of_ble_eq_true rfl)
  rw [lg_entry_eq]
  generalize (lg_sl [.ref h0, .int p1, .int p2] ++ List.replicate (8 - (lg_sl [.ref h0, .int p1, .int p2]).length) Slot.unset).toArray = ls at hl ⊢
  have hl : lv_has ls 8 [(0, .ref h0), (1, .int p1), (2, .int p2)] := hl
  refine lv_aload_n hx hb dX12_go_0 rfl (lv_at hl 0 rfl) ?_
  refine lv_iconst (v := 0) hx hb dX12_go_1 (by decide) ?_
  refine va_put (D := (dC, dI)) (ci := 12) (v := .int 0) (ty := .int) (C := RX12) (T := TX12) (N := 87) hx hb hts in_m_go_12 tyX12 tyX12_ok nmX12 hown hK hP hD hS 0 rfl rfl 0 (by decide) (hts (.fieldLink RX12 185 "LineKeeperModel" "code" "I") (List.mem_of_getElem? (i := 1) rfl)) (fun _ h9 => h9) rfl (tyX12_ok 0 (by decide)) rfl rfl (Nat.le_of_ble_eq_true rfl) dX12_go_2 (fun H locs hP hD hS => ?_)
  have hP : va_P (dC, dI) vwCl [(h0, .inr (12, fsM g))] H := hP
  have hD : va_D A [(h0, .inr (12, fsM g))] := hD
  refine lv_aload_n hx hb dX12_go_5 rfl (lv_at hl 0 rfl) ?_
  refine va_get (D := (dC, dI)) (ci := 12) (v := .int 0) (C := RX12) (T := TX12) (N := 87) hx hb hts in_m_go_12 hown hK hP 0 rfl rfl 67 (by decide) (hts (.fieldLink RX12 397 "LineKeeperModel" "started" "Z") (List.mem_of_getElem? (i := 2) rfl)) (fun _ h9 => h9) rfl dX12_go_6 ?_
  refine lv_if_eq (tgt := 32) hx hb dX12_go_9 (by decide) (fun _ => ?_) (fun h => absurd (by decide) h)
  refine lv_iconst (v := (-1)) hx hb dX12_go_32 (by decide) ?_
  have hP9 := hP.sub (ws' := []) [] rfl
  have hD9 := hD.sub (ws' := []) [] (by decide) rfl
  have hK9 := hK.sub (tys' := []) [] rfl
  exact W.iret (v := (-1)) hx hb hr (fun t ht hW => ⟨⟨(-1), (), rfl, rfl, by rw [ht]; exact hP9, va_K.moved hW.alike hK9, hD9⟩, hS.F ht⟩) hS.2.2 dX12_go_33

def w_k_X12_isStack_0 : List Cond := .code yX12_isStack cX12_isStack 2 (some .boolean) :: ([.fieldLink RX12 397 "LineKeeperModel" "started" "Z"] ++ wsX120)
theorem in_k_X12_isStack_0_12 : ∀ w ∈ wsX120, w ∈ w_k_X12_isStack_0 := fun _ h => List.mem_cons_of_mem _ (List.mem_append_right _ h)
set_option maxHeartbeats 4000000 in
set_option maxRecDepth 100000 in
theorem k_X12_isStack_0 (l : Launch) (dC : Nat → ClassId) (dI : Nat → Nat → Nat) (h701 : Nat) (x701 : Int32) (g701 : Nat → Nat) (sz : Nat) : Met l yX12_isStack w_k_X12_isStack_0 { frames := 0, cells := 0, slots := 0, locals := 0 } (va_Pc [.ref h701, .int x701] (vx_pre dC dI [(h701, .inr (12, fsM g701))] [] sz)) (va_Qi (fun (r : Int32) (_ : Unit) => r = 0) (fun _ t => vx_B dC dI (va_A [(h701, .inr (12, fsM g701))] sz) [(h701, .inr (12, fsM g701))] [] t) (va_A [(h701, .inr (12, fsM g701))] sz)) 0 0 (va_A [(h701, .inr (12, fsM g701))] sz) := by
  refine Met.ofW (cc := cX12_isStack) (maxL := 2) (ret := (some .boolean)) (by decide) rfl ?_
  intro p e s m args below meth c s₁ B hml hv
  obtain ⟨rfl, hsz, hP, hK, hD0, hN⟩ := hv
  have hx := B.exec
  have hb := B.bytes
  have hr := B.returns
  have hts := atoms_spec (ws := w_k_X12_isStack_0) B.pre
  have hown : s.vm.findClass RX12 = some m.cls := findClass_of_methodNamed B.named
  have hlocks := B.notSynchronized
  subst hsz
  have hD := hD0.self (sz := s.heap.size)
  generalize hAe : va_A [(h701, .inr (12, fsM g701))] s.heap.size = A at hD ⊢
  have hA : ∀ q : Nat, s.heap.size ≤ q → A q := fun q h => by rw [← hAe]; exact Or.inr h
  obtain ⟨H, hHe⟩ : ∃ H, H = s.heap := ⟨_, rfl⟩
  rw [← hHe] at hP ⊢
  have hS : va_S A s.heap H [] := by rw [hHe]; exact va_S.rf
  have hl := lv_entry [.ref h701, .int x701] (n := 2) (Nat.le_of_ble_eq_true rfl)
  rw [lg_entry_eq]
  generalize (lg_sl [.ref h701, .int x701] ++ List.replicate (2 - (lg_sl [.ref h701, .int x701]).length) Slot.unset).toArray = ls at hl ⊢
  have hl : lv_has ls 2 [(0, .ref h701), (1, .int x701)] := hl
  refine lv_aload_n hx hb dX12_isStack_0 rfl (lv_at hl 0 rfl) ?_
  refine va_get (D := (dC, dI)) (ci := 12) (v := .int 0) (C := RX12) (T := TX12) (N := 87) hx hb hts in_k_X12_isStack_0_12 hown hK hP 0 rfl rfl 67 (by decide) (hts (.fieldLink RX12 397 "LineKeeperModel" "started" "Z") (List.mem_of_getElem? (i := 1) rfl)) (fun _ h9 => h9) rfl dX12_isStack_1 ?_
  refine lv_if_eq (tgt := 31) hx hb dX12_isStack_4 (by decide) (fun _ => ?_) (fun h => absurd (by decide) h)
  refine lv_iconst (v := 0) hx hb dX12_isStack_31 (by decide) ?_
  have hP9 := hP.sub (ws' := [(h701, .inr (12, fsM g701))]) [0] rfl
  have hD9 := hD.sub (ws' := [(h701, .inr (12, fsM g701))]) [0] (by decide) rfl
  have hK9 := hK.sub (tys' := []) [] rfl
  exact W.zret (ty := .boolean) (v := 0) hx hb hr rfl (fun t ht hW => ⟨⟨0, (), rfl, rfl, by rw [ht]; exact hP9, va_K.moved hW.alike hK9, hD9⟩, hS.F ht⟩) hS.2.2 dX12_isStack_32

def w_m_stack : List Cond := .code yX12_stack cX12_stack 4 (some .int) :: ([.fieldLink RX12 185 "LineKeeperModel" "code" "I", .fieldLink RX12 397 "LineKeeperModel" "started" "Z", .code yX12_isStack cX12_isStack 2 (some .boolean), .initialized RX12, .methodLink RX12 581 yX12_isStack, .instanceMethod yX12_isStack, .selects RX12 yX12_isStack yX12_isStack] ++ wsX120)
theorem in_m_stack_12 : ∀ w ∈ wsX120, w ∈ w_m_stack := fun _ h => List.mem_cons_of_mem _ (List.mem_append_right _ h)
set_option maxRecDepth 100000 in
theorem g_m_stack_k_X12_isStack_0_581 : GoodIn w_m_stack (wsV RX12 581 RX12 yX12_isStack w_k_X12_isStack_0) := goodIn_r _ [5, 6, 7, 4, 3, 2, 8, 9, 10, 11, 12, 13, 14, 15, 16, 17, 18, 19, 20, 21, 22, 23, 24, 25, 26, 27, 28, 29, 30, 31, 32, 33, 34, 35, 36, 37, 38, 39, 40, 41, 42, 43, 44, 45, 46, 47, 48, 49, 50, 51, 52, 53, 54, 55, 56, 57, 58, 59, 60, 61, 62, 63, 64, 65, 66, 67, 68, 69, 70, 71, 72, 73, 74, 75, 76, 77, 78, 79, 80, 81, 82, 83, 84, 85, 86, 87, 88, 89, 90, 91, 92, 93, 94] (by decide +kernel) (by decide +kernel)
set_option maxHeartbeats 4000000 in
set_option maxRecDepth 100000 in
theorem m_stack (l : Launch) (dC : Nat → ClassId) (dI : Nat → Nat → Nat) (h0 : Nat) (g : Nat → Nat) (p1 : Int32) (p2 : Int32) (sz : Nat) : Met l yX12_stack w_m_stack { frames := 1, cells := 0, slots := 0, locals := 21 } (va_Pc [.ref h0, .int p1, .int p2] (vx_pre dC dI [(h0, .inr (12, fsM g))] [] sz)) (va_Qi (fun (r : Int32) (_ : Unit) => r = (-1)) (fun _ t => vx_B dC dI (va_A [(h0, .inr (12, fsM g))] sz) [] [] t) (va_A [(h0, .inr (12, fsM g))] sz)) 0 0 (va_A [(h0, .inr (12, fsM g))] sz) := by
  refine Met.ofW (cc := cX12_stack) (maxL := 4) (ret := (some .int)) (by decide) rfl ?_
  intro p e s m args below meth c s₁ B hml hv
  obtain ⟨rfl, hsz, hP, hK, hD0, hN⟩ := hv
  have hx := B.exec
  have hb := B.bytes
  have hr := B.returns
  have hts := atoms_spec (ws := w_m_stack) B.pre
  have hown : s.vm.findClass RX12 = some m.cls := findClass_of_methodNamed B.named
  have hlocks := B.notSynchronized
  subst hsz
  have hD := hD0.self (sz := s.heap.size)
  generalize hAe : va_A [(h0, .inr (12, fsM g))] s.heap.size = A at hD ⊢
  have hA : ∀ q : Nat, s.heap.size ≤ q → A q := fun q h => by rw [← hAe]; exact Or.inr h
  obtain ⟨H, hHe⟩ : ∃ H, H = s.heap := ⟨_, rfl⟩
  rw [← hHe] at hP ⊢
  have hS : va_S A s.heap H [] := by rw [hHe]; exact va_S.rf
  have hl := lv_entry [.ref h0, .int p1, .int p2] (n := 4) (Nat.le_of_ble_eq_true rfl)
  rw [lg_entry_eq]
  generalize (lg_sl [.ref h0, .int p1, .int p2] ++ List.replicate (4 - (lg_sl [.ref h0, .int p1, .int p2]).length) Slot.unset).toArray = ls at hl ⊢
  have hl : lv_has ls 4 [(0, .ref h0), (1, .int p1), (2, .int p2)] := hl
  refine lv_aload_n hx hb dX12_stack_0 rfl (lv_at hl 0 rfl) ?_
  refine lv_iconst (v := 0) hx hb dX12_stack_1 (by decide) ?_
  refine va_put (D := (dC, dI)) (ci := 12) (v := .int 0) (ty := .int) (C := RX12) (T := TX12) (N := 87) hx hb hts in_m_stack_12 tyX12 tyX12_ok nmX12 hown hK hP hD hS 0 rfl rfl 0 (by decide) (hts (.fieldLink RX12 185 "LineKeeperModel" "code" "I") (List.mem_of_getElem? (i := 1) rfl)) (fun _ h9 => h9) rfl (tyX12_ok 0 (by decide)) rfl rfl (Nat.le_of_ble_eq_true rfl) dX12_stack_2 (fun H locs hP hD hS => ?_)
  have hP : va_P (dC, dI) vwCl [(h0, .inr (12, fsM g))] H := hP
  have hD : va_D A [(h0, .inr (12, fsM g))] := hD
  refine lv_aload_n hx hb dX12_stack_5 rfl (lv_at hl 0 rfl) ?_
  refine lv_iload_n hx hb dX12_stack_6 rfl (lv_at hl 1 rfl) ?_
  have hPc := hP.sub (ws' := [(h0, .inr (12, fsM g))]) [0] rfl
  have hDc := hD.sub (ws' := [(h0, .inr (12, fsM g))]) [0] (by decide) rfl
  have hKc := hK.sub (tys' := []) [] rfl
  have hFc := va_free (wc := [(h0, .inr (12, fsM g))]) hD hS hA [0] rfl
  refine va_calli (va_runV (As := [.int p1]) (rest := []) ⟨hx, hb, hml, hown, hts⟩ (k_X12_isStack_0 l dC dI h0 p1 g H.size ) (cwV 1 hts g_m_stack_k_X12_isStack_0_581 rfl rfl rfl (by decide +kernel) ⟨(Nat.le_of_ble_eq_true rfl), (Nat.le_of_ble_eq_true rfl)⟩) (vx_preV (ci := 12) (q0 := 0) hPc hKc hDc hN rfl rfl) rfl rfl hl.1 rfl (lv_room (Nat.le_of_ble_eq_true rfl)) dX12_stack_7 ⟨(Nat.le_of_ble_eq_true rfl), (Nat.le_of_ble_eq_true rfl)⟩) hS (fun q _ h => hFc q h) hFc (fun r1 u t H1 locs ht hvm hw hB hz1 hk1 hS => ?_)
  obtain ⟨hP1, hK1, hD1⟩ := hB
  rw [ht] at hP1
  obtain ⟨hP, hD⟩ := va_join (wr := []) (w1 := [(h0, .inr (12, fsM g))]) hP hD [0] [] rfl rfl (by decide) (by decide) hk1 hFc hP1 hD1
  generalize H1 = H at hP hS ⊢
  have hP : va_P (dC, dI) vwCl [(h0, .inr (12, fsM g))] H := hP
  have hD : va_D A [(h0, .inr (12, fsM g))] := hD
  refine W.widen (k := 0) (n := 0) (by decide) (by decide) ?_
  try dsimp only at hw
  subst hw
  refine lv_if_ne (tgt := 15) hx hb dX12_stack_10 (by decide) (fun h => absurd (by decide) h) (fun _ => ?_)
  refine lv_iconst (v := (-1)) hx hb dX12_stack_13 (by decide) ?_
  have hP9 := hP.sub (ws' := []) [] rfl
  have hD9 := hD.sub (ws' := []) [] (by decide) rfl
  have hK9 := hK.sub (tys' := []) [] rfl
  exact W.iret (v := (-1)) hx hb hr (fun t ht hW => ⟨⟨(-1), (), rfl, rfl, by rw [ht]; exact hP9, va_K.moved hW.alike hK9, hD9⟩, hS.F ht⟩) hS.2.2 dX12_stack_14

def w_m_known : List Cond := .code yX12_known cX12_known 4 (some .int) :: ([.fieldLink RX12 185 "LineKeeperModel" "code" "I", .fieldLink RX12 397 "LineKeeperModel" "started" "Z", .code yX12_isStack cX12_isStack 2 (some .boolean), .initialized RX12, .methodLink RX12 581 yX12_isStack, .instanceMethod yX12_isStack, .selects RX12 yX12_isStack yX12_isStack] ++ wsX120)
theorem in_m_known_12 : ∀ w ∈ wsX120, w ∈ w_m_known := fun _ h => List.mem_cons_of_mem _ (List.mem_append_right _ h)
set_option maxRecDepth 100000 in
theorem g_m_known_k_X12_isStack_0_581 : GoodIn w_m_known (wsV RX12 581 RX12 yX12_isStack w_k_X12_isStack_0) := goodIn_r _ [5, 6, 7, 4, 3, 2, 8, 9, 10, 11, 12, 13, 14, 15, 16, 17, 18, 19, 20, 21, 22, 23, 24, 25, 26, 27, 28, 29, 30, 31, 32, 33, 34, 35, 36, 37, 38, 39, 40, 41, 42, 43, 44, 45, 46, 47, 48, 49, 50, 51, 52, 53, 54, 55, 56, 57, 58, 59, 60, 61, 62, 63, 64, 65, 66, 67, 68, 69, 70, 71, 72, 73, 74, 75, 76, 77, 78, 79, 80, 81, 82, 83, 84, 85, 86, 87, 88, 89, 90, 91, 92, 93, 94] (by decide +kernel) (by decide +kernel)
set_option maxHeartbeats 4000000 in
set_option maxRecDepth 100000 in
theorem m_known (l : Launch) (dC : Nat → ClassId) (dI : Nat → Nat → Nat) (h0 : Nat) (g : Nat → Nat) (p1 : Int32) (p2 : Int32) (sz : Nat) : Met l yX12_known w_m_known { frames := 1, cells := 0, slots := 0, locals := 21 } (va_Pc [.ref h0, .int p1, .int p2] (vx_pre dC dI [(h0, .inr (12, fsM g))] [] sz)) (va_Qi (fun (r : Int32) (_ : Unit) => r = (-1)) (fun _ t => vx_B dC dI (va_A [(h0, .inr (12, fsM g))] sz) [] [] t) (va_A [(h0, .inr (12, fsM g))] sz)) 0 0 (va_A [(h0, .inr (12, fsM g))] sz) := by
  refine Met.ofW (cc := cX12_known) (maxL := 4) (ret := (some .int)) (by decide) rfl ?_
  intro p e s m args below meth c s₁ B hml hv
  obtain ⟨rfl, hsz, hP, hK, hD0, hN⟩ := hv
  have hx := B.exec
  have hb := B.bytes
  have hr := B.returns
  have hts := atoms_spec (ws := w_m_known) B.pre
  have hown : s.vm.findClass RX12 = some m.cls := findClass_of_methodNamed B.named
  have hlocks := B.notSynchronized
  subst hsz
  have hD := hD0.self (sz := s.heap.size)
  generalize hAe : va_A [(h0, .inr (12, fsM g))] s.heap.size = A at hD ⊢
  have hA : ∀ q : Nat, s.heap.size ≤ q → A q := fun q h => by rw [← hAe]; exact Or.inr h
  obtain ⟨H, hHe⟩ : ∃ H, H = s.heap := ⟨_, rfl⟩
  rw [← hHe] at hP ⊢
  have hS : va_S A s.heap H [] := by rw [hHe]; exact va_S.rf
  have hl := lv_entry [.ref h0, .int p1, .int p2] (n := 4) (Nat.le_of_ble_eq_true rfl)
  rw [lg_entry_eq]
  generalize (lg_sl [.ref h0, .int p1, .int p2] ++ List.replicate (4 - (lg_sl [.ref h0, .int p1, .int p2]).length) Slot.unset).toArray = ls at hl ⊢
  have hl : lv_has ls 4 [(0, .ref h0), (1, .int p1), (2, .int p2)] := hl
  refine lv_aload_n hx hb dX12_known_0 rfl (lv_at hl 0 rfl) ?_
  refine lv_iconst (v := 0) hx hb dX12_known_1 (by decide) ?_
  refine va_put (D := (dC, dI)) (ci := 12) (v := .int 0) (ty := .int) (C := RX12) (T := TX12) (N := 87) hx hb hts in_m_known_12 tyX12 tyX12_ok nmX12 hown hK hP hD hS 0 rfl rfl 0 (by decide) (hts (.fieldLink RX12 185 "LineKeeperModel" "code" "I") (List.mem_of_getElem? (i := 1) rfl)) (fun _ h9 => h9) rfl (tyX12_ok 0 (by decide)) rfl rfl (Nat.le_of_ble_eq_true rfl) dX12_known_2 (fun H locs hP hD hS => ?_)
  have hP : va_P (dC, dI) vwCl [(h0, .inr (12, fsM g))] H := hP
  have hD : va_D A [(h0, .inr (12, fsM g))] := hD
  refine lv_aload_n hx hb dX12_known_5 rfl (lv_at hl 0 rfl) ?_
  refine lv_iload_n hx hb dX12_known_6 rfl (lv_at hl 1 rfl) ?_
  have hPc := hP.sub (ws' := [(h0, .inr (12, fsM g))]) [0] rfl
  have hDc := hD.sub (ws' := [(h0, .inr (12, fsM g))]) [0] (by decide) rfl
  have hKc := hK.sub (tys' := []) [] rfl
  have hFc := va_free (wc := [(h0, .inr (12, fsM g))]) hD hS hA [0] rfl
  refine va_calli (va_runV (As := [.int p1]) (rest := []) ⟨hx, hb, hml, hown, hts⟩ (k_X12_isStack_0 l dC dI h0 p1 g H.size ) (cwV 1 hts g_m_known_k_X12_isStack_0_581 rfl rfl rfl (by decide +kernel) ⟨(Nat.le_of_ble_eq_true rfl), (Nat.le_of_ble_eq_true rfl)⟩) (vx_preV (ci := 12) (q0 := 0) hPc hKc hDc hN rfl rfl) rfl rfl hl.1 rfl (lv_room (Nat.le_of_ble_eq_true rfl)) dX12_known_7 ⟨(Nat.le_of_ble_eq_true rfl), (Nat.le_of_ble_eq_true rfl)⟩) hS (fun q _ h => hFc q h) hFc (fun r1 u t H1 locs ht hvm hw hB hz1 hk1 hS => ?_)
  obtain ⟨hP1, hK1, hD1⟩ := hB
  rw [ht] at hP1
  obtain ⟨hP, hD⟩ := va_join (wr := []) (w1 := [(h0, .inr (12, fsM g))]) hP hD [0] [] rfl rfl (by decide) (by decide) hk1 hFc hP1 hD1
  generalize H1 = H at hP hS ⊢
  have hP : va_P (dC, dI) vwCl [(h0, .inr (12, fsM g))] H := hP
  have hD : va_D A [(h0, .inr (12, fsM g))] := hD
  refine W.widen (k := 0) (n := 0) (by decide) (by decide) ?_
  try dsimp only at hw
  subst hw
  refine lv_if_eq (tgt := 33) hx hb dX12_known_10 (by decide) (fun _ => ?_) (fun h => absurd (by decide) h)
  refine lv_iconst (v := (-1)) hx hb dX12_known_33 (by decide) ?_
  have hP9 := hP.sub (ws' := []) [] rfl
  have hD9 := hD.sub (ws' := []) [] (by decide) rfl
  have hK9 := hK.sub (tys' := []) [] rfl
  exact W.iret (v := (-1)) hx hb hr (fun t ht hW => ⟨⟨(-1), (), rfl, rfl, by rw [ht]; exact hP9, va_K.moved hW.alike hK9, hD9⟩, hS.F ht⟩) hS.2.2 dX12_known_34

def w_m_value : List Cond := .code yX12_value cX12_value 4 (some .int) :: ([.fieldLink RX12 185 "LineKeeperModel" "code" "I", .fieldLink RX12 397 "LineKeeperModel" "started" "Z", .code yX12_isStack cX12_isStack 2 (some .boolean), .initialized RX12, .methodLink RX12 581 yX12_isStack, .instanceMethod yX12_isStack, .selects RX12 yX12_isStack yX12_isStack] ++ wsX120)
theorem in_m_value_12 : ∀ w ∈ wsX120, w ∈ w_m_value := fun _ h => List.mem_cons_of_mem _ (List.mem_append_right _ h)
set_option maxRecDepth 100000 in
theorem g_m_value_k_X12_isStack_0_581 : GoodIn w_m_value (wsV RX12 581 RX12 yX12_isStack w_k_X12_isStack_0) := goodIn_r _ [5, 6, 7, 4, 3, 2, 8, 9, 10, 11, 12, 13, 14, 15, 16, 17, 18, 19, 20, 21, 22, 23, 24, 25, 26, 27, 28, 29, 30, 31, 32, 33, 34, 35, 36, 37, 38, 39, 40, 41, 42, 43, 44, 45, 46, 47, 48, 49, 50, 51, 52, 53, 54, 55, 56, 57, 58, 59, 60, 61, 62, 63, 64, 65, 66, 67, 68, 69, 70, 71, 72, 73, 74, 75, 76, 77, 78, 79, 80, 81, 82, 83, 84, 85, 86, 87, 88, 89, 90, 91, 92, 93, 94] (by decide +kernel) (by decide +kernel)
set_option maxHeartbeats 4000000 in
set_option maxRecDepth 100000 in
theorem m_value (l : Launch) (dC : Nat → ClassId) (dI : Nat → Nat → Nat) (h0 : Nat) (g : Nat → Nat) (p1 : Int32) (p2 : Int32) (sz : Nat) : Met l yX12_value w_m_value { frames := 1, cells := 0, slots := 0, locals := 21 } (va_Pc [.ref h0, .int p1, .int p2] (vx_pre dC dI [(h0, .inr (12, fsM g))] [] sz)) (va_Qi (fun (r : Int32) (_ : Unit) => r = 0) (fun _ t => vx_B dC dI (va_A [(h0, .inr (12, fsM g))] sz) [] [] t) (va_A [(h0, .inr (12, fsM g))] sz)) 0 0 (va_A [(h0, .inr (12, fsM g))] sz) := by
  refine Met.ofW (cc := cX12_value) (maxL := 4) (ret := (some .int)) (by decide) rfl ?_
  intro p e s m args below meth c s₁ B hml hv
  obtain ⟨rfl, hsz, hP, hK, hD0, hN⟩ := hv
  have hx := B.exec
  have hb := B.bytes
  have hr := B.returns
  have hts := atoms_spec (ws := w_m_value) B.pre
  have hown : s.vm.findClass RX12 = some m.cls := findClass_of_methodNamed B.named
  have hlocks := B.notSynchronized
  subst hsz
  have hD := hD0.self (sz := s.heap.size)
  generalize hAe : va_A [(h0, .inr (12, fsM g))] s.heap.size = A at hD ⊢
  have hA : ∀ q : Nat, s.heap.size ≤ q → A q := fun q h => by rw [← hAe]; exact Or.inr h
  obtain ⟨H, hHe⟩ : ∃ H, H = s.heap := ⟨_, rfl⟩
  rw [← hHe] at hP ⊢
  have hS : va_S A s.heap H [] := by rw [hHe]; exact va_S.rf
  have hl := lv_entry [.ref h0, .int p1, .int p2] (n := 4) (Nat.le_of_ble_eq_true rfl)
  rw [lg_entry_eq]
  generalize (lg_sl [.ref h0, .int p1, .int p2] ++ List.replicate (4 - (lg_sl [.ref h0, .int p1, .int p2]).length) Slot.unset).toArray = ls at hl ⊢
  have hl : lv_has ls 4 [(0, .ref h0), (1, .int p1), (2, .int p2)] := hl
  refine lv_aload_n hx hb dX12_value_0 rfl (lv_at hl 0 rfl) ?_
  refine lv_iconst (v := 0) hx hb dX12_value_1 (by decide) ?_
  refine va_put (D := (dC, dI)) (ci := 12) (v := .int 0) (ty := .int) (C := RX12) (T := TX12) (N := 87) hx hb hts in_m_value_12 tyX12 tyX12_ok nmX12 hown hK hP hD hS 0 rfl rfl 0 (by decide) (hts (.fieldLink RX12 185 "LineKeeperModel" "code" "I") (List.mem_of_getElem? (i := 1) rfl)) (fun _ h9 => h9) rfl (tyX12_ok 0 (by decide)) rfl rfl (Nat.le_of_ble_eq_true rfl) dX12_value_2 (fun H locs hP hD hS => ?_)
  have hP : va_P (dC, dI) vwCl [(h0, .inr (12, fsM g))] H := hP
  have hD : va_D A [(h0, .inr (12, fsM g))] := hD
  refine lv_aload_n hx hb dX12_value_5 rfl (lv_at hl 0 rfl) ?_
  refine lv_iload_n hx hb dX12_value_6 rfl (lv_at hl 1 rfl) ?_
  have hPc := hP.sub (ws' := [(h0, .inr (12, fsM g))]) [0] rfl
  have hDc := hD.sub (ws' := [(h0, .inr (12, fsM g))]) [0] (by decide) rfl
  have hKc := hK.sub (tys' := []) [] rfl
  have hFc := va_free (wc := [(h0, .inr (12, fsM g))]) hD hS hA [0] rfl
  refine va_calli (va_runV (As := [.int p1]) (rest := []) ⟨hx, hb, hml, hown, hts⟩ (k_X12_isStack_0 l dC dI h0 p1 g H.size ) (cwV 1 hts g_m_value_k_X12_isStack_0_581 rfl rfl rfl (by decide +kernel) ⟨(Nat.le_of_ble_eq_true rfl), (Nat.le_of_ble_eq_true rfl)⟩) (vx_preV (ci := 12) (q0 := 0) hPc hKc hDc hN rfl rfl) rfl rfl hl.1 rfl (lv_room (Nat.le_of_ble_eq_true rfl)) dX12_value_7 ⟨(Nat.le_of_ble_eq_true rfl), (Nat.le_of_ble_eq_true rfl)⟩) hS (fun q _ h => hFc q h) hFc (fun r1 u t H1 locs ht hvm hw hB hz1 hk1 hS => ?_)
  obtain ⟨hP1, hK1, hD1⟩ := hB
  rw [ht] at hP1
  obtain ⟨hP, hD⟩ := va_join (wr := []) (w1 := [(h0, .inr (12, fsM g))]) hP hD [0] [] rfl rfl (by decide) (by decide) hk1 hFc hP1 hD1
  generalize H1 = H at hP hS ⊢
  have hP : va_P (dC, dI) vwCl [(h0, .inr (12, fsM g))] H := hP
  have hD : va_D A [(h0, .inr (12, fsM g))] := hD
  refine W.widen (k := 0) (n := 0) (by decide) (by decide) ?_
  try dsimp only at hw
  subst hw
  refine lv_if_eq (tgt := 33) hx hb dX12_value_10 (by decide) (fun _ => ?_) (fun h => absurd (by decide) h)
  refine lv_iconst (v := 0) hx hb dX12_value_33 (by decide) ?_
  have hP9 := hP.sub (ws' := []) [] rfl
  have hD9 := hD.sub (ws' := []) [] (by decide) rfl
  have hK9 := hK.sub (tys' := []) [] rfl
  exact W.iret (v := 0) hx hb hr (fun t ht hW => ⟨⟨0, (), rfl, rfl, by rw [ht]; exact hP9, va_K.moved hW.alike hK9, hD9⟩, hS.F ht⟩) hS.2.2 dX12_value_34

def w_m_run : List Cond := .code yX12_run cX12_run 2 (some .int) :: ([.fieldLink RX12 185 "LineKeeperModel" "code" "I", .fieldLink RX12 397 "LineKeeperModel" "started" "Z"] ++ wsX120)
theorem in_m_run_12 : ∀ w ∈ wsX120, w ∈ w_m_run := fun _ h => List.mem_cons_of_mem _ (List.mem_append_right _ h)
set_option maxHeartbeats 4000000 in
set_option maxRecDepth 100000 in
theorem m_run (l : Launch) (dC : Nat → ClassId) (dI : Nat → Nat → Nat) (h0 : Nat) (g : Nat → Nat) (p1 : Int32) (sz : Nat) : Met l yX12_run w_m_run { frames := 0, cells := 0, slots := 0, locals := 0 } (va_Pc [.ref h0, .int p1] (vx_pre dC dI [(h0, .inr (12, fsM g))] [] sz)) (va_Qi (fun (r : Int32) (_ : Unit) => r = (-1)) (fun _ t => vx_B dC dI (va_A [(h0, .inr (12, fsM g))] sz) [] [] t) (va_A [(h0, .inr (12, fsM g))] sz)) 0 0 (va_A [(h0, .inr (12, fsM g))] sz) := by
  refine Met.ofW (cc := cX12_run) (maxL := 2) (ret := (some .int)) (by decide) rfl ?_
  intro p e s m args below meth c s₁ B hml hv
  obtain ⟨rfl, hsz, hP, hK, hD0, hN⟩ := hv
  have hx := B.exec
  have hb := B.bytes
  have hr := B.returns
  have hts := atoms_spec (ws := w_m_run) B.pre
  have hown : s.vm.findClass RX12 = some m.cls := findClass_of_methodNamed B.named
  have hlocks := B.notSynchronized
  subst hsz
  have hD := hD0.self (sz := s.heap.size)
  generalize hAe : va_A [(h0, .inr (12, fsM g))] s.heap.size = A at hD ⊢
  have hA : ∀ q : Nat, s.heap.size ≤ q → A q := fun q h => by rw [← hAe]; exact Or.inr h
  obtain ⟨H, hHe⟩ : ∃ H, H = s.heap := ⟨_, rfl⟩
  rw [← hHe] at hP ⊢
  have hS : va_S A s.heap H [] := by rw [hHe]; exact va_S.rf
  have hl := lv_entry [.ref h0, .int p1] (n := 2) (Nat.le_of_ble_eq_true rfl)
  rw [lg_entry_eq]
  generalize (lg_sl [.ref h0, .int p1] ++ List.replicate (2 - (lg_sl [.ref h0, .int p1]).length) Slot.unset).toArray = ls at hl ⊢
  have hl : lv_has ls 2 [(0, .ref h0), (1, .int p1)] := hl
  refine lv_aload_n hx hb dX12_run_0 rfl (lv_at hl 0 rfl) ?_
  refine lv_iconst (v := 0) hx hb dX12_run_1 (by decide) ?_
  refine va_put (D := (dC, dI)) (ci := 12) (v := .int 0) (ty := .int) (C := RX12) (T := TX12) (N := 87) hx hb hts in_m_run_12 tyX12 tyX12_ok nmX12 hown hK hP hD hS 0 rfl rfl 0 (by decide) (hts (.fieldLink RX12 185 "LineKeeperModel" "code" "I") (List.mem_of_getElem? (i := 1) rfl)) (fun _ h9 => h9) rfl (tyX12_ok 0 (by decide)) rfl rfl (Nat.le_of_ble_eq_true rfl) dX12_run_2 (fun H locs hP hD hS => ?_)
  have hP : va_P (dC, dI) vwCl [(h0, .inr (12, fsM g))] H := hP
  have hD : va_D A [(h0, .inr (12, fsM g))] := hD
  refine lv_aload_n hx hb dX12_run_5 rfl (lv_at hl 0 rfl) ?_
  refine va_get (D := (dC, dI)) (ci := 12) (v := .int 0) (C := RX12) (T := TX12) (N := 87) hx hb hts in_m_run_12 hown hK hP 0 rfl rfl 67 (by decide) (hts (.fieldLink RX12 397 "LineKeeperModel" "started" "Z") (List.mem_of_getElem? (i := 2) rfl)) (fun _ h9 => h9) rfl dX12_run_6 ?_
  refine lv_if_ne (tgt := 14) hx hb dX12_run_9 (by decide) (fun h => absurd (by decide) h) (fun _ => ?_)
  refine lv_iconst (v := (-1)) hx hb dX12_run_12 (by decide) ?_
  have hP9 := hP.sub (ws' := []) [] rfl
  have hD9 := hD.sub (ws' := []) [] (by decide) rfl
  have hK9 := hK.sub (tys' := []) [] rfl
  exact W.iret (v := (-1)) hx hb hr (fun t ht hW => ⟨⟨(-1), (), rfl, rfl, by rw [ht]; exact hP9, va_K.moved hW.alike hK9, hD9⟩, hS.F ht⟩) hS.2.2 dX12_run_13

def w_m_printed : List Cond := .code yX12_printed cX12_printed 2 (some .int) :: ([.fieldLink RX12 185 "LineKeeperModel" "code" "I", .fieldLink RX12 397 "LineKeeperModel" "started" "Z"] ++ wsX120)
theorem in_m_printed_12 : ∀ w ∈ wsX120, w ∈ w_m_printed := fun _ h => List.mem_cons_of_mem _ (List.mem_append_right _ h)
set_option maxHeartbeats 4000000 in
set_option maxRecDepth 100000 in
theorem m_printed (l : Launch) (dC : Nat → ClassId) (dI : Nat → Nat → Nat) (h0 : Nat) (g : Nat → Nat) (p1 : Int32) (sz : Nat) : Met l yX12_printed w_m_printed { frames := 0, cells := 0, slots := 0, locals := 0 } (va_Pc [.ref h0, .int p1] (vx_pre dC dI [(h0, .inr (12, fsM g))] [] sz)) (va_Qi (fun (r : Int32) (_ : Unit) => r = 0) (fun _ t => vx_B dC dI (va_A [(h0, .inr (12, fsM g))] sz) [] [] t) (va_A [(h0, .inr (12, fsM g))] sz)) 0 0 (va_A [(h0, .inr (12, fsM g))] sz) := by
  refine Met.ofW (cc := cX12_printed) (maxL := 2) (ret := (some .int)) (by decide) rfl ?_
  intro p e s m args below meth c s₁ B hml hv
  obtain ⟨rfl, hsz, hP, hK, hD0, hN⟩ := hv
  have hx := B.exec
  have hb := B.bytes
  have hr := B.returns
  have hts := atoms_spec (ws := w_m_printed) B.pre
  have hown : s.vm.findClass RX12 = some m.cls := findClass_of_methodNamed B.named
  have hlocks := B.notSynchronized
  subst hsz
  have hD := hD0.self (sz := s.heap.size)
  generalize hAe : va_A [(h0, .inr (12, fsM g))] s.heap.size = A at hD ⊢
  have hA : ∀ q : Nat, s.heap.size ≤ q → A q := fun q h => by rw [← hAe]; exact Or.inr h
  obtain ⟨H, hHe⟩ : ∃ H, H = s.heap := ⟨_, rfl⟩
  rw [← hHe] at hP ⊢
  have hS : va_S A s.heap H [] := by rw [hHe]; exact va_S.rf
  have hl := lv_entry [.ref h0, .int p1] (n := 2) (Nat.le_of_ble_eq_true rfl)
  rw [lg_entry_eq]
  generalize (lg_sl [.ref h0, .int p1] ++ List.replicate (2 - (lg_sl [.ref h0, .int p1]).length) Slot.unset).toArray = ls at hl ⊢
  have hl : lv_has ls 2 [(0, .ref h0), (1, .int p1)] := hl
  refine lv_aload_n hx hb dX12_printed_0 rfl (lv_at hl 0 rfl) ?_
  refine lv_iconst (v := 0) hx hb dX12_printed_1 (by decide) ?_
  refine va_put (D := (dC, dI)) (ci := 12) (v := .int 0) (ty := .int) (C := RX12) (T := TX12) (N := 87) hx hb hts in_m_printed_12 tyX12 tyX12_ok nmX12 hown hK hP hD hS 0 rfl rfl 0 (by decide) (hts (.fieldLink RX12 185 "LineKeeperModel" "code" "I") (List.mem_of_getElem? (i := 1) rfl)) (fun _ h9 => h9) rfl (tyX12_ok 0 (by decide)) rfl rfl (Nat.le_of_ble_eq_true rfl) dX12_printed_2 (fun H locs hP hD hS => ?_)
  have hP : va_P (dC, dI) vwCl [(h0, .inr (12, fsM g))] H := hP
  have hD : va_D A [(h0, .inr (12, fsM g))] := hD
  refine lv_aload_n hx hb dX12_printed_5 rfl (lv_at hl 0 rfl) ?_
  refine va_get (D := (dC, dI)) (ci := 12) (v := .int 0) (C := RX12) (T := TX12) (N := 87) hx hb hts in_m_printed_12 hown hK hP 0 rfl rfl 67 (by decide) (hts (.fieldLink RX12 397 "LineKeeperModel" "started" "Z") (List.mem_of_getElem? (i := 2) rfl)) (fun _ h9 => h9) rfl dX12_printed_6 ?_
  refine lv_if_eq (tgt := 42) hx hb dX12_printed_9 (by decide) (fun _ => ?_) (fun h => absurd (by decide) h)
  refine lv_iconst (v := 0) hx hb dX12_printed_42 (by decide) ?_
  have hP9 := hP.sub (ws' := []) [] rfl
  have hD9 := hD.sub (ws' := []) [] (by decide) rfl
  have hK9 := hK.sub (tys' := []) [] rfl
  exact W.iret (v := 0) hx hb hr (fun t ht hW => ⟨⟨0, (), rfl, rfl, by rw [ht]; exact hP9, va_K.moved hW.alike hK9, hD9⟩, hS.F ht⟩) hS.2.2 dX12_printed_43
