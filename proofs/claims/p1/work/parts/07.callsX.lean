def w_k_X11_tapeNumber_0 : List Cond := .code yX11_tapeNumber cX11_tapeNumber 3 none :: ([.fieldLink RX11 87 "LineKeeper" "taped" "I", .fieldLink RX11 9 "LineKeeper" "tape" "[B"] ++ wsX110)
theorem in_k_X11_tapeNumber_0_11 : ∀ w ∈ wsX110, w ∈ w_k_X11_tapeNumber_0 := fun _ h => List.mem_cons_of_mem _ (List.mem_append_right _ h)
set_option maxHeartbeats 4000000 in
set_option maxRecDepth 100000 in
theorem k_X11_tapeNumber_0 (l : Launch) (dC : Nat → ClassId) (dI : Nat → Nat → Nat) (h701 : Nat) (x701 : Int32) (g701 : Nat → Nat) (cA701 : ClassId) (f701 : Nat → Int32) (sz : Nat) : Met l yX11_tapeNumber w_k_X11_tapeNumber_0 { frames := 0, cells := 0, slots := 0, locals := 0 } (va_Pc [.ref h701, .int x701] (vx_pre dC dI [(h701, .inr (11, fsX g701)), ((g701 0), .inl (cA701, 1200, .inl f701))] [(cA701, .byte)] sz)) (va_Qv (fun _ : Unit => True) (fun _ t => ∃ (f901 : Nat → Int32), vx_B dC dI (va_A [(h701, .inr (11, fsX g701)), ((g701 0), .inl (cA701, 1200, .inl f701))] sz) [(h701, .inr (11, (fsX g701).set 1 (.int 4))), ((g701 0), .inl (cA701, 1200, .inl f901))] [(cA701, .byte)] t) (va_A [(h701, .inr (11, fsX g701)), ((g701 0), .inl (cA701, 1200, .inl f701))] sz)) 0 0 (va_A [(h701, .inr (11, fsX g701)), ((g701 0), .inl (cA701, 1200, .inl f701))] sz) := by
  refine Met.ofW (cc := cX11_tapeNumber) (maxL := 3) (ret := none) (by decide) rfl ?_
  intro p e s m args below meth c s₁ B hml hv
  obtain ⟨rfl, hsz, hP, hK, hD0, hN⟩ := hv
  have hx := B.exec
  have hb := B.bytes
  have hr := B.returns
  have hts := atoms_spec (ws := w_k_X11_tapeNumber_0) B.pre
  have hown : s.vm.findClass RX11 = some m.cls := findClass_of_methodNamed B.named
  have hlocks := B.notSynchronized
  subst hsz
  have hD := hD0.self (sz := s.heap.size)
  generalize hAe : va_A [(h701, .inr (11, fsX g701)), ((g701 0), .inl (cA701, 1200, .inl f701))] s.heap.size = A at hD ⊢
  have hA : ∀ q : Nat, s.heap.size ≤ q → A q := fun q h => by rw [← hAe]; exact Or.inr h
  obtain ⟨H, hHe⟩ : ∃ H, H = s.heap := ⟨_, rfl⟩
  rw [← hHe] at hP ⊢
  have hS : va_S A s.heap H [] := by rw [hHe]; exact va_S.rf
  have hl := lv_entry [.ref h701, .int x701] (n := 3) (Nat.le_of_ble_eq_true rfl)
  rw [lg_entry_eq]
  generalize (lg_sl [.ref h701, .int x701] ++ List.replicate (3 - (lg_sl [.ref h701, .int x701]).length) Slot.unset).toArray = ls at hl ⊢
  have hl : lv_has ls 3 [(0, .ref h701), (1, .int x701)] := hl
  refine lv_bipush (v := 24) hx hb dX11_tapeNumber_0 (by decide) ?_
  refine lv_istore_n (lv' := [(2, .int 24), (0, .ref h701), (1, .int x701)]) hx hb dX11_tapeNumber_2 rfl hl (by decide) rfl (fun ls hl => ?_)
  refine lv_iload_n hx hb dX11_tapeNumber_3 rfl (lv_at hl 0 rfl) ?_
  refine lv_if_lt (tgt := 55) hx hb dX11_tapeNumber_4 (by decide) (fun h => absurd h (by decide)) (fun _ => ?_)
  refine lv_aload_n hx hb dX11_tapeNumber_7 rfl (lv_at hl 1 rfl) ?_
  refine va_get (D := (dC, dI)) (ci := 11) (v := .int 0) (C := RX11) (T := TX11) (N := 16) hx hb hts in_k_X11_tapeNumber_0_11 hown hK hP 0 rfl rfl 1 (by decide) (hts (.fieldLink RX11 87 "LineKeeper" "taped" "I") (List.mem_of_getElem? (i := 1) rfl)) (fun _ h9 => h9) rfl dX11_tapeNumber_8 ?_
  refine lv_if_lt (tgt := 49) hx hb dX11_tapeNumber_11 (by decide) (fun h => absurd h (by decide)) (fun _ => ?_)
  refine lv_aload_n hx hb dX11_tapeNumber_14 rfl (lv_at hl 1 rfl) ?_
  refine va_get (D := (dC, dI)) (ci := 11) (v := .int 0) (C := RX11) (T := TX11) (N := 16) hx hb hts in_k_X11_tapeNumber_0_11 hown hK hP 0 rfl rfl 1 (by decide) (hts (.fieldLink RX11 87 "LineKeeper" "taped" "I") (List.mem_of_getElem? (i := 1) rfl)) (fun _ h9 => h9) rfl dX11_tapeNumber_15 ?_
  refine lv_aload_n hx hb dX11_tapeNumber_18 rfl (lv_at hl 1 rfl) ?_
  refine va_get (D := (dC, dI)) (ci := 11) (v := .ref (g701 0)) (C := RX11) (T := TX11) (N := 16) hx hb hts in_k_X11_tapeNumber_0_11 hown hK hP 0 rfl rfl 0 (by decide) (hts (.fieldLink RX11 9 "LineKeeper" "tape" "[B") (List.mem_of_getElem? (i := 2) rfl)) (fun _ h9 => h9) rfl dX11_tapeNumber_19 ?_
  refine va_alen (v := 1200) hx hb hK hP 1 0 rfl rfl rfl dX11_tapeNumber_22 ?_
  refine lv_icmp_ge (tgt := 49) hx hb dX11_tapeNumber_23 (by decide) (fun h => absurd h (by decide)) (fun _ => ?_)
  refine lv_aload_n hx hb dX11_tapeNumber_26 rfl (lv_at hl 1 rfl) ?_
  refine va_get (D := (dC, dI)) (ci := 11) (v := .ref (g701 0)) (C := RX11) (T := TX11) (N := 16) hx hb hts in_k_X11_tapeNumber_0_11 hown hK hP 0 rfl rfl 0 (by decide) (hts (.fieldLink RX11 9 "LineKeeper" "tape" "[B") (List.mem_of_getElem? (i := 2) rfl)) (fun _ h9 => h9) rfl dX11_tapeNumber_27 ?_
  refine lv_aload_n hx hb dX11_tapeNumber_30 rfl (lv_at hl 1 rfl) ?_
  refine va_get (D := (dC, dI)) (ci := 11) (v := .int 0) (C := RX11) (T := TX11) (N := 16) hx hb hts in_k_X11_tapeNumber_0_11 hown hK hP 0 rfl rfl 1 (by decide) (hts (.fieldLink RX11 87 "LineKeeper" "taped" "I") (List.mem_of_getElem? (i := 1) rfl)) (fun _ h9 => h9) rfl dX11_tapeNumber_31 ?_
  refine lv_iload_n hx hb dX11_tapeNumber_34 rfl (lv_at hl 2 rfl) ?_
  refine lv_iload_n hx hb dX11_tapeNumber_35 rfl (lv_at hl 0 rfl) ?_
  refine lv_iushr hx hb dX11_tapeNumber_36 rfl ?_
  refine lv_topi (fun x1 ex1 => ?_)
  refine lv_i2b hx hb dX11_tapeNumber_37 rfl ?_
  refine lv_topi (fun x2 ex2 => ?_)
  refine va_bast hx hb hK hP hD hS 1 0 rfl rfl (vx_in (by decide)) dX11_tapeNumber_38 (fun H locs hP hD hS => ?_)
  generalize (upd f701 (0 : Int32).toNatClampNeg (vp_nar .byte x2)) = f3 at hP hD
  have hP : va_P (dC, dI) vwCl [(h701, .inr (11, fsX g701)), ((g701 0), .inl (cA701, 1200, .inl f3))] H := hP
  have hD : va_D A [(h701, .inr (11, fsX g701)), ((g701 0), .inl (cA701, 1200, .inl f3))] := hD
  refine lv_aload_n hx hb dX11_tapeNumber_39 rfl (lv_at hl 1 rfl) ?_
  refine lv_dup hx hb dX11_tapeNumber_40 rfl ?_
  refine va_get (D := (dC, dI)) (ci := 11) (v := .int 0) (C := RX11) (T := TX11) (N := 16) hx hb hts in_k_X11_tapeNumber_0_11 hown hK hP 0 rfl rfl 1 (by decide) (hts (.fieldLink RX11 87 "LineKeeper" "taped" "I") (List.mem_of_getElem? (i := 1) rfl)) (fun _ h9 => h9) rfl dX11_tapeNumber_41 ?_
  refine lv_iconst (v := 1) hx hb dX11_tapeNumber_44 (by decide) ?_
  refine lv_iadd hx hb dX11_tapeNumber_45 ?_
  refine vx_topc (v := 1) (by decide) ?_
  refine va_put (D := (dC, dI)) (ci := 11) (v := .int 1) (ty := .int) (C := RX11) (T := TX11) (N := 16) hx hb hts in_k_X11_tapeNumber_0_11 tyX11 tyX11_ok nmX11 hown hK hP hD hS 0 rfl rfl 1 (by decide) (hts (.fieldLink RX11 87 "LineKeeper" "taped" "I") (List.mem_of_getElem? (i := 1) rfl)) (fun _ h9 => h9) rfl (tyX11_ok 1 (by decide)) rfl rfl (Nat.le_of_ble_eq_true rfl) dX11_tapeNumber_46 (fun H locs hP hD hS => ?_)
  have hP : va_P (dC, dI) vwCl [(h701, .inr (11, (fsX g701).set 1 (.int 1))), ((g701 0), .inl (cA701, 1200, .inl f3))] H := hP
  have hD : va_D A [(h701, .inr (11, (fsX g701).set 1 (.int 1))), ((g701 0), .inl (cA701, 1200, .inl f3))] := hD
  refine lv_iinc (v := 16) (lv' := [(2, .int 16), (0, .ref h701), (1, .int x701)]) hx hb dX11_tapeNumber_49 hl (k := 0) rfl (by decide) (by decide) rfl (fun ls hl => ?_)
  refine lv_goto (tgt := 3) hx hb dX11_tapeNumber_52 (by decide) ?_
  refine lv_iload_n hx hb dX11_tapeNumber_3 rfl (lv_at hl 0 rfl) ?_
  refine lv_if_lt (tgt := 55) hx hb dX11_tapeNumber_4 (by decide) (fun h => absurd h (by decide)) (fun _ => ?_)
  refine lv_aload_n hx hb dX11_tapeNumber_7 rfl (lv_at hl 1 rfl) ?_
  refine va_get (D := (dC, dI)) (ci := 11) (v := .int 1) (C := RX11) (T := TX11) (N := 16) hx hb hts in_k_X11_tapeNumber_0_11 hown hK hP 0 rfl rfl 1 (by decide) (hts (.fieldLink RX11 87 "LineKeeper" "taped" "I") (List.mem_of_getElem? (i := 1) rfl)) (fun _ h9 => h9) rfl dX11_tapeNumber_8 ?_
  refine lv_if_lt (tgt := 49) hx hb dX11_tapeNumber_11 (by decide) (fun h => absurd h (by decide)) (fun _ => ?_)
  refine lv_aload_n hx hb dX11_tapeNumber_14 rfl (lv_at hl 1 rfl) ?_
  refine va_get (D := (dC, dI)) (ci := 11) (v := .int 1) (C := RX11) (T := TX11) (N := 16) hx hb hts in_k_X11_tapeNumber_0_11 hown hK hP 0 rfl rfl 1 (by decide) (hts (.fieldLink RX11 87 "LineKeeper" "taped" "I") (List.mem_of_getElem? (i := 1) rfl)) (fun _ h9 => h9) rfl dX11_tapeNumber_15 ?_
  refine lv_aload_n hx hb dX11_tapeNumber_18 rfl (lv_at hl 1 rfl) ?_
  refine va_get (D := (dC, dI)) (ci := 11) (v := .ref (g701 0)) (C := RX11) (T := TX11) (N := 16) hx hb hts in_k_X11_tapeNumber_0_11 hown hK hP 0 rfl rfl 0 (by decide) (hts (.fieldLink RX11 9 "LineKeeper" "tape" "[B") (List.mem_of_getElem? (i := 2) rfl)) (fun _ h9 => h9) rfl dX11_tapeNumber_19 ?_
  refine va_alen (v := 1200) hx hb hK hP 1 0 rfl rfl rfl dX11_tapeNumber_22 ?_
  refine lv_icmp_ge (tgt := 49) hx hb dX11_tapeNumber_23 (by decide) (fun h => absurd h (by decide)) (fun _ => ?_)
  refine lv_aload_n hx hb dX11_tapeNumber_26 rfl (lv_at hl 1 rfl) ?_
  refine va_get (D := (dC, dI)) (ci := 11) (v := .ref (g701 0)) (C := RX11) (T := TX11) (N := 16) hx hb hts in_k_X11_tapeNumber_0_11 hown hK hP 0 rfl rfl 0 (by decide) (hts (.fieldLink RX11 9 "LineKeeper" "tape" "[B") (List.mem_of_getElem? (i := 2) rfl)) (fun _ h9 => h9) rfl dX11_tapeNumber_27 ?_
  refine lv_aload_n hx hb dX11_tapeNumber_30 rfl (lv_at hl 1 rfl) ?_
  refine va_get (D := (dC, dI)) (ci := 11) (v := .int 1) (C := RX11) (T := TX11) (N := 16) hx hb hts in_k_X11_tapeNumber_0_11 hown hK hP 0 rfl rfl 1 (by decide) (hts (.fieldLink RX11 87 "LineKeeper" "taped" "I") (List.mem_of_getElem? (i := 1) rfl)) (fun _ h9 => h9) rfl dX11_tapeNumber_31 ?_
  refine lv_iload_n hx hb dX11_tapeNumber_34 rfl (lv_at hl 2 rfl) ?_
  refine lv_iload_n hx hb dX11_tapeNumber_35 rfl (lv_at hl 0 rfl) ?_
  refine lv_iushr hx hb dX11_tapeNumber_36 rfl ?_
  refine lv_topi (fun x4 ex4 => ?_)
  refine lv_i2b hx hb dX11_tapeNumber_37 rfl ?_
  refine lv_topi (fun x5 ex5 => ?_)
  refine va_bast hx hb hK hP hD hS 1 0 rfl rfl (vx_in (by decide)) dX11_tapeNumber_38 (fun H locs hP hD hS => ?_)
  generalize (upd f3 (1 : Int32).toNatClampNeg (vp_nar .byte x5)) = f6 at hP hD
  have hP : va_P (dC, dI) vwCl [(h701, .inr (11, (fsX g701).set 1 (.int 1))), ((g701 0), .inl (cA701, 1200, .inl f6))] H := hP
  have hD : va_D A [(h701, .inr (11, (fsX g701).set 1 (.int 1))), ((g701 0), .inl (cA701, 1200, .inl f6))] := hD
  refine lv_aload_n hx hb dX11_tapeNumber_39 rfl (lv_at hl 1 rfl) ?_
  refine lv_dup hx hb dX11_tapeNumber_40 rfl ?_
  refine va_get (D := (dC, dI)) (ci := 11) (v := .int 1) (C := RX11) (T := TX11) (N := 16) hx hb hts in_k_X11_tapeNumber_0_11 hown hK hP 0 rfl rfl 1 (by decide) (hts (.fieldLink RX11 87 "LineKeeper" "taped" "I") (List.mem_of_getElem? (i := 1) rfl)) (fun _ h9 => h9) rfl dX11_tapeNumber_41 ?_
  refine lv_iconst (v := 1) hx hb dX11_tapeNumber_44 (by decide) ?_
  refine lv_iadd hx hb dX11_tapeNumber_45 ?_
  refine vx_topc (v := 2) (by decide) ?_
  refine va_put (D := (dC, dI)) (ci := 11) (v := .int 2) (ty := .int) (C := RX11) (T := TX11) (N := 16) hx hb hts in_k_X11_tapeNumber_0_11 tyX11 tyX11_ok nmX11 hown hK hP hD hS 0 rfl rfl 1 (by decide) (hts (.fieldLink RX11 87 "LineKeeper" "taped" "I") (List.mem_of_getElem? (i := 1) rfl)) (fun _ h9 => h9) rfl (tyX11_ok 1 (by decide)) rfl rfl (Nat.le_of_ble_eq_true rfl) dX11_tapeNumber_46 (fun H locs hP hD hS => ?_)
  have hP : va_P (dC, dI) vwCl [(h701, .inr (11, (fsX g701).set 1 (.int 2))), ((g701 0), .inl (cA701, 1200, .inl f6))] H := hP
  have hD : va_D A [(h701, .inr (11, (fsX g701).set 1 (.int 2))), ((g701 0), .inl (cA701, 1200, .inl f6))] := hD
  refine lv_iinc (v := 8) (lv' := [(2, .int 8), (0, .ref h701), (1, .int x701)]) hx hb dX11_tapeNumber_49 hl (k := 0) rfl (by decide) (by decide) rfl (fun ls hl => ?_)
  refine lv_goto (tgt := 3) hx hb dX11_tapeNumber_52 (by decide) ?_
  refine lv_iload_n hx hb dX11_tapeNumber_3 rfl (lv_at hl 0 rfl) ?_
  refine lv_if_lt (tgt := 55) hx hb dX11_tapeNumber_4 (by decide) (fun h => absurd h (by decide)) (fun _ => ?_)
  refine lv_aload_n hx hb dX11_tapeNumber_7 rfl (lv_at hl 1 rfl) ?_
  refine va_get (D := (dC, dI)) (ci := 11) (v := .int 2) (C := RX11) (T := TX11) (N := 16) hx hb hts in_k_X11_tapeNumber_0_11 hown hK hP 0 rfl rfl 1 (by decide) (hts (.fieldLink RX11 87 "LineKeeper" "taped" "I") (List.mem_of_getElem? (i := 1) rfl)) (fun _ h9 => h9) rfl dX11_tapeNumber_8 ?_
  refine lv_if_lt (tgt := 49) hx hb dX11_tapeNumber_11 (by decide) (fun h => absurd h (by decide)) (fun _ => ?_)
  refine lv_aload_n hx hb dX11_tapeNumber_14 rfl (lv_at hl 1 rfl) ?_
  refine va_get (D := (dC, dI)) (ci := 11) (v := .int 2) (C := RX11) (T := TX11) (N := 16) hx hb hts in_k_X11_tapeNumber_0_11 hown hK hP 0 rfl rfl 1 (by decide) (hts (.fieldLink RX11 87 "LineKeeper" "taped" "I") (List.mem_of_getElem? (i := 1) rfl)) (fun _ h9 => h9) rfl dX11_tapeNumber_15 ?_
  refine lv_aload_n hx hb dX11_tapeNumber_18 rfl (lv_at hl 1 rfl) ?_
  refine va_get (D := (dC, dI)) (ci := 11) (v := .ref (g701 0)) (C := RX11) (T := TX11) (N := 16) hx hb hts in_k_X11_tapeNumber_0_11 hown hK hP 0 rfl rfl 0 (by decide) (hts (.fieldLink RX11 9 "LineKeeper" "tape" "[B") (List.mem_of_getElem? (i := 2) rfl)) (fun _ h9 => h9) rfl dX11_tapeNumber_19 ?_
  refine va_alen (v := 1200) hx hb hK hP 1 0 rfl rfl rfl dX11_tapeNumber_22 ?_
  refine lv_icmp_ge (tgt := 49) hx hb dX11_tapeNumber_23 (by decide) (fun h => absurd h (by decide)) (fun _ => ?_)
  refine lv_aload_n hx hb dX11_tapeNumber_26 rfl (lv_at hl 1 rfl) ?_
  refine va_get (D := (dC, dI)) (ci := 11) (v := .ref (g701 0)) (C := RX11) (T := TX11) (N := 16) hx hb hts in_k_X11_tapeNumber_0_11 hown hK hP 0 rfl rfl 0 (by decide) (hts (.fieldLink RX11 9 "LineKeeper" "tape" "[B") (List.mem_of_getElem? (i := 2) rfl)) (fun _ h9 => h9) rfl dX11_tapeNumber_27 ?_
  refine lv_aload_n hx hb dX11_tapeNumber_30 rfl (lv_at hl 1 rfl) ?_
  refine va_get (D := (dC, dI)) (ci := 11) (v := .int 2) (C := RX11) (T := TX11) (N := 16) hx hb hts in_k_X11_tapeNumber_0_11 hown hK hP 0 rfl rfl 1 (by decide) (hts (.fieldLink RX11 87 "LineKeeper" "taped" "I") (List.mem_of_getElem? (i := 1) rfl)) (fun _ h9 => h9) rfl dX11_tapeNumber_31 ?_
  refine lv_iload_n hx hb dX11_tapeNumber_34 rfl (lv_at hl 2 rfl) ?_
  refine lv_iload_n hx hb dX11_tapeNumber_35 rfl (lv_at hl 0 rfl) ?_
  refine lv_iushr hx hb dX11_tapeNumber_36 rfl ?_
  refine lv_topi (fun x7 ex7 => ?_)
  refine lv_i2b hx hb dX11_tapeNumber_37 rfl ?_
  refine lv_topi (fun x8 ex8 => ?_)
  refine va_bast hx hb hK hP hD hS 1 0 rfl rfl (vx_in (by decide)) dX11_tapeNumber_38 (fun H locs hP hD hS => ?_)
  generalize (upd f6 (2 : Int32).toNatClampNeg (vp_nar .byte x8)) = f9 at hP hD
  have hP : va_P (dC, dI) vwCl [(h701, .inr (11, (fsX g701).set 1 (.int 2))), ((g701 0), .inl (cA701, 1200, .inl f9))] H := hP
  have hD : va_D A [(h701, .inr (11, (fsX g701).set 1 (.int 2))), ((g701 0), .inl (cA701, 1200, .inl f9))] := hD
  refine lv_aload_n hx hb dX11_tapeNumber_39 rfl (lv_at hl 1 rfl) ?_
  refine lv_dup hx hb dX11_tapeNumber_40 rfl ?_
  refine va_get (D := (dC, dI)) (ci := 11) (v := .int 2) (C := RX11) (T := TX11) (N := 16) hx hb hts in_k_X11_tapeNumber_0_11 hown hK hP 0 rfl rfl 1 (by decide) (hts (.fieldLink RX11 87 "LineKeeper" "taped" "I") (List.mem_of_getElem? (i := 1) rfl)) (fun _ h9 => h9) rfl dX11_tapeNumber_41 ?_
  refine lv_iconst (v := 1) hx hb dX11_tapeNumber_44 (by decide) ?_
  refine lv_iadd hx hb dX11_tapeNumber_45 ?_
  refine vx_topc (v := 3) (by decide) ?_
  refine va_put (D := (dC, dI)) (ci := 11) (v := .int 3) (ty := .int) (C := RX11) (T := TX11) (N := 16) hx hb hts in_k_X11_tapeNumber_0_11 tyX11 tyX11_ok nmX11 hown hK hP hD hS 0 rfl rfl 1 (by decide) (hts (.fieldLink RX11 87 "LineKeeper" "taped" "I") (List.mem_of_getElem? (i := 1) rfl)) (fun _ h9 => h9) rfl (tyX11_ok 1 (by decide)) rfl rfl (Nat.le_of_ble_eq_true rfl) dX11_tapeNumber_46 (fun H locs hP hD hS => ?_)
  have hP : va_P (dC, dI) vwCl [(h701, .inr (11, (fsX g701).set 1 (.int 3))), ((g701 0), .inl (cA701, 1200, .inl f9))] H := hP
  have hD : va_D A [(h701, .inr (11, (fsX g701).set 1 (.int 3))), ((g701 0), .inl (cA701, 1200, .inl f9))] := hD
  refine lv_iinc (v := 0) (lv' := [(2, .int 0), (0, .ref h701), (1, .int x701)]) hx hb dX11_tapeNumber_49 hl (k := 0) rfl (by decide) (by decide) rfl (fun ls hl => ?_)
  refine lv_goto (tgt := 3) hx hb dX11_tapeNumber_52 (by decide) ?_
  refine lv_iload_n hx hb dX11_tapeNumber_3 rfl (lv_at hl 0 rfl) ?_
  refine lv_if_lt (tgt := 55) hx hb dX11_tapeNumber_4 (by decide) (fun h => absurd h (by decide)) (fun _ => ?_)
  refine lv_aload_n hx hb dX11_tapeNumber_7 rfl (lv_at hl 1 rfl) ?_
  refine va_get (D := (dC, dI)) (ci := 11) (v := .int 3) (C := RX11) (T := TX11) (N := 16) hx hb hts in_k_X11_tapeNumber_0_11 hown hK hP 0 rfl rfl 1 (by decide) (hts (.fieldLink RX11 87 "LineKeeper" "taped" "I") (List.mem_of_getElem? (i := 1) rfl)) (fun _ h9 => h9) rfl dX11_tapeNumber_8 ?_
  refine lv_if_lt (tgt := 49) hx hb dX11_tapeNumber_11 (by decide) (fun h => absurd h (by decide)) (fun _ => ?_)
  refine lv_aload_n hx hb dX11_tapeNumber_14 rfl (lv_at hl 1 rfl) ?_
  refine va_get (D := (dC, dI)) (ci := 11) (v := .int 3) (C := RX11) (T := TX11) (N := 16) hx hb hts in_k_X11_tapeNumber_0_11 hown hK hP 0 rfl rfl 1 (by decide) (hts (.fieldLink RX11 87 "LineKeeper" "taped" "I") (List.mem_of_getElem? (i := 1) rfl)) (fun _ h9 => h9) rfl dX11_tapeNumber_15 ?_
  refine lv_aload_n hx hb dX11_tapeNumber_18 rfl (lv_at hl 1 rfl) ?_
  refine va_get (D := (dC, dI)) (ci := 11) (v := .ref (g701 0)) (C := RX11) (T := TX11) (N := 16) hx hb hts in_k_X11_tapeNumber_0_11 hown hK hP 0 rfl rfl 0 (by decide) (hts (.fieldLink RX11 9 "LineKeeper" "tape" "[B") (List.mem_of_getElem? (i := 2) rfl)) (fun _ h9 => h9) rfl dX11_tapeNumber_19 ?_
  refine va_alen (v := 1200) hx hb hK hP 1 0 rfl rfl rfl dX11_tapeNumber_22 ?_
  refine lv_icmp_ge (tgt := 49) hx hb dX11_tapeNumber_23 (by decide) (fun h => absurd h (by decide)) (fun _ => ?_)
  refine lv_aload_n hx hb dX11_tapeNumber_26 rfl (lv_at hl 1 rfl) ?_
  refine va_get (D := (dC, dI)) (ci := 11) (v := .ref (g701 0)) (C := RX11) (T := TX11) (N := 16) hx hb hts in_k_X11_tapeNumber_0_11 hown hK hP 0 rfl rfl 0 (by decide) (hts (.fieldLink RX11 9 "LineKeeper" "tape" "[B") (List.mem_of_getElem? (i := 2) rfl)) (fun _ h9 => h9) rfl dX11_tapeNumber_27 ?_
  refine lv_aload_n hx hb dX11_tapeNumber_30 rfl (lv_at hl 1 rfl) ?_
  refine va_get (D := (dC, dI)) (ci := 11) (v := .int 3) (C := RX11) (T := TX11) (N := 16) hx hb hts in_k_X11_tapeNumber_0_11 hown hK hP 0 rfl rfl 1 (by decide) (hts (.fieldLink RX11 87 "LineKeeper" "taped" "I") (List.mem_of_getElem? (i := 1) rfl)) (fun _ h9 => h9) rfl dX11_tapeNumber_31 ?_
  refine lv_iload_n hx hb dX11_tapeNumber_34 rfl (lv_at hl 2 rfl) ?_
  refine lv_iload_n hx hb dX11_tapeNumber_35 rfl (lv_at hl 0 rfl) ?_
  refine lv_iushr hx hb dX11_tapeNumber_36 rfl ?_
  refine lv_topi (fun x10 ex10 => ?_)
  refine lv_i2b hx hb dX11_tapeNumber_37 rfl ?_
  refine lv_topi (fun x11 ex11 => ?_)
  refine va_bast hx hb hK hP hD hS 1 0 rfl rfl (vx_in (by decide)) dX11_tapeNumber_38 (fun H locs hP hD hS => ?_)
  generalize (upd f9 (3 : Int32).toNatClampNeg (vp_nar .byte x11)) = f12 at hP hD
  have hP : va_P (dC, dI) vwCl [(h701, .inr (11, (fsX g701).set 1 (.int 3))), ((g701 0), .inl (cA701, 1200, .inl f12))] H := hP
  have hD : va_D A [(h701, .inr (11, (fsX g701).set 1 (.int 3))), ((g701 0), .inl (cA701, 1200, .inl f12))] := hD
  refine lv_aload_n hx hb dX11_tapeNumber_39 rfl (lv_at hl 1 rfl) ?_
  refine lv_dup hx hb dX11_tapeNumber_40 rfl ?_
  refine va_get (D := (dC, dI)) (ci := 11) (v := .int 3) (C := RX11) (T := TX11) (N := 16) hx hb hts in_k_X11_tapeNumber_0_11 hown hK hP 0 rfl rfl 1 (by decide) (hts (.fieldLink RX11 87 "LineKeeper" "taped" "I") (List.mem_of_getElem? (i := 1) rfl)) (fun _ h9 => h9) rfl dX11_tapeNumber_41 ?_
  refine lv_iconst (v := 1) hx hb dX11_tapeNumber_44 (by decide) ?_
  refine lv_iadd hx hb dX11_tapeNumber_45 ?_
  refine vx_topc (v := 4) (by decide) ?_
  refine va_put (D := (dC, dI)) (ci := 11) (v := .int 4) (ty := .int) (C := RX11) (T := TX11) (N := 16) hx hb hts in_k_X11_tapeNumber_0_11 tyX11 tyX11_ok nmX11 hown hK hP hD hS 0 rfl rfl 1 (by decide) (hts (.fieldLink RX11 87 "LineKeeper" "taped" "I") (List.mem_of_getElem? (i := 1) rfl)) (fun _ h9 => h9) rfl (tyX11_ok 1 (by decide)) rfl rfl (Nat.le_of_ble_eq_true rfl) dX11_tapeNumber_46 (fun H locs hP hD hS => ?_)
  have hP : va_P (dC, dI) vwCl [(h701, .inr (11, (fsX g701).set 1 (.int 4))), ((g701 0), .inl (cA701, 1200, .inl f12))] H := hP
  have hD : va_D A [(h701, .inr (11, (fsX g701).set 1 (.int 4))), ((g701 0), .inl (cA701, 1200, .inl f12))] := hD
  refine lv_iinc (v := (-8)) (lv' := [(2, .int (-8)), (0, .ref h701), (1, .int x701)]) hx hb dX11_tapeNumber_49 hl (k := 0) rfl (by decide) (by decide) rfl (fun ls hl => ?_)
  refine lv_goto (tgt := 3) hx hb dX11_tapeNumber_52 (by decide) ?_
  refine lv_iload_n hx hb dX11_tapeNumber_3 rfl (lv_at hl 0 rfl) ?_
  refine lv_if_lt (tgt := 55) hx hb dX11_tapeNumber_4 (by decide) (fun _ => ?_) (fun h => absurd (by decide) h)
  have hP9 := hP.sub (ws' := [(h701, .inr (11, (fsX g701).set 1 (.int 4))), ((g701 0), .inl (cA701, 1200, .inl f12))]) [0, 1] rfl
  have hD9 := hD.sub (ws' := [(h701, .inr (11, (fsX g701).set 1 (.int 4))), ((g701 0), .inl (cA701, 1200, .inl f12))]) [0, 1] (by decide) rfl
  have hK9 := hK.sub (tys' := [(cA701, .byte)]) [0] rfl
  exact W.vret hx hb hr (fun t ht hW => ⟨⟨(), rfl, trivial, f12, by rw [ht]; exact hP9, va_K.moved hW.alike hK9, hD9⟩, hS.F ht⟩) hS.2.2 dX11_tapeNumber_55

def w_k_X11_tapeNumber_1 : List Cond := .code yX11_tapeNumber cX11_tapeNumber 3 none :: ([.fieldLink RX11 87 "LineKeeper" "taped" "I", .fieldLink RX11 9 "LineKeeper" "tape" "[B"] ++ wsX110)
theorem in_k_X11_tapeNumber_1_11 : ∀ w ∈ wsX110, w ∈ w_k_X11_tapeNumber_1 := fun _ h => List.mem_cons_of_mem _ (List.mem_append_right _ h)
set_option maxHeartbeats 4000000 in
set_option maxRecDepth 100000 in
theorem k_X11_tapeNumber_1 (l : Launch) (dC : Nat → ClassId) (dI : Nat → Nat → Nat) (h701 : Nat) (x701 : Int32) (g701 : Nat → Nat) (cA701 : ClassId) (f701 : Nat → Int32) (sz : Nat) : Met l yX11_tapeNumber w_k_X11_tapeNumber_1 { frames := 0, cells := 0, slots := 0, locals := 0 } (va_Pc [.ref h701, .int x701] (vx_pre dC dI [(h701, .inr (11, (fsX g701).set 1 (.int 4))), ((g701 0), .inl (cA701, 1200, .inl f701))] [(cA701, .byte)] sz)) (va_Qv (fun _ : Unit => True) (fun _ t => ∃ (f901 : Nat → Int32), vx_B dC dI (va_A [(h701, .inr (11, (fsX g701).set 1 (.int 4))), ((g701 0), .inl (cA701, 1200, .inl f701))] sz) [(h701, .inr (11, (fsX g701).set 1 (.int 8))), ((g701 0), .inl (cA701, 1200, .inl f901))] [(cA701, .byte)] t) (va_A [(h701, .inr (11, (fsX g701).set 1 (.int 4))), ((g701 0), .inl (cA701, 1200, .inl f701))] sz)) 0 0 (va_A [(h701, .inr (11, (fsX g701).set 1 (.int 4))), ((g701 0), .inl (cA701, 1200, .inl f701))] sz) := by
  refine Met.ofW (cc := cX11_tapeNumber) (maxL := 3) (ret := none) (by decide) rfl ?_
  intro p e s m args below meth c s₁ B hml hv
  obtain ⟨rfl, hsz, hP, hK, hD0, hN⟩ := hv
  have hx := B.exec
  have hb := B.bytes
  have hr := B.returns
  have hts := atoms_spec (ws := w_k_X11_tapeNumber_1) B.pre
  have hown : s.vm.findClass RX11 = some m.cls := findClass_of_methodNamed B.named
  have hlocks := B.notSynchronized
  subst hsz
  have hD := hD0.self (sz := s.heap.size)
  generalize hAe : va_A [(h701, .inr (11, (fsX g701).set 1 (.int 4))), ((g701 0), .inl (cA701, 1200, .inl f701))] s.heap.size = A at hD ⊢
  have hA : ∀ q : Nat, s.heap.size ≤ q → A q := fun q h => by rw [← hAe]; exact Or.inr h
  obtain ⟨H, hHe⟩ : ∃ H, H = s.heap := ⟨_, rfl⟩
  rw [← hHe] at hP ⊢
  have hS : va_S A s.heap H [] := by rw [hHe]; exact va_S.rf
  have hl := lv_entry [.ref h701, .int x701] (n := 3) (Nat.le_of_ble_eq_true rfl)
  rw [lg_entry_eq]
  generalize (lg_sl [.ref h701, .int x701] ++ List.replicate (3 - (lg_sl [.ref h701, .int x701]).length) Slot.unset).toArray = ls at hl ⊢
  have hl : lv_has ls 3 [(0, .ref h701), (1, .int x701)] := hl
  refine lv_bipush (v := 24) hx hb dX11_tapeNumber_0 (by decide) ?_
  refine lv_istore_n (lv' := [(2, .int 24), (0, .ref h701), (1, .int x701)]) hx hb dX11_tapeNumber_2 rfl hl (by decide) rfl (fun ls hl => ?_)
  refine lv_iload_n hx hb dX11_tapeNumber_3 rfl (lv_at hl 0 rfl) ?_
  refine lv_if_lt (tgt := 55) hx hb dX11_tapeNumber_4 (by decide) (fun h => absurd h (by decide)) (fun _ => ?_)
  refine lv_aload_n hx hb dX11_tapeNumber_7 rfl (lv_at hl 1 rfl) ?_
  refine va_get (D := (dC, dI)) (ci := 11) (v := .int 4) (C := RX11) (T := TX11) (N := 16) hx hb hts in_k_X11_tapeNumber_1_11 hown hK hP 0 rfl rfl 1 (by decide) (hts (.fieldLink RX11 87 "LineKeeper" "taped" "I") (List.mem_of_getElem? (i := 1) rfl)) (fun _ h9 => h9) rfl dX11_tapeNumber_8 ?_
  refine lv_if_lt (tgt := 49) hx hb dX11_tapeNumber_11 (by decide) (fun h => absurd h (by decide)) (fun _ => ?_)
  refine lv_aload_n hx hb dX11_tapeNumber_14 rfl (lv_at hl 1 rfl) ?_
  refine va_get (D := (dC, dI)) (ci := 11) (v := .int 4) (C := RX11) (T := TX11) (N := 16) hx hb hts in_k_X11_tapeNumber_1_11 hown hK hP 0 rfl rfl 1 (by decide) (hts (.fieldLink RX11 87 "LineKeeper" "taped" "I") (List.mem_of_getElem? (i := 1) rfl)) (fun _ h9 => h9) rfl dX11_tapeNumber_15 ?_
  refine lv_aload_n hx hb dX11_tapeNumber_18 rfl (lv_at hl 1 rfl) ?_
  refine va_get (D := (dC, dI)) (ci := 11) (v := .ref (g701 0)) (C := RX11) (T := TX11) (N := 16) hx hb hts in_k_X11_tapeNumber_1_11 hown hK hP 0 rfl rfl 0 (by decide) (hts (.fieldLink RX11 9 "LineKeeper" "tape" "[B") (List.mem_of_getElem? (i := 2) rfl)) (fun _ h9 => h9) rfl dX11_tapeNumber_19 ?_
  refine va_alen (v := 1200) hx hb hK hP 1 0 rfl rfl rfl dX11_tapeNumber_22 ?_
  refine lv_icmp_ge (tgt := 49) hx hb dX11_tapeNumber_23 (by decide) (fun h => absurd h (by decide)) (fun _ => ?_)
  refine lv_aload_n hx hb dX11_tapeNumber_26 rfl (lv_at hl 1 rfl) ?_
  refine va_get (D := (dC, dI)) (ci := 11) (v := .ref (g701 0)) (C := RX11) (T := TX11) (N := 16) hx hb hts in_k_X11_tapeNumber_1_11 hown hK hP 0 rfl rfl 0 (by decide) (hts (.fieldLink RX11 9 "LineKeeper" "tape" "[B") (List.mem_of_getElem? (i := 2) rfl)) (fun _ h9 => h9) rfl dX11_tapeNumber_27 ?_
  refine lv_aload_n hx hb dX11_tapeNumber_30 rfl (lv_at hl 1 rfl) ?_
  refine va_get (D := (dC, dI)) (ci := 11) (v := .int 4) (C := RX11) (T := TX11) (N := 16) hx hb hts in_k_X11_tapeNumber_1_11 hown hK hP 0 rfl rfl 1 (by decide) (hts (.fieldLink RX11 87 "LineKeeper" "taped" "I") (List.mem_of_getElem? (i := 1) rfl)) (fun _ h9 => h9) rfl dX11_tapeNumber_31 ?_
  refine lv_iload_n hx hb dX11_tapeNumber_34 rfl (lv_at hl 2 rfl) ?_
  refine lv_iload_n hx hb dX11_tapeNumber_35 rfl (lv_at hl 0 rfl) ?_
  refine lv_iushr hx hb dX11_tapeNumber_36 rfl ?_
  refine lv_topi (fun x1 ex1 => ?_)
  refine lv_i2b hx hb dX11_tapeNumber_37 rfl ?_
  refine lv_topi (fun x2 ex2 => ?_)
  refine va_bast hx hb hK hP hD hS 1 0 rfl rfl (vx_in (by decide)) dX11_tapeNumber_38 (fun H locs hP hD hS => ?_)
  generalize (upd f701 (4 : Int32).toNatClampNeg (vp_nar .byte x2)) = f3 at hP hD
  have hP : va_P (dC, dI) vwCl [(h701, .inr (11, (fsX g701).set 1 (.int 4))), ((g701 0), .inl (cA701, 1200, .inl f3))] H := hP
  have hD : va_D A [(h701, .inr (11, (fsX g701).set 1 (.int 4))), ((g701 0), .inl (cA701, 1200, .inl f3))] := hD
  refine lv_aload_n hx hb dX11_tapeNumber_39 rfl (lv_at hl 1 rfl) ?_
  refine lv_dup hx hb dX11_tapeNumber_40 rfl ?_
  refine va_get (D := (dC, dI)) (ci := 11) (v := .int 4) (C := RX11) (T := TX11) (N := 16) hx hb hts in_k_X11_tapeNumber_1_11 hown hK hP 0 rfl rfl 1 (by decide) (hts (.fieldLink RX11 87 "LineKeeper" "taped" "I") (List.mem_of_getElem? (i := 1) rfl)) (fun _ h9 => h9) rfl dX11_tapeNumber_41 ?_
  refine lv_iconst (v := 1) hx hb dX11_tapeNumber_44 (by decide) ?_
  refine lv_iadd hx hb dX11_tapeNumber_45 ?_
  refine vx_topc (v := 5) (by decide) ?_
  refine va_put (D := (dC, dI)) (ci := 11) (v := .int 5) (ty := .int) (C := RX11) (T := TX11) (N := 16) hx hb hts in_k_X11_tapeNumber_1_11 tyX11 tyX11_ok nmX11 hown hK hP hD hS 0 rfl rfl 1 (by decide) (hts (.fieldLink RX11 87 "LineKeeper" "taped" "I") (List.mem_of_getElem? (i := 1) rfl)) (fun _ h9 => h9) rfl (tyX11_ok 1 (by decide)) rfl rfl (Nat.le_of_ble_eq_true rfl) dX11_tapeNumber_46 (fun H locs hP hD hS => ?_)
  have hP : va_P (dC, dI) vwCl [(h701, .inr (11, (fsX g701).set 1 (.int 5))), ((g701 0), .inl (cA701, 1200, .inl f3))] H := hP
  have hD : va_D A [(h701, .inr (11, (fsX g701).set 1 (.int 5))), ((g701 0), .inl (cA701, 1200, .inl f3))] := hD
  refine lv_iinc (v := 16) (lv' := [(2, .int 16), (0, .ref h701), (1, .int x701)]) hx hb dX11_tapeNumber_49 hl (k := 0) rfl (by decide) (by decide) rfl (fun ls hl => ?_)
  refine lv_goto (tgt := 3) hx hb dX11_tapeNumber_52 (by decide) ?_
  refine lv_iload_n hx hb dX11_tapeNumber_3 rfl (lv_at hl 0 rfl) ?_
  refine lv_if_lt (tgt := 55) hx hb dX11_tapeNumber_4 (by decide) (fun h => absurd h (by decide)) (fun _ => ?_)
  refine lv_aload_n hx hb dX11_tapeNumber_7 rfl (lv_at hl 1 rfl) ?_
  refine va_get (D := (dC, dI)) (ci := 11) (v := .int 5) (C := RX11) (T := TX11) (N := 16) hx hb hts in_k_X11_tapeNumber_1_11 hown hK hP 0 rfl rfl 1 (by decide) (hts (.fieldLink RX11 87 "LineKeeper" "taped" "I") (List.mem_of_getElem? (i := 1) rfl)) (fun _ h9 => h9) rfl dX11_tapeNumber_8 ?_
  refine lv_if_lt (tgt := 49) hx hb dX11_tapeNumber_11 (by decide) (fun h => absurd h (by decide)) (fun _ => ?_)
  refine lv_aload_n hx hb dX11_tapeNumber_14 rfl (lv_at hl 1 rfl) ?_
  refine va_get (D := (dC, dI)) (ci := 11) (v := .int 5) (C := RX11) (T := TX11) (N := 16) hx hb hts in_k_X11_tapeNumber_1_11 hown hK hP 0 rfl rfl 1 (by decide) (hts (.fieldLink RX11 87 "LineKeeper" "taped" "I") (List.mem_of_getElem? (i := 1) rfl)) (fun _ h9 => h9) rfl dX11_tapeNumber_15 ?_
  refine lv_aload_n hx hb dX11_tapeNumber_18 rfl (lv_at hl 1 rfl) ?_
  refine va_get (D := (dC, dI)) (ci := 11) (v := .ref (g701 0)) (C := RX11) (T := TX11) (N := 16) hx hb hts in_k_X11_tapeNumber_1_11 hown hK hP 0 rfl rfl 0 (by decide) (hts (.fieldLink RX11 9 "LineKeeper" "tape" "[B") (List.mem_of_getElem? (i := 2) rfl)) (fun _ h9 => h9) rfl dX11_tapeNumber_19 ?_
  refine va_alen (v := 1200) hx hb hK hP 1 0 rfl rfl rfl dX11_tapeNumber_22 ?_
  refine lv_icmp_ge (tgt := 49) hx hb dX11_tapeNumber_23 (by decide) (fun h => absurd h (by decide)) (fun _ => ?_)
  refine lv_aload_n hx hb dX11_tapeNumber_26 rfl (lv_at hl 1 rfl) ?_
  refine va_get (D := (dC, dI)) (ci := 11) (v := .ref (g701 0)) (C := RX11) (T := TX11) (N := 16) hx hb hts in_k_X11_tapeNumber_1_11 hown hK hP 0 rfl rfl 0 (by decide) (hts (.fieldLink RX11 9 "LineKeeper" "tape" "[B") (List.mem_of_getElem? (i := 2) rfl)) (fun _ h9 => h9) rfl dX11_tapeNumber_27 ?_
  refine lv_aload_n hx hb dX11_tapeNumber_30 rfl (lv_at hl 1 rfl) ?_
  refine va_get (D := (dC, dI)) (ci := 11) (v := .int 5) (C := RX11) (T := TX11) (N := 16) hx hb hts in_k_X11_tapeNumber_1_11 hown hK hP 0 rfl rfl 1 (by decide) (hts (.fieldLink RX11 87 "LineKeeper" "taped" "I") (List.mem_of_getElem? (i := 1) rfl)) (fun _ h9 => h9) rfl dX11_tapeNumber_31 ?_
  refine lv_iload_n hx hb dX11_tapeNumber_34 rfl (lv_at hl 2 rfl) ?_
  refine lv_iload_n hx hb dX11_tapeNumber_35 rfl (lv_at hl 0 rfl) ?_
  refine lv_iushr hx hb dX11_tapeNumber_36 rfl ?_
  refine lv_topi (fun x4 ex4 => ?_)
  refine lv_i2b hx hb dX11_tapeNumber_37 rfl ?_
  refine lv_topi (fun x5 ex5 => ?_)
  refine va_bast hx hb hK hP hD hS 1 0 rfl rfl (vx_in (by decide)) dX11_tapeNumber_38 (fun H locs hP hD hS => ?_)
  generalize (upd f3 (5 : Int32).toNatClampNeg (vp_nar .byte x5)) = f6 at hP hD
  have hP : va_P (dC, dI) vwCl [(h701, .inr (11, (fsX g701).set 1 (.int 5))), ((g701 0), .inl (cA701, 1200, .inl f6))] H := hP
  have hD : va_D A [(h701, .inr (11, (fsX g701).set 1 (.int 5))), ((g701 0), .inl (cA701, 1200, .inl f6))] := hD
  refine lv_aload_n hx hb dX11_tapeNumber_39 rfl (lv_at hl 1 rfl) ?_
  refine lv_dup hx hb dX11_tapeNumber_40 rfl ?_
  refine va_get (D := (dC, dI)) (ci := 11) (v := .int 5) (C := RX11) (T := TX11) (N := 16) hx hb hts in_k_X11_tapeNumber_1_11 hown hK hP 0 rfl rfl 1 (by decide) (hts (.fieldLink RX11 87 "LineKeeper" "taped" "I") (List.mem_of_getElem? (i := 1) rfl)) (fun _ h9 => h9) rfl dX11_tapeNumber_41 ?_
  refine lv_iconst (v := 1) hx hb dX11_tapeNumber_44 (by decide) ?_
  refine lv_iadd hx hb dX11_tapeNumber_45 ?_
  refine vx_topc (v := 6) (by decide) ?_
  refine va_put (D := (dC, dI)) (ci := 11) (v := .int 6) (ty := .int) (C := RX11) (T := TX11) (N := 16) hx hb hts in_k_X11_tapeNumber_1_11 tyX11 tyX11_ok nmX11 hown hK hP hD hS 0 rfl rfl 1 (by decide) (hts (.fieldLink RX11 87 "LineKeeper" "taped" "I") (List.mem_of_getElem? (i := 1) rfl)) (fun _ h9 => h9) rfl (tyX11_ok 1 (by decide)) rfl rfl (Nat.le_of_ble_eq_true rfl) dX11_tapeNumber_46 (fun H locs hP hD hS => ?_)
  have hP : va_P (dC, dI) vwCl [(h701, .inr (11, (fsX g701).set 1 (.int 6))), ((g701 0), .inl (cA701, 1200, .inl f6))] H := hP
  have hD : va_D A [(h701, .inr (11, (fsX g701).set 1 (.int 6))), ((g701 0), .inl (cA701, 1200, .inl f6))] := hD
  refine lv_iinc (v := 8) (lv' := [(2, .int 8), (0, .ref h701), (1, .int x701)]) hx hb dX11_tapeNumber_49 hl (k := 0) rfl (by decide) (by decide) rfl (fun ls hl => ?_)
  refine lv_goto (tgt := 3) hx hb dX11_tapeNumber_52 (by decide) ?_
  refine lv_iload_n hx hb dX11_tapeNumber_3 rfl (lv_at hl 0 rfl) ?_
  refine lv_if_lt (tgt := 55) hx hb dX11_tapeNumber_4 (by decide) (fun h => absurd h (by decide)) (fun _ => ?_)
  refine lv_aload_n hx hb dX11_tapeNumber_7 rfl (lv_at hl 1 rfl) ?_
  refine va_get (D := (dC, dI)) (ci := 11) (v := .int 6) (C := RX11) (T := TX11) (N := 16) hx hb hts in_k_X11_tapeNumber_1_11 hown hK hP 0 rfl rfl 1 (by decide) (hts (.fieldLink RX11 87 "LineKeeper" "taped" "I") (List.mem_of_getElem? (i := 1) rfl)) (fun _ h9 => h9) rfl dX11_tapeNumber_8 ?_
  refine lv_if_lt (tgt := 49) hx hb dX11_tapeNumber_11 (by decide) (fun h => absurd h (by decide)) (fun _ => ?_)
  refine lv_aload_n hx hb dX11_tapeNumber_14 rfl (lv_at hl 1 rfl) ?_
  refine va_get (D := (dC, dI)) (ci := 11) (v := .int 6) (C := RX11) (T := TX11) (N := 16) hx hb hts in_k_X11_tapeNumber_1_11 hown hK hP 0 rfl rfl 1 (by decide) (hts (.fieldLink RX11 87 "LineKeeper" "taped" "I") (List.mem_of_getElem? (i := 1) rfl)) (fun _ h9 => h9) rfl dX11_tapeNumber_15 ?_
  refine lv_aload_n hx hb dX11_tapeNumber_18 rfl (lv_at hl 1 rfl) ?_
  refine va_get (D := (dC, dI)) (ci := 11) (v := .ref (g701 0)) (C := RX11) (T := TX11) (N := 16) hx hb hts in_k_X11_tapeNumber_1_11 hown hK hP 0 rfl rfl 0 (by decide) (hts (.fieldLink RX11 9 "LineKeeper" "tape" "[B") (List.mem_of_getElem? (i := 2) rfl)) (fun _ h9 => h9) rfl dX11_tapeNumber_19 ?_
  refine va_alen (v := 1200) hx hb hK hP 1 0 rfl rfl rfl dX11_tapeNumber_22 ?_
  refine lv_icmp_ge (tgt := 49) hx hb dX11_tapeNumber_23 (by decide) (fun h => absurd h (by decide)) (fun _ => ?_)
  refine lv_aload_n hx hb dX11_tapeNumber_26 rfl (lv_at hl 1 rfl) ?_
  refine va_get (D := (dC, dI)) (ci := 11) (v := .ref (g701 0)) (C := RX11) (T := TX11) (N := 16) hx hb hts in_k_X11_tapeNumber_1_11 hown hK hP 0 rfl rfl 0 (by decide) (hts (.fieldLink RX11 9 "LineKeeper" "tape" "[B") (List.mem_of_getElem? (i := 2) rfl)) (fun _ h9 => h9) rfl dX11_tapeNumber_27 ?_
  refine lv_aload_n hx hb dX11_tapeNumber_30 rfl (lv_at hl 1 rfl) ?_
  refine va_get (D := (dC, dI)) (ci := 11) (v := .int 6) (C := RX11) (T := TX11) (N := 16) hx hb hts in_k_X11_tapeNumber_1_11 hown hK hP 0 rfl rfl 1 (by decide) (hts (.fieldLink RX11 87 "LineKeeper" "taped" "I") (List.mem_of_getElem? (i := 1) rfl)) (fun _ h9 => h9) rfl dX11_tapeNumber_31 ?_
  refine lv_iload_n hx hb dX11_tapeNumber_34 rfl (lv_at hl 2 rfl) ?_
  refine lv_iload_n hx hb dX11_tapeNumber_35 rfl (lv_at hl 0 rfl) ?_
  refine lv_iushr hx hb dX11_tapeNumber_36 rfl ?_
  refine lv_topi (fun x7 ex7 => ?_)
  refine lv_i2b hx hb dX11_tapeNumber_37 rfl ?_
  refine lv_topi (fun x8 ex8 => ?_)
  refine va_bast hx hb hK hP hD hS 1 0 rfl rfl (vx_in (by decide)) dX11_tapeNumber_38 (fun H locs hP hD hS => ?_)
  generalize (upd f6 (6 : Int32).toNatClampNeg (vp_nar .byte x8)) = f9 at hP hD
  have hP : va_P (dC, dI) vwCl [(h701, .inr (11, (fsX g701).set 1 (.int 6))), ((g701 0), .inl (cA701, 1200, .inl f9))] H := hP
  have hD : va_D A [(h701, .inr (11, (fsX g701).set 1 (.int 6))), ((g701 0), .inl (cA701, 1200, .inl f9))] := hD
  refine lv_aload_n hx hb dX11_tapeNumber_39 rfl (lv_at hl 1 rfl) ?_
  refine lv_dup hx hb dX11_tapeNumber_40 rfl ?_
  refine va_get (D := (dC, dI)) (ci := 11) (v := .int 6) (C := RX11) (T := TX11) (N := 16) hx hb hts in_k_X11_tapeNumber_1_11 hown hK hP 0 rfl rfl 1 (by decide) (hts (.fieldLink RX11 87 "LineKeeper" "taped" "I") (List.mem_of_getElem? (i := 1) rfl)) (fun _ h9 => h9) rfl dX11_tapeNumber_41 ?_
  refine lv_iconst (v := 1) hx hb dX11_tapeNumber_44 (by decide) ?_
  refine lv_iadd hx hb dX11_tapeNumber_45 ?_
  refine vx_topc (v := 7) (by decide) ?_
  refine va_put (D := (dC, dI)) (ci := 11) (v := .int 7) (ty := .int) (C := RX11) (T := TX11) (N := 16) hx hb hts in_k_X11_tapeNumber_1_11 tyX11 tyX11_ok nmX11 hown hK hP hD hS 0 rfl rfl 1 (by decide) (hts (.fieldLink RX11 87 "LineKeeper" "taped" "I") (List.mem_of_getElem? (i := 1) rfl)) (fun _ h9 => h9) rfl (tyX11_ok 1 (by decide)) rfl rfl (Nat.le_of_ble_eq_true rfl) dX11_tapeNumber_46 (fun H locs hP hD hS => ?_)
  have hP : va_P (dC, dI) vwCl [(h701, .inr (11, (fsX g701).set 1 (.int 7))), ((g701 0), .inl (cA701, 1200, .inl f9))] H := hP
  have hD : va_D A [(h701, .inr (11, (fsX g701).set 1 (.int 7))), ((g701 0), .inl (cA701, 1200, .inl f9))] := hD
  refine lv_iinc (v := 0) (lv' := [(2, .int 0), (0, .ref h701), (1, .int x701)]) hx hb dX11_tapeNumber_49 hl (k := 0) rfl (by decide) (by decide) rfl (fun ls hl => ?_)
  refine lv_goto (tgt := 3) hx hb dX11_tapeNumber_52 (by decide) ?_
  refine lv_iload_n hx hb dX11_tapeNumber_3 rfl (lv_at hl 0 rfl) ?_
  refine lv_if_lt (tgt := 55) hx hb dX11_tapeNumber_4 (by decide) (fun h => absurd h (by decide)) (fun _ => ?_)
  refine lv_aload_n hx hb dX11_tapeNumber_7 rfl (lv_at hl 1 rfl) ?_
  refine va_get (D := (dC, dI)) (ci := 11) (v := .int 7) (C := RX11) (T := TX11) (N := 16) hx hb hts in_k_X11_tapeNumber_1_11 hown hK hP 0 rfl rfl 1 (by decide) (hts (.fieldLink RX11 87 "LineKeeper" "taped" "I") (List.mem_of_getElem? (i := 1) rfl)) (fun _ h9 => h9) rfl dX11_tapeNumber_8 ?_
  refine lv_if_lt (tgt := 49) hx hb dX11_tapeNumber_11 (by decide) (fun h => absurd h (by decide)) (fun _ => ?_)
  refine lv_aload_n hx hb dX11_tapeNumber_14 rfl (lv_at hl 1 rfl) ?_
  refine va_get (D := (dC, dI)) (ci := 11) (v := .int 7) (C := RX11) (T := TX11) (N := 16) hx hb hts in_k_X11_tapeNumber_1_11 hown hK hP 0 rfl rfl 1 (by decide) (hts (.fieldLink RX11 87 "LineKeeper" "taped" "I") (List.mem_of_getElem? (i := 1) rfl)) (fun _ h9 => h9) rfl dX11_tapeNumber_15 ?_
  refine lv_aload_n hx hb dX11_tapeNumber_18 rfl (lv_at hl 1 rfl) ?_
  refine va_get (D := (dC, dI)) (ci := 11) (v := .ref (g701 0)) (C := RX11) (T := TX11) (N := 16) hx hb hts in_k_X11_tapeNumber_1_11 hown hK hP 0 rfl rfl 0 (by decide) (hts (.fieldLink RX11 9 "LineKeeper" "tape" "[B") (List.mem_of_getElem? (i := 2) rfl)) (fun _ h9 => h9) rfl dX11_tapeNumber_19 ?_
  refine va_alen (v := 1200) hx hb hK hP 1 0 rfl rfl rfl dX11_tapeNumber_22 ?_
  refine lv_icmp_ge (tgt := 49) hx hb dX11_tapeNumber_23 (by decide) (fun h => absurd h (by decide)) (fun _ => ?_)
  refine lv_aload_n hx hb dX11_tapeNumber_26 rfl (lv_at hl 1 rfl) ?_
  refine va_get (D := (dC, dI)) (ci := 11) (v := .ref (g701 0)) (C := RX11) (T := TX11) (N := 16) hx hb hts in_k_X11_tapeNumber_1_11 hown hK hP 0 rfl rfl 0 (by decide) (hts (.fieldLink RX11 9 "LineKeeper" "tape" "[B") (List.mem_of_getElem? (i := 2) rfl)) (fun _ h9 => h9) rfl dX11_tapeNumber_27 ?_
  refine lv_aload_n hx hb dX11_tapeNumber_30 rfl (lv_at hl 1 rfl) ?_
  refine va_get (D := (dC, dI)) (ci := 11) (v := .int 7) (C := RX11) (T := TX11) (N := 16) hx hb hts in_k_X11_tapeNumber_1_11 hown hK hP 0 rfl rfl 1 (by decide) (hts (.fieldLink RX11 87 "LineKeeper" "taped" "I") (List.mem_of_getElem? (i := 1) rfl)) (fun _ h9 => h9) rfl dX11_tapeNumber_31 ?_
  refine lv_iload_n hx hb dX11_tapeNumber_34 rfl (lv_at hl 2 rfl) ?_
  refine lv_iload_n hx hb dX11_tapeNumber_35 rfl (lv_at hl 0 rfl) ?_
  refine lv_iushr hx hb dX11_tapeNumber_36 rfl ?_
  refine lv_topi (fun x10 ex10 => ?_)
  refine lv_i2b hx hb dX11_tapeNumber_37 rfl ?_
  refine lv_topi (fun x11 ex11 => ?_)
  refine va_bast hx hb hK hP hD hS 1 0 rfl rfl (vx_in (by decide)) dX11_tapeNumber_38 (fun H locs hP hD hS => ?_)
  generalize (upd f9 (7 : Int32).toNatClampNeg (vp_nar .byte x11)) = f12 at hP hD
  have hP : va_P (dC, dI) vwCl [(h701, .inr (11, (fsX g701).set 1 (.int 7))), ((g701 0), .inl (cA701, 1200, .inl f12))] H := hP
  have hD : va_D A [(h701, .inr (11, (fsX g701).set 1 (.int 7))), ((g701 0), .inl (cA701, 1200, .inl f12))] := hD
  refine lv_aload_n hx hb dX11_tapeNumber_39 rfl (lv_at hl 1 rfl) ?_
  refine lv_dup hx hb dX11_tapeNumber_40 rfl ?_
  refine va_get (D := (dC, dI)) (ci := 11) (v := .int 7) (C := RX11) (T := TX11) (N := 16) hx hb hts in_k_X11_tapeNumber_1_11 hown hK hP 0 rfl rfl 1 (by decide) (hts (.fieldLink RX11 87 "LineKeeper" "taped" "I") (List.mem_of_getElem? (i := 1) rfl)) (fun _ h9 => h9) rfl dX11_tapeNumber_41 ?_
  refine lv_iconst (v := 1) hx hb dX11_tapeNumber_44 (by decide) ?_
  refine lv_iadd hx hb dX11_tapeNumber_45 ?_
  refine vx_topc (v := 8) (by decide) ?_
  refine va_put (D := (dC, dI)) (ci := 11) (v := .int 8) (ty := .int) (C := RX11) (T := TX11) (N := 16) hx hb hts in_k_X11_tapeNumber_1_11 tyX11 tyX11_ok nmX11 hown hK hP hD hS 0 rfl rfl 1 (by decide) (hts (.fieldLink RX11 87 "LineKeeper" "taped" "I") (List.mem_of_getElem? (i := 1) rfl)) (fun _ h9 => h9) rfl (tyX11_ok 1 (by decide)) rfl rfl (Nat.le_of_ble_eq_true rfl) dX11_tapeNumber_46 (fun H locs hP hD hS => ?_)
  have hP : va_P (dC, dI) vwCl [(h701, .inr (11, (fsX g701).set 1 (.int 8))), ((g701 0), .inl (cA701, 1200, .inl f12))] H := hP
  have hD : va_D A [(h701, .inr (11, (fsX g701).set 1 (.int 8))), ((g701 0), .inl (cA701, 1200, .inl f12))] := hD
  refine lv_iinc (v := (-8)) (lv' := [(2, .int (-8)), (0, .ref h701), (1, .int x701)]) hx hb dX11_tapeNumber_49 hl (k := 0) rfl (by decide) (by decide) rfl (fun ls hl => ?_)
  refine lv_goto (tgt := 3) hx hb dX11_tapeNumber_52 (by decide) ?_
  refine lv_iload_n hx hb dX11_tapeNumber_3 rfl (lv_at hl 0 rfl) ?_
  refine lv_if_lt (tgt := 55) hx hb dX11_tapeNumber_4 (by decide) (fun _ => ?_) (fun h => absurd (by decide) h)
  have hP9 := hP.sub (ws' := [(h701, .inr (11, (fsX g701).set 1 (.int 8))), ((g701 0), .inl (cA701, 1200, .inl f12))]) [0, 1] rfl
  have hD9 := hD.sub (ws' := [(h701, .inr (11, (fsX g701).set 1 (.int 8))), ((g701 0), .inl (cA701, 1200, .inl f12))]) [0, 1] (by decide) rfl
  have hK9 := hK.sub (tys' := [(cA701, .byte)]) [0] rfl
  exact W.vret hx hb hr (fun t ht hW => ⟨⟨(), rfl, trivial, f12, by rw [ht]; exact hP9, va_K.moved hW.alike hK9, hD9⟩, hS.F ht⟩) hS.2.2 dX11_tapeNumber_55

def w_k_X11_tapeNumber_2 : List Cond := .code yX11_tapeNumber cX11_tapeNumber 3 none :: ([.fieldLink RX11 87 "LineKeeper" "taped" "I", .fieldLink RX11 9 "LineKeeper" "tape" "[B"] ++ wsX110)
theorem in_k_X11_tapeNumber_2_11 : ∀ w ∈ wsX110, w ∈ w_k_X11_tapeNumber_2 := fun _ h => List.mem_cons_of_mem _ (List.mem_append_right _ h)
set_option maxHeartbeats 4000000 in
set_option maxRecDepth 100000 in
theorem k_X11_tapeNumber_2 (l : Launch) (dC : Nat → ClassId) (dI : Nat → Nat → Nat) (h701 : Nat) (x701 : Int32) (g701 : Nat → Nat) (cA701 : ClassId) (f701 : Nat → Int32) (sz : Nat) : Met l yX11_tapeNumber w_k_X11_tapeNumber_2 { frames := 0, cells := 0, slots := 0, locals := 0 } (va_Pc [.ref h701, .int x701] (vx_pre dC dI [(h701, .inr (11, (fsX g701).set 1 (.int 8))), ((g701 0), .inl (cA701, 1200, .inl f701))] [(cA701, .byte)] sz)) (va_Qv (fun _ : Unit => True) (fun _ t => ∃ (f901 : Nat → Int32), vx_B dC dI (va_A [(h701, .inr (11, (fsX g701).set 1 (.int 8))), ((g701 0), .inl (cA701, 1200, .inl f701))] sz) [(h701, .inr (11, (fsX g701).set 1 (.int 12))), ((g701 0), .inl (cA701, 1200, .inl f901))] [(cA701, .byte)] t) (va_A [(h701, .inr (11, (fsX g701).set 1 (.int 8))), ((g701 0), .inl (cA701, 1200, .inl f701))] sz)) 0 0 (va_A [(h701, .inr (11, (fsX g701).set 1 (.int 8))), ((g701 0), .inl (cA701, 1200, .inl f701))] sz) := by
  refine Met.ofW (cc := cX11_tapeNumber) (maxL := 3) (ret := none) (by decide) rfl ?_
  intro p e s m args below meth c s₁ B hml hv
  obtain ⟨rfl, hsz, hP, hK, hD0, hN⟩ := hv
  have hx := B.exec
  have hb := B.bytes
  have hr := B.returns
  have hts := atoms_spec (ws := w_k_X11_tapeNumber_2) B.pre
  have hown : s.vm.findClass RX11 = some m.cls := findClass_of_methodNamed B.named
  have hlocks := B.notSynchronized
  subst hsz
  have hD := hD0.self (sz := s.heap.size)
  generalize hAe : va_A [(h701, .inr (11, (fsX g701).set 1 (.int 8))), ((g701 0), .inl (cA701, 1200, .inl f701))] s.heap.size = A at hD ⊢
  have hA : ∀ q : Nat, s.heap.size ≤ q → A q := fun q h => by rw [← hAe]; exact Or.inr h
  obtain ⟨H, hHe⟩ : ∃ H, H = s.heap := ⟨_, rfl⟩
  rw [← hHe] at hP ⊢
  have hS : va_S A s.heap H [] := by rw [hHe]; exact va_S.rf
  have hl := lv_entry [.ref h701, .int x701] (n := 3) (Nat.le_of_ble_eq_true rfl)
  rw [lg_entry_eq]
  generalize (lg_sl [.ref h701, .int x701] ++ List.replicate (3 - (lg_sl [.ref h701, .int x701]).length) Slot.unset).toArray = ls at hl ⊢
  have hl : lv_has ls 3 [(0, .ref h701), (1, .int x701)] := hl
  refine lv_bipush (v := 24) hx hb dX11_tapeNumber_0 (by decide) ?_
  refine lv_istore_n (lv' := [(2, .int 24), (0, .ref h701), (1, .int x701)]) hx hb dX11_tapeNumber_2 rfl hl (by decide) rfl (fun ls hl => ?_)
  refine lv_iload_n hx hb dX11_tapeNumber_3 rfl (lv_at hl 0 rfl) ?_
  refine lv_if_lt (tgt := 55) hx hb dX11_tapeNumber_4 (by decide) (fun h => absurd h (by decide)) (fun _ => ?_)
  refine lv_aload_n hx hb dX11_tapeNumber_7 rfl (lv_at hl 1 rfl) ?_
  refine va_get (D := (dC, dI)) (ci := 11) (v := .int 8) (C := RX11) (T := TX11) (N := 16) hx hb hts in_k_X11_tapeNumber_2_11 hown hK hP 0 rfl rfl 1 (by decide) (hts (.fieldLink RX11 87 "LineKeeper" "taped" "I") (List.mem_of_getElem? (i := 1) rfl)) (fun _ h9 => h9) rfl dX11_tapeNumber_8 ?_
  refine lv_if_lt (tgt := 49) hx hb dX11_tapeNumber_11 (by decide) (fun h => absurd h (by decide)) (fun _ => ?_)
  refine lv_aload_n hx hb dX11_tapeNumber_14 rfl (lv_at hl 1 rfl) ?_
  refine va_get (D := (dC, dI)) (ci := 11) (v := .int 8) (C := RX11) (T := TX11) (N := 16) hx hb hts in_k_X11_tapeNumber_2_11 hown hK hP 0 rfl rfl 1 (by decide) (hts (.fieldLink RX11 87 "LineKeeper" "taped" "I") (List.mem_of_getElem? (i := 1) rfl)) (fun _ h9 => h9) rfl dX11_tapeNumber_15 ?_
  refine lv_aload_n hx hb dX11_tapeNumber_18 rfl (lv_at hl 1 rfl) ?_
  refine va_get (D := (dC, dI)) (ci := 11) (v := .ref (g701 0)) (C := RX11) (T := TX11) (N := 16) hx hb hts in_k_X11_tapeNumber_2_11 hown hK hP 0 rfl rfl 0 (by decide) (hts (.fieldLink RX11 9 "LineKeeper" "tape" "[B") (List.mem_of_getElem? (i := 2) rfl)) (fun _ h9 => h9) rfl dX11_tapeNumber_19 ?_
  refine va_alen (v := 1200) hx hb hK hP 1 0 rfl rfl rfl dX11_tapeNumber_22 ?_
  refine lv_icmp_ge (tgt := 49) hx hb dX11_tapeNumber_23 (by decide) (fun h => absurd h (by decide)) (fun _ => ?_)
  refine lv_aload_n hx hb dX11_tapeNumber_26 rfl (lv_at hl 1 rfl) ?_
  refine va_get (D := (dC, dI)) (ci := 11) (v := .ref (g701 0)) (C := RX11) (T := TX11) (N := 16) hx hb hts in_k_X11_tapeNumber_2_11 hown hK hP 0 rfl rfl 0 (by decide) (hts (.fieldLink RX11 9 "LineKeeper" "tape" "[B") (List.mem_of_getElem? (i := 2) rfl)) (fun _ h9 => h9) rfl dX11_tapeNumber_27 ?_
  refine lv_aload_n hx hb dX11_tapeNumber_30 rfl (lv_at hl 1 rfl) ?_
  refine va_get (D := (dC, dI)) (ci := 11) (v := .int 8) (C := RX11) (T := TX11) (N := 16) hx hb hts in_k_X11_tapeNumber_2_11 hown hK hP 0 rfl rfl 1 (by decide) (hts (.fieldLink RX11 87 "LineKeeper" "taped" "I") (List.mem_of_getElem? (i := 1) rfl)) (fun _ h9 => h9) rfl dX11_tapeNumber_31 ?_
  refine lv_iload_n hx hb dX11_tapeNumber_34 rfl (lv_at hl 2 rfl) ?_
  refine lv_iload_n hx hb dX11_tapeNumber_35 rfl (lv_at hl 0 rfl) ?_
  refine lv_iushr hx hb dX11_tapeNumber_36 rfl ?_
  refine lv_topi (fun x1 ex1 => ?_)
  refine lv_i2b hx hb dX11_tapeNumber_37 rfl ?_
  refine lv_topi (fun x2 ex2 => ?_)
  refine va_bast hx hb hK hP hD hS 1 0 rfl rfl (vx_in (by decide)) dX11_tapeNumber_38 (fun H locs hP hD hS => ?_)
  generalize (upd f701 (8 : Int32).toNatClampNeg (vp_nar .byte x2)) = f3 at hP hD
  have hP : va_P (dC, dI) vwCl [(h701, .inr (11, (fsX g701).set 1 (.int 8))), ((g701 0), .inl (cA701, 1200, .inl f3))] H := hP
  have hD : va_D A [(h701, .inr (11, (fsX g701).set 1 (.int 8))), ((g701 0), .inl (cA701, 1200, .inl f3))] := hD
  refine lv_aload_n hx hb dX11_tapeNumber_39 rfl (lv_at hl 1 rfl) ?_
  refine lv_dup hx hb dX11_tapeNumber_40 rfl ?_
  refine va_get (D := (dC, dI)) (ci := 11) (v := .int 8) (C := RX11) (T := TX11) (N := 16) hx hb hts in_k_X11_tapeNumber_2_11 hown hK hP 0 rfl rfl 1 (by decide) (hts (.fieldLink RX11 87 "LineKeeper" "taped" "I") (List.mem_of_getElem? (i := 1) rfl)) (fun _ h9 => h9) rfl dX11_tapeNumber_41 ?_
  refine lv_iconst (v := 1) hx hb dX11_tapeNumber_44 (by decide) ?_
  refine lv_iadd hx hb dX11_tapeNumber_45 ?_
  refine vx_topc (v := 9) (by decide) ?_
  refine va_put (D := (dC, dI)) (ci := 11) (v := .int 9) (ty := .int) (C := RX11) (T := TX11) (N := 16) hx hb hts in_k_X11_tapeNumber_2_11 tyX11 tyX11_ok nmX11 hown hK hP hD hS 0 rfl rfl 1 (by decide) (hts (.fieldLink RX11 87 "LineKeeper" "taped" "I") (List.mem_of_getElem? (i := 1) rfl)) (fun _ h9 => h9) rfl (tyX11_ok 1 (by decide)) rfl rfl (Nat.le_of_ble_eq_true rfl) dX11_tapeNumber_46 (fun H locs hP hD hS => ?_)
  have hP : va_P (dC, dI) vwCl [(h701, .inr (11, (fsX g701).set 1 (.int 9))), ((g701 0), .inl (cA701, 1200, .inl f3))] H := hP
  have hD : va_D A [(h701, .inr (11, (fsX g701).set 1 (.int 9))), ((g701 0), .inl (cA701, 1200, .inl f3))] := hD
  refine lv_iinc (v := 16) (lv' := [(2, .int 16), (0, .ref h701), (1, .int x701)]) hx hb dX11_tapeNumber_49 hl (k := 0) rfl (by decide) (by decide) rfl (fun ls hl => ?_)
  refine lv_goto (tgt := 3) hx hb dX11_tapeNumber_52 (by decide) ?_
  refine lv_iload_n hx hb dX11_tapeNumber_3 rfl (lv_at hl 0 rfl) ?_
  refine lv_if_lt (tgt := 55) hx hb dX11_tapeNumber_4 (by decide) (fun h => absurd h (by decide)) (fun _ => ?_)
  refine lv_aload_n hx hb dX11_tapeNumber_7 rfl (lv_at hl 1 rfl) ?_
  refine va_get (D := (dC, dI)) (ci := 11) (v := .int 9) (C := RX11) (T := TX11) (N := 16) hx hb hts in_k_X11_tapeNumber_2_11 hown hK hP 0 rfl rfl 1 (by decide) (hts (.fieldLink RX11 87 "LineKeeper" "taped" "I") (List.mem_of_getElem? (i := 1) rfl)) (fun _ h9 => h9) rfl dX11_tapeNumber_8 ?_
  refine lv_if_lt (tgt := 49) hx hb dX11_tapeNumber_11 (by decide) (fun h => absurd h (by decide)) (fun _ => ?_)
  refine lv_aload_n hx hb dX11_tapeNumber_14 rfl (lv_at hl 1 rfl) ?_
  refine va_get (D := (dC, dI)) (ci := 11) (v := .int 9) (C := RX11) (T := TX11) (N := 16) hx hb hts in_k_X11_tapeNumber_2_11 hown hK hP 0 rfl rfl 1 (by decide) (hts (.fieldLink RX11 87 "LineKeeper" "taped" "I") (List.mem_of_getElem? (i := 1) rfl)) (fun _ h9 => h9) rfl dX11_tapeNumber_15 ?_
  refine lv_aload_n hx hb dX11_tapeNumber_18 rfl (lv_at hl 1 rfl) ?_
  refine va_get (D := (dC, dI)) (ci := 11) (v := .ref (g701 0)) (C := RX11) (T := TX11) (N := 16) hx hb hts in_k_X11_tapeNumber_2_11 hown hK hP 0 rfl rfl 0 (by decide) (hts (.fieldLink RX11 9 "LineKeeper" "tape" "[B") (List.mem_of_getElem? (i := 2) rfl)) (fun _ h9 => h9) rfl dX11_tapeNumber_19 ?_
  refine va_alen (v := 1200) hx hb hK hP 1 0 rfl rfl rfl dX11_tapeNumber_22 ?_
  refine lv_icmp_ge (tgt := 49) hx hb dX11_tapeNumber_23 (by decide) (fun h => absurd h (by decide)) (fun _ => ?_)
  refine lv_aload_n hx hb dX11_tapeNumber_26 rfl (lv_at hl 1 rfl) ?_
  refine va_get (D := (dC, dI)) (ci := 11) (v := .ref (g701 0)) (C := RX11) (T := TX11) (N := 16) hx hb hts in_k_X11_tapeNumber_2_11 hown hK hP 0 rfl rfl 0 (by decide) (hts (.fieldLink RX11 9 "LineKeeper" "tape" "[B") (List.mem_of_getElem? (i := 2) rfl)) (fun _ h9 => h9) rfl dX11_tapeNumber_27 ?_
  refine lv_aload_n hx hb dX11_tapeNumber_30 rfl (lv_at hl 1 rfl) ?_
  refine va_get (D := (dC, dI)) (ci := 11) (v := .int 9) (C := RX11) (T := TX11) (N := 16) hx hb hts in_k_X11_tapeNumber_2_11 hown hK hP 0 rfl rfl 1 (by decide) (hts (.fieldLink RX11 87 "LineKeeper" "taped" "I") (List.mem_of_getElem? (i := 1) rfl)) (fun _ h9 => h9) rfl dX11_tapeNumber_31 ?_
  refine lv_iload_n hx hb dX11_tapeNumber_34 rfl (lv_at hl 2 rfl) ?_
  refine lv_iload_n hx hb dX11_tapeNumber_35 rfl (lv_at hl 0 rfl) ?_
  refine lv_iushr hx hb dX11_tapeNumber_36 rfl ?_
  refine lv_topi (fun x4 ex4 => ?_)
  refine lv_i2b hx hb dX11_tapeNumber_37 rfl ?_
  refine lv_topi (fun x5 ex5 => ?_)
  refine va_bast hx hb hK hP hD hS 1 0 rfl rfl (vx_in (by decide)) dX11_tapeNumber_38 (fun H locs hP hD hS => ?_)
  generalize (upd f3 (9 : Int32).toNatClampNeg (vp_nar .byte x5)) = f6 at hP hD
  have hP : va_P (dC, dI) vwCl [(h701, .inr (11, (fsX g701).set 1 (.int 9))), ((g701 0), .inl (cA701, 1200, .inl f6))] H := hP
  have hD : va_D A [(h701, .inr (11, (fsX g701).set 1 (.int 9))), ((g701 0), .inl (cA701, 1200, .inl f6))] := hD
  refine lv_aload_n hx hb dX11_tapeNumber_39 rfl (lv_at hl 1 rfl) ?_
  refine lv_dup hx hb dX11_tapeNumber_40 rfl ?_
  refine va_get (D := (dC, dI)) (ci := 11) (v := .int 9) (C := RX11) (T := TX11) (N := 16) hx hb hts in_k_X11_tapeNumber_2_11 hown hK hP 0 rfl rfl 1 (by decide) (hts (.fieldLink RX11 87 "LineKeeper" "taped" "I") (List.mem_of_getElem? (i := 1) rfl)) (fun _ h9 => h9) rfl dX11_tapeNumber_41 ?_
  refine lv_iconst (v := 1) hx hb dX11_tapeNumber_44 (by decide) ?_
  refine lv_iadd hx hb dX11_tapeNumber_45 ?_
  refine vx_topc (v := 10) (by decide) ?_
  refine va_put (D := (dC, dI)) (ci := 11) (v := .int 10) (ty := .int) (C := RX11) (T := TX11) (N := 16) hx hb hts in_k_X11_tapeNumber_2_11 tyX11 tyX11_ok nmX11 hown hK hP hD hS 0 rfl rfl 1 (by decide) (hts (.fieldLink RX11 87 "LineKeeper" "taped" "I") (List.mem_of_getElem? (i := 1) rfl)) (fun _ h9 => h9) rfl (tyX11_ok 1 (by decide)) rfl rfl (Nat.le_of_ble_eq_true rfl) dX11_tapeNumber_46 (fun H locs hP hD hS => ?_)
  have hP : va_P (dC, dI) vwCl [(h701, .inr (11, (fsX g701).set 1 (.int 10))), ((g701 0), .inl (cA701, 1200, .inl f6))] H := hP
  have hD : va_D A [(h701, .inr (11, (fsX g701).set 1 (.int 10))), ((g701 0), .inl (cA701, 1200, .inl f6))] := hD
  refine lv_iinc (v := 8) (lv' := [(2, .int 8), (0, .ref h701), (1, .int x701)]) hx hb dX11_tapeNumber_49 hl (k := 0) rfl (by decide) (by decide) rfl (fun ls hl => ?_)
  refine lv_goto (tgt := 3) hx hb dX11_tapeNumber_52 (by decide) ?_
  refine lv_iload_n hx hb dX11_tapeNumber_3 rfl (lv_at hl 0 rfl) ?_
  refine lv_if_lt (tgt := 55) hx hb dX11_tapeNumber_4 (by decide) (fun h => absurd h (by decide)) (fun _ => ?_)
  refine lv_aload_n hx hb dX11_tapeNumber_7 rfl (lv_at hl 1 rfl) ?_
  refine va_get (D := (dC, dI)) (ci := 11) (v := .int 10) (C := RX11) (T := TX11) (N := 16) hx hb hts in_k_X11_tapeNumber_2_11 hown hK hP 0 rfl rfl 1 (by decide) (hts (.fieldLink RX11 87 "LineKeeper" "taped" "I") (List.mem_of_getElem? (i := 1) rfl)) (fun _ h9 => h9) rfl dX11_tapeNumber_8 ?_
  refine lv_if_lt (tgt := 49) hx hb dX11_tapeNumber_11 (by decide) (fun h => absurd h (by decide)) (fun _ => ?_)
  refine lv_aload_n hx hb dX11_tapeNumber_14 rfl (lv_at hl 1 rfl) ?_
  refine va_get (D := (dC, dI)) (ci := 11) (v := .int 10) (C := RX11) (T := TX11) (N := 16) hx hb hts in_k_X11_tapeNumber_2_11 hown hK hP 0 rfl rfl 1 (by decide) (hts (.fieldLink RX11 87 "LineKeeper" "taped" "I") (List.mem_of_getElem? (i := 1) rfl)) (fun _ h9 => h9) rfl dX11_tapeNumber_15 ?_
  refine lv_aload_n hx hb dX11_tapeNumber_18 rfl (lv_at hl 1 rfl) ?_
  refine va_get (D := (dC, dI)) (ci := 11) (v := .ref (g701 0)) (C := RX11) (T := TX11) (N := 16) hx hb hts in_k_X11_tapeNumber_2_11 hown hK hP 0 rfl rfl 0 (by decide) (hts (.fieldLink RX11 9 "LineKeeper" "tape" "[B") (List.mem_of_getElem? (i := 2) rfl)) (fun _ h9 => h9) rfl dX11_tapeNumber_19 ?_
  refine va_alen (v := 1200) hx hb hK hP 1 0 rfl rfl rfl dX11_tapeNumber_22 ?_
  refine lv_icmp_ge (tgt := 49) hx hb dX11_tapeNumber_23 (by decide) (fun h => absurd h (by decide)) (fun _ => ?_)
  refine lv_aload_n hx hb dX11_tapeNumber_26 rfl (lv_at hl 1 rfl) ?_
  refine va_get (D := (dC, dI)) (ci := 11) (v := .ref (g701 0)) (C := RX11) (T := TX11) (N := 16) hx hb hts in_k_X11_tapeNumber_2_11 hown hK hP 0 rfl rfl 0 (by decide) (hts (.fieldLink RX11 9 "LineKeeper" "tape" "[B") (List.mem_of_getElem? (i := 2) rfl)) (fun _ h9 => h9) rfl dX11_tapeNumber_27 ?_
  refine lv_aload_n hx hb dX11_tapeNumber_30 rfl (lv_at hl 1 rfl) ?_
  refine va_get (D := (dC, dI)) (ci := 11) (v := .int 10) (C := RX11) (T := TX11) (N := 16) hx hb hts in_k_X11_tapeNumber_2_11 hown hK hP 0 rfl rfl 1 (by decide) (hts (.fieldLink RX11 87 "LineKeeper" "taped" "I") (List.mem_of_getElem? (i := 1) rfl)) (fun _ h9 => h9) rfl dX11_tapeNumber_31 ?_
  refine lv_iload_n hx hb dX11_tapeNumber_34 rfl (lv_at hl 2 rfl) ?_
  refine lv_iload_n hx hb dX11_tapeNumber_35 rfl (lv_at hl 0 rfl) ?_
  refine lv_iushr hx hb dX11_tapeNumber_36 rfl ?_
  refine lv_topi (fun x7 ex7 => ?_)
  refine lv_i2b hx hb dX11_tapeNumber_37 rfl ?_
  refine lv_topi (fun x8 ex8 => ?_)
  refine va_bast hx hb hK hP hD hS 1 0 rfl rfl (vx_in (by decide)) dX11_tapeNumber_38 (fun H locs hP hD hS => ?_)
  generalize (upd f6 (10 : Int32).toNatClampNeg (vp_nar .byte x8)) = f9 at hP hD
  have hP : va_P (dC, dI) vwCl [(h701, .inr (11, (fsX g701).set 1 (.int 10))), ((g701 0), .inl (cA701, 1200, .inl f9))] H := hP
  have hD : va_D A [(h701, .inr (11, (fsX g701).set 1 (.int 10))), ((g701 0), .inl (cA701, 1200, .inl f9))] := hD
  refine lv_aload_n hx hb dX11_tapeNumber_39 rfl (lv_at hl 1 rfl) ?_
  refine lv_dup hx hb dX11_tapeNumber_40 rfl ?_
  refine va_get (D := (dC, dI)) (ci := 11) (v := .int 10) (C := RX11) (T := TX11) (N := 16) hx hb hts in_k_X11_tapeNumber_2_11 hown hK hP 0 rfl rfl 1 (by decide) (hts (.fieldLink RX11 87 "LineKeeper" "taped" "I") (List.mem_of_getElem? (i := 1) rfl)) (fun _ h9 => h9) rfl dX11_tapeNumber_41 ?_
  refine lv_iconst (v := 1) hx hb dX11_tapeNumber_44 (by decide) ?_
  refine lv_iadd hx hb dX11_tapeNumber_45 ?_
  refine vx_topc (v := 11) (by decide) ?_
  refine va_put (D := (dC, dI)) (ci := 11) (v := .int 11) (ty := .int) (C := RX11) (T := TX11) (N := 16) hx hb hts in_k_X11_tapeNumber_2_11 tyX11 tyX11_ok nmX11 hown hK hP hD hS 0 rfl rfl 1 (by decide) (hts (.fieldLink RX11 87 "LineKeeper" "taped" "I") (List.mem_of_getElem? (i := 1) rfl)) (fun _ h9 => h9) rfl (tyX11_ok 1 (by decide)) rfl rfl (Nat.le_of_ble_eq_true rfl) dX11_tapeNumber_46 (fun H locs hP hD hS => ?_)
  have hP : va_P (dC, dI) vwCl [(h701, .inr (11, (fsX g701).set 1 (.int 11))), ((g701 0), .inl (cA701, 1200, .inl f9))] H := hP
  have hD : va_D A [(h701, .inr (11, (fsX g701).set 1 (.int 11))), ((g701 0), .inl (cA701, 1200, .inl f9))] := hD
  refine lv_iinc (v := 0) (lv' := [(2, .int 0), (0, .ref h701), (1, .int x701)]) hx hb dX11_tapeNumber_49 hl (k := 0) rfl (by decide) (by decide) rfl (fun ls hl => ?_)
  refine lv_goto (tgt := 3) hx hb dX11_tapeNumber_52 (by decide) ?_
  refine lv_iload_n hx hb dX11_tapeNumber_3 rfl (lv_at hl 0 rfl) ?_
  refine lv_if_lt (tgt := 55) hx hb dX11_tapeNumber_4 (by decide) (fun h => absurd h (by decide)) (fun _ => ?_)
  refine lv_aload_n hx hb dX11_tapeNumber_7 rfl (lv_at hl 1 rfl) ?_
  refine va_get (D := (dC, dI)) (ci := 11) (v := .int 11) (C := RX11) (T := TX11) (N := 16) hx hb hts in_k_X11_tapeNumber_2_11 hown hK hP 0 rfl rfl 1 (by decide) (hts (.fieldLink RX11 87 "LineKeeper" "taped" "I") (List.mem_of_getElem? (i := 1) rfl)) (fun _ h9 => h9) rfl dX11_tapeNumber_8 ?_
  refine lv_if_lt (tgt := 49) hx hb dX11_tapeNumber_11 (by decide) (fun h => absurd h (by decide)) (fun _ => ?_)
  refine lv_aload_n hx hb dX11_tapeNumber_14 rfl (lv_at hl 1 rfl) ?_
  refine va_get (D := (dC, dI)) (ci := 11) (v := .int 11) (C := RX11) (T := TX11) (N := 16) hx hb hts in_k_X11_tapeNumber_2_11 hown hK hP 0 rfl rfl 1 (by decide) (hts (.fieldLink RX11 87 "LineKeeper" "taped" "I") (List.mem_of_getElem? (i := 1) rfl)) (fun _ h9 => h9) rfl dX11_tapeNumber_15 ?_
  refine lv_aload_n hx hb dX11_tapeNumber_18 rfl (lv_at hl 1 rfl) ?_
  refine va_get (D := (dC, dI)) (ci := 11) (v := .ref (g701 0)) (C := RX11) (T := TX11) (N := 16) hx hb hts in_k_X11_tapeNumber_2_11 hown hK hP 0 rfl rfl 0 (by decide) (hts (.fieldLink RX11 9 "LineKeeper" "tape" "[B") (List.mem_of_getElem? (i := 2) rfl)) (fun _ h9 => h9) rfl dX11_tapeNumber_19 ?_
  refine va_alen (v := 1200) hx hb hK hP 1 0 rfl rfl rfl dX11_tapeNumber_22 ?_
  refine lv_icmp_ge (tgt := 49) hx hb dX11_tapeNumber_23 (by decide) (fun h => absurd h (by decide)) (fun _ => ?_)
  refine lv_aload_n hx hb dX11_tapeNumber_26 rfl (lv_at hl 1 rfl) ?_
  refine va_get (D := (dC, dI)) (ci := 11) (v := .ref (g701 0)) (C := RX11) (T := TX11) (N := 16) hx hb hts in_k_X11_tapeNumber_2_11 hown hK hP 0 rfl rfl 0 (by decide) (hts (.fieldLink RX11 9 "LineKeeper" "tape" "[B") (List.mem_of_getElem? (i := 2) rfl)) (fun _ h9 => h9) rfl dX11_tapeNumber_27 ?_
  refine lv_aload_n hx hb dX11_tapeNumber_30 rfl (lv_at hl 1 rfl) ?_
  refine va_get (D := (dC, dI)) (ci := 11) (v := .int 11) (C := RX11) (T := TX11) (N := 16) hx hb hts in_k_X11_tapeNumber_2_11 hown hK hP 0 rfl rfl 1 (by decide) (hts (.fieldLink RX11 87 "LineKeeper" "taped" "I") (List.mem_of_getElem? (i := 1) rfl)) (fun _ h9 => h9) rfl dX11_tapeNumber_31 ?_
  refine lv_iload_n hx hb dX11_tapeNumber_34 rfl (lv_at hl 2 rfl) ?_
  refine lv_iload_n hx hb dX11_tapeNumber_35 rfl (lv_at hl 0 rfl) ?_
  refine lv_iushr hx hb dX11_tapeNumber_36 rfl ?_
  refine lv_topi (fun x10 ex10 => ?_)
  refine lv_i2b hx hb dX11_tapeNumber_37 rfl ?_
  refine lv_topi (fun x11 ex11 => ?_)
  refine va_bast hx hb hK hP hD hS 1 0 rfl rfl (vx_in (by decide)) dX11_tapeNumber_38 (fun H locs hP hD hS => ?_)
  generalize (upd f9 (11 : Int32).toNatClampNeg (vp_nar .byte x11)) = f12 at hP hD
  have hP : va_P (dC, dI) vwCl [(h701, .inr (11, (fsX g701).set 1 (.int 11))), ((g701 0), .inl (cA701, 1200, .inl f12))] H := hP
  have hD : va_D A [(h701, .inr (11, (fsX g701).set 1 (.int 11))), ((g701 0), .inl (cA701, 1200, .inl f12))] := hD
  refine lv_aload_n hx hb dX11_tapeNumber_39 rfl (lv_at hl 1 rfl) ?_
  refine lv_dup hx hb dX11_tapeNumber_40 rfl ?_
  refine va_get (D := (dC, dI)) (ci := 11) (v := .int 11) (C := RX11) (T := TX11) (N := 16) hx hb hts in_k_X11_tapeNumber_2_11 hown hK hP 0 rfl rfl 1 (by decide) (hts (.fieldLink RX11 87 "LineKeeper" "taped" "I") (List.mem_of_getElem? (i := 1) rfl)) (fun _ h9 => h9) rfl dX11_tapeNumber_41 ?_
  refine lv_iconst (v := 1) hx hb dX11_tapeNumber_44 (by decide) ?_
  refine lv_iadd hx hb dX11_tapeNumber_45 ?_
  refine vx_topc (v := 12) (by decide) ?_
  refine va_put (D := (dC, dI)) (ci := 11) (v := .int 12) (ty := .int) (C := RX11) (T := TX11) (N := 16) hx hb hts in_k_X11_tapeNumber_2_11 tyX11 tyX11_ok nmX11 hown hK hP hD hS 0 rfl rfl 1 (by decide) (hts (.fieldLink RX11 87 "LineKeeper" "taped" "I") (List.mem_of_getElem? (i := 1) rfl)) (fun _ h9 => h9) rfl (tyX11_ok 1 (by decide)) rfl rfl (Nat.le_of_ble_eq_true rfl) dX11_tapeNumber_46 (fun H locs hP hD hS => ?_)
  have hP : va_P (dC, dI) vwCl [(h701, .inr (11, (fsX g701).set 1 (.int 12))), ((g701 0), .inl (cA701, 1200, .inl f12))] H := hP
  have hD : va_D A [(h701, .inr (11, (fsX g701).set 1 (.int 12))), ((g701 0), .inl (cA701, 1200, .inl f12))] := hD
  refine lv_iinc (v := (-8)) (lv' := [(2, .int (-8)), (0, .ref h701), (1, .int x701)]) hx hb dX11_tapeNumber_49 hl (k := 0) rfl (by decide) (by decide) rfl (fun ls hl => ?_)
  refine lv_goto (tgt := 3) hx hb dX11_tapeNumber_52 (by decide) ?_
  refine lv_iload_n hx hb dX11_tapeNumber_3 rfl (lv_at hl 0 rfl) ?_
  refine lv_if_lt (tgt := 55) hx hb dX11_tapeNumber_4 (by decide) (fun _ => ?_) (fun h => absurd (by decide) h)
  have hP9 := hP.sub (ws' := [(h701, .inr (11, (fsX g701).set 1 (.int 12))), ((g701 0), .inl (cA701, 1200, .inl f12))]) [0, 1] rfl
  have hD9 := hD.sub (ws' := [(h701, .inr (11, (fsX g701).set 1 (.int 12))), ((g701 0), .inl (cA701, 1200, .inl f12))]) [0, 1] (by decide) rfl
  have hK9 := hK.sub (tys' := [(cA701, .byte)]) [0] rfl
  exact W.vret hx hb hr (fun t ht hW => ⟨⟨(), rfl, trivial, f12, by rw [ht]; exact hP9, va_K.moved hW.alike hK9, hD9⟩, hS.F ht⟩) hS.2.2 dX11_tapeNumber_55

def w_k_X11_tapeNumber_3 : List Cond := .code yX11_tapeNumber cX11_tapeNumber 3 none :: ([.fieldLink RX11 87 "LineKeeper" "taped" "I", .fieldLink RX11 9 "LineKeeper" "tape" "[B"] ++ wsX110)
theorem in_k_X11_tapeNumber_3_11 : ∀ w ∈ wsX110, w ∈ w_k_X11_tapeNumber_3 := fun _ h => List.mem_cons_of_mem _ (List.mem_append_right _ h)
set_option maxHeartbeats 4000000 in
set_option maxRecDepth 100000 in
theorem k_X11_tapeNumber_3 (l : Launch) (dC : Nat → ClassId) (dI : Nat → Nat → Nat) (h701 : Nat) (x701 : Int32) (g701 : Nat → Nat) (cA701 : ClassId) (f701 : Nat → Int32) (sz : Nat) : Met l yX11_tapeNumber w_k_X11_tapeNumber_3 { frames := 0, cells := 0, slots := 0, locals := 0 } (va_Pc [.ref h701, .int x701] (vx_pre dC dI [(h701, .inr (11, (fsX g701).set 1 (.int 12))), ((g701 0), .inl (cA701, 1200, .inl f701))] [(cA701, .byte)] sz)) (va_Qv (fun _ : Unit => True) (fun _ t => ∃ (f901 : Nat → Int32), vx_B dC dI (va_A [(h701, .inr (11, (fsX g701).set 1 (.int 12))), ((g701 0), .inl (cA701, 1200, .inl f701))] sz) [(h701, .inr (11, (fsX g701).set 1 (.int 16))), ((g701 0), .inl (cA701, 1200, .inl f901))] [(cA701, .byte)] t) (va_A [(h701, .inr (11, (fsX g701).set 1 (.int 12))), ((g701 0), .inl (cA701, 1200, .inl f701))] sz)) 0 0 (va_A [(h701, .inr (11, (fsX g701).set 1 (.int 12))), ((g701 0), .inl (cA701, 1200, .inl f701))] sz) := by
  refine Met.ofW (cc := cX11_tapeNumber) (maxL := 3) (ret := none) (by decide) rfl ?_
  intro p e s m args below meth c s₁ B hml hv
  obtain ⟨rfl, hsz, hP, hK, hD0, hN⟩ := hv
  have hx := B.exec
  have hb := B.bytes
  have hr := B.returns
  have hts := atoms_spec (ws := w_k_X11_tapeNumber_3) B.pre
  have hown : s.vm.findClass RX11 = some m.cls := findClass_of_methodNamed B.named
  have hlocks := B.notSynchronized
  subst hsz
  have hD := hD0.self (sz := s.heap.size)
  generalize hAe : va_A [(h701, .inr (11, (fsX g701).set 1 (.int 12))), ((g701 0), .inl (cA701, 1200, .inl f701))] s.heap.size = A at hD ⊢
  have hA : ∀ q : Nat, s.heap.size ≤ q → A q := fun q h => by rw [← hAe]; exact Or.inr h
  obtain ⟨H, hHe⟩ : ∃ H, H = s.heap := ⟨_, rfl⟩
  rw [← hHe] at hP ⊢
  have hS : va_S A s.heap H [] := by rw [hHe]; exact va_S.rf
  have hl := lv_entry [.ref h701, .int x701] (n := 3) (Nat.le_of_ble_eq_true rfl)
  rw [lg_entry_eq]
  generalize (lg_sl [.ref h701, .int x701] ++ List.replicate (3 - (lg_sl [.ref h701, .int x701]).length) Slot.unset).toArray = ls at hl ⊢
  have hl : lv_has ls 3 [(0, .ref h701), (1, .int x701)] := hl
  refine lv_bipush (v := 24) hx hb dX11_tapeNumber_0 (by decide) ?_
  refine lv_istore_n (lv' := [(2, .int 24), (0, .ref h701), (1, .int x701)]) hx hb dX11_tapeNumber_2 rfl hl (by decide) rfl (fun ls hl => ?_)
  refine lv_iload_n hx hb dX11_tapeNumber_3 rfl (lv_at hl 0 rfl) ?_
  refine lv_if_lt (tgt := 55) hx hb dX11_tapeNumber_4 (by decide) (fun h => absurd h (by decide)) (fun _ => ?_)
  refine lv_aload_n hx hb dX11_tapeNumber_7 rfl (lv_at hl 1 rfl) ?_
  refine va_get (D := (dC, dI)) (ci := 11) (v := .int 12) (C := RX11) (T := TX11) (N := 16) hx hb hts in_k_X11_tapeNumber_3_11 hown hK hP 0 rfl rfl 1 (by decide) (hts (.fieldLink RX11 87 "LineKeeper" "taped" "I") (List.mem_of_getElem? (i := 1) rfl)) (fun _ h9 => h9) rfl dX11_tapeNumber_8 ?_
  refine lv_if_lt (tgt := 49) hx hb dX11_tapeNumber_11 (by decide) (fun h => absurd h (by decide)) (fun _ => ?_)
  refine lv_aload_n hx hb dX11_tapeNumber_14 rfl (lv_at hl 1 rfl) ?_
  refine va_get (D := (dC, dI)) (ci := 11) (v := .int 12) (C := RX11) (T := TX11) (N := 16) hx hb hts in_k_X11_tapeNumber_3_11 hown hK hP 0 rfl rfl 1 (by decide) (hts (.fieldLink RX11 87 "LineKeeper" "taped" "I") (List.mem_of_getElem? (i := 1) rfl)) (fun _ h9 => h9) rfl dX11_tapeNumber_15 ?_
  refine lv_aload_n hx hb dX11_tapeNumber_18 rfl (lv_at hl 1 rfl) ?_
  refine va_get (D := (dC, dI)) (ci := 11) (v := .ref (g701 0)) (C := RX11) (T := TX11) (N := 16) hx hb hts in_k_X11_tapeNumber_3_11 hown hK hP 0 rfl rfl 0 (by decide) (hts (.fieldLink RX11 9 "LineKeeper" "tape" "[B") (List.mem_of_getElem? (i := 2) rfl)) (fun _ h9 => h9) rfl dX11_tapeNumber_19 ?_
  refine va_alen (v := 1200) hx hb hK hP 1 0 rfl rfl rfl dX11_tapeNumber_22 ?_
  refine lv_icmp_ge (tgt := 49) hx hb dX11_tapeNumber_23 (by decide) (fun h => absurd h (by decide)) (fun _ => ?_)
  refine lv_aload_n hx hb dX11_tapeNumber_26 rfl (lv_at hl 1 rfl) ?_
  refine va_get (D := (dC, dI)) (ci := 11) (v := .ref (g701 0)) (C := RX11) (T := TX11) (N := 16) hx hb hts in_k_X11_tapeNumber_3_11 hown hK hP 0 rfl rfl 0 (by decide) (hts (.fieldLink RX11 9 "LineKeeper" "tape" "[B") (List.mem_of_getElem? (i := 2) rfl)) (fun _ h9 => h9) rfl dX11_tapeNumber_27 ?_
  refine lv_aload_n hx hb dX11_tapeNumber_30 rfl (lv_at hl 1 rfl) ?_
  refine va_get (D := (dC, dI)) (ci := 11) (v := .int 12) (C := RX11) (T := TX11) (N := 16) hx hb hts in_k_X11_tapeNumber_3_11 hown hK hP 0 rfl rfl 1 (by decide) (hts (.fieldLink RX11 87 "LineKeeper" "taped" "I") (List.mem_of_getElem? (i := 1) rfl)) (fun _ h9 => h9) rfl dX11_tapeNumber_31 ?_
  refine lv_iload_n hx hb dX11_tapeNumber_34 rfl (lv_at hl 2 rfl) ?_
  refine lv_iload_n hx hb dX11_tapeNumber_35 rfl (lv_at hl 0 rfl) ?_
  refine lv_iushr hx hb dX11_tapeNumber_36 rfl ?_
  refine lv_topi (fun x1 ex1 => ?_)
  refine lv_i2b hx hb dX11_tapeNumber_37 rfl ?_
  refine lv_topi (fun x2 ex2 => ?_)
  refine va_bast hx hb hK hP hD hS 1 0 rfl rfl (vx_in (by decide)) dX11_tapeNumber_38 (fun H locs hP hD hS => ?_)
  generalize (upd f701 (12 : Int32).toNatClampNeg (vp_nar .byte x2)) = f3 at hP hD
  have hP : va_P (dC, dI) vwCl [(h701, .inr (11, (fsX g701).set 1 (.int 12))), ((g701 0), .inl (cA701, 1200, .inl f3))] H := hP
  have hD : va_D A [(h701, .inr (11, (fsX g701).set 1 (.int 12))), ((g701 0), .inl (cA701, 1200, .inl f3))] := hD
  refine lv_aload_n hx hb dX11_tapeNumber_39 rfl (lv_at hl 1 rfl) ?_
  refine lv_dup hx hb dX11_tapeNumber_40 rfl ?_
  refine va_get (D := (dC, dI)) (ci := 11) (v := .int 12) (C := RX11) (T := TX11) (N := 16) hx hb hts in_k_X11_tapeNumber_3_11 hown hK hP 0 rfl rfl 1 (by decide) (hts (.fieldLink RX11 87 "LineKeeper" "taped" "I") (List.mem_of_getElem? (i := 1) rfl)) (fun _ h9 => h9) rfl dX11_tapeNumber_41 ?_
  refine lv_iconst (v := 1) hx hb dX11_tapeNumber_44 (by decide) ?_
  refine lv_iadd hx hb dX11_tapeNumber_45 ?_
  refine vx_topc (v := 13) (by decide) ?_
  refine va_put (D := (dC, dI)) (ci := 11) (v := .int 13) (ty := .int) (C := RX11) (T := TX11) (N := 16) hx hb hts in_k_X11_tapeNumber_3_11 tyX11 tyX11_ok nmX11 hown hK hP hD hS 0 rfl rfl 1 (by decide) (hts (.fieldLink RX11 87 "LineKeeper" "taped" "I") (List.mem_of_getElem? (i := 1) rfl)) (fun _ h9 => h9) rfl (tyX11_ok 1 (by decide)) rfl rfl (Nat.le_of_ble_eq_true rfl) dX11_tapeNumber_46 (fun H locs hP hD hS => ?_)
  have hP : va_P (dC, dI) vwCl [(h701, .inr (11, (fsX g701).set 1 (.int 13))), ((g701 0), .inl (cA701, 1200, .inl f3))] H := hP
  have hD : va_D A [(h701, .inr (11, (fsX g701).set 1 (.int 13))), ((g701 0), .inl (cA701, 1200, .inl f3))] := hD
  refine lv_iinc (v := 16) (lv' := [(2, .int 16), (0, .ref h701), (1, .int x701)]) hx hb dX11_tapeNumber_49 hl (k := 0) rfl (by decide) (by decide) rfl (fun ls hl => ?_)
  refine lv_goto (tgt := 3) hx hb dX11_tapeNumber_52 (by decide) ?_
  refine lv_iload_n hx hb dX11_tapeNumber_3 rfl (lv_at hl 0 rfl) ?_
  refine lv_if_lt (tgt := 55) hx hb dX11_tapeNumber_4 (by decide) (fun h => absurd h (by decide)) (fun _ => ?_)
  refine lv_aload_n hx hb dX11_tapeNumber_7 rfl (lv_at hl 1 rfl) ?_
  refine va_get (D := (dC, dI)) (ci := 11) (v := .int 13) (C := RX11) (T := TX11) (N := 16) hx hb hts in_k_X11_tapeNumber_3_11 hown hK hP 0 rfl rfl 1 (by decide) (hts (.fieldLink RX11 87 "LineKeeper" "taped" "I") (List.mem_of_getElem? (i := 1) rfl)) (fun _ h9 => h9) rfl dX11_tapeNumber_8 ?_
  refine lv_if_lt (tgt := 49) hx hb dX11_tapeNumber_11 (by decide) (fun h => absurd h (by decide)) (fun _ => ?_)
  refine lv_aload_n hx hb dX11_tapeNumber_14 rfl (lv_at hl 1 rfl) ?_
  refine va_get (D := (dC, dI)) (ci := 11) (v := .int 13) (C := RX11) (T := TX11) (N := 16) hx hb hts in_k_X11_tapeNumber_3_11 hown hK hP 0 rfl rfl 1 (by decide) (hts (.fieldLink RX11 87 "LineKeeper" "taped" "I") (List.mem_of_getElem? (i := 1) rfl)) (fun _ h9 => h9) rfl dX11_tapeNumber_15 ?_
  refine lv_aload_n hx hb dX11_tapeNumber_18 rfl (lv_at hl 1 rfl) ?_
  refine va_get (D := (dC, dI)) (ci := 11) (v := .ref (g701 0)) (C := RX11) (T := TX11) (N := 16) hx hb hts in_k_X11_tapeNumber_3_11 hown hK hP 0 rfl rfl 0 (by decide) (hts (.fieldLink RX11 9 "LineKeeper" "tape" "[B") (List.mem_of_getElem? (i := 2) rfl)) (fun _ h9 => h9) rfl dX11_tapeNumber_19 ?_
  refine va_alen (v := 1200) hx hb hK hP 1 0 rfl rfl rfl dX11_tapeNumber_22 ?_
  refine lv_icmp_ge (tgt := 49) hx hb dX11_tapeNumber_23 (by decide) (fun h => absurd h (by decide)) (fun _ => ?_)
  refine lv_aload_n hx hb dX11_tapeNumber_26 rfl (lv_at hl 1 rfl) ?_
  refine va_get (D := (dC, dI)) (ci := 11) (v := .ref (g701 0)) (C := RX11) (T := TX11) (N := 16) hx hb hts in_k_X11_tapeNumber_3_11 hown hK hP 0 rfl rfl 0 (by decide) (hts (.fieldLink RX11 9 "LineKeeper" "tape" "[B") (List.mem_of_getElem? (i := 2) rfl)) (fun _ h9 => h9) rfl dX11_tapeNumber_27 ?_
  refine lv_aload_n hx hb dX11_tapeNumber_30 rfl (lv_at hl 1 rfl) ?_
  refine va_get (D := (dC, dI)) (ci := 11) (v := .int 13) (C := RX11) (T := TX11) (N := 16) hx hb hts in_k_X11_tapeNumber_3_11 hown hK hP 0 rfl rfl 1 (by decide) (hts (.fieldLink RX11 87 "LineKeeper" "taped" "I") (List.mem_of_getElem? (i := 1) rfl)) (fun _ h9 => h9) rfl dX11_tapeNumber_31 ?_
  refine lv_iload_n hx hb dX11_tapeNumber_34 rfl (lv_at hl 2 rfl) ?_
  refine lv_iload_n hx hb dX11_tapeNumber_35 rfl (lv_at hl 0 rfl) ?_
  refine lv_iushr hx hb dX11_tapeNumber_36 rfl ?_
  refine lv_topi (fun x4 ex4 => ?_)
  refine lv_i2b hx hb dX11_tapeNumber_37 rfl ?_
  refine lv_topi (fun x5 ex5 => ?_)
  refine va_bast hx hb hK hP hD hS 1 0 rfl rfl (vx_in (by decide)) dX11_tapeNumber_38 (fun H locs hP hD hS => ?_)
  generalize (upd f3 (13 : Int32).toNatClampNeg (vp_nar .byte x5)) = f6 at hP hD
  have hP : va_P (dC, dI) vwCl [(h701, .inr (11, (fsX g701).set 1 (.int 13))), ((g701 0), .inl (cA701, 1200, .inl f6))] H := hP
  have hD : va_D A [(h701, .inr (11, (fsX g701).set 1 (.int 13))), ((g701 0), .inl (cA701, 1200, .inl f6))] := hD
  refine lv_aload_n hx hb dX11_tapeNumber_39 rfl (lv_at hl 1 rfl) ?_
  refine lv_dup hx hb dX11_tapeNumber_40 rfl ?_
  refine va_get (D := (dC, dI)) (ci := 11) (v := .int 13) (C := RX11) (T := TX11) (N := 16) hx hb hts in_k_X11_tapeNumber_3_11 hown hK hP 0 rfl rfl 1 (by decide) (hts (.fieldLink RX11 87 "LineKeeper" "taped" "I") (List.mem_of_getElem? (i := 1) rfl)) (fun _ h9 => h9) rfl dX11_tapeNumber_41 ?_
  refine lv_iconst (v := 1) hx hb dX11_tapeNumber_44 (by decide) ?_
  refine lv_iadd hx hb dX11_tapeNumber_45 ?_
  refine vx_topc (v := 14) (by decide) ?_
  refine va_put (D := (dC, dI)) (ci := 11) (v := .int 14) (ty := .int) (C := RX11) (T := TX11) (N := 16) hx hb hts in_k_X11_tapeNumber_3_11 tyX11 tyX11_ok nmX11 hown hK hP hD hS 0 rfl rfl 1 (by decide) (hts (.fieldLink RX11 87 "LineKeeper" "taped" "I") (List.mem_of_getElem? (i := 1) rfl)) (fun _ h9 => h9) rfl (tyX11_ok 1 (by decide)) rfl rfl (Nat.le_of_ble_eq_true rfl) dX11_tapeNumber_46 (fun H locs hP hD hS => ?_)
  have hP : va_P (dC, dI) vwCl [(h701, .inr (11, (fsX g701).set 1 (.int 14))), ((g701 0), .inl (cA701, 1200, .inl f6))] H := hP
  have hD : va_D A [(h701, .inr (11, (fsX g701).set 1 (.int 14))), ((g701 0), .inl (cA701, 1200, .inl f6))] := hD
  refine lv_iinc (v := 8) (lv' := [(2, .int 8), (0, .ref h701), (1, .int x701)]) hx hb dX11_tapeNumber_49 hl (k := 0) rfl (by decide) (by decide) rfl (fun ls hl => ?_)
  refine lv_goto (tgt := 3) hx hb dX11_tapeNumber_52 (by decide) ?_
  refine lv_iload_n hx hb dX11_tapeNumber_3 rfl (lv_at hl 0 rfl) ?_
  refine lv_if_lt (tgt := 55) hx hb dX11_tapeNumber_4 (by decide) (fun h => absurd h (by decide)) (fun _ => ?_)
  refine lv_aload_n hx hb dX11_tapeNumber_7 rfl (lv_at hl 1 rfl) ?_
  refine va_get (D := (dC, dI)) (ci := 11) (v := .int 14) (C := RX11) (T := TX11) (N := 16) hx hb hts in_k_X11_tapeNumber_3_11 hown hK hP 0 rfl rfl 1 (by decide) (hts (.fieldLink RX11 87 "LineKeeper" "taped" "I") (List.mem_of_getElem? (i := 1) rfl)) (fun _ h9 => h9) rfl dX11_tapeNumber_8 ?_
  refine lv_if_lt (tgt := 49) hx hb dX11_tapeNumber_11 (by decide) (fun h => absurd h (by decide)) (fun _ => ?_)
  refine lv_aload_n hx hb dX11_tapeNumber_14 rfl (lv_at hl 1 rfl) ?_
  refine va_get (D := (dC, dI)) (ci := 11) (v := .int 14) (C := RX11) (T := TX11) (N := 16) hx hb hts in_k_X11_tapeNumber_3_11 hown hK hP 0 rfl rfl 1 (by decide) (hts (.fieldLink RX11 87 "LineKeeper" "taped" "I") (List.mem_of_getElem? (i := 1) rfl)) (fun _ h9 => h9) rfl dX11_tapeNumber_15 ?_
  refine lv_aload_n hx hb dX11_tapeNumber_18 rfl (lv_at hl 1 rfl) ?_
  refine va_get (D := (dC, dI)) (ci := 11) (v := .ref (g701 0)) (C := RX11) (T := TX11) (N := 16) hx hb hts in_k_X11_tapeNumber_3_11 hown hK hP 0 rfl rfl 0 (by decide) (hts (.fieldLink RX11 9 "LineKeeper" "tape" "[B") (List.mem_of_getElem? (i := 2) rfl)) (fun _ h9 => h9) rfl dX11_tapeNumber_19 ?_
  refine va_alen (v := 1200) hx hb hK hP 1 0 rfl rfl rfl dX11_tapeNumber_22 ?_
  refine lv_icmp_ge (tgt := 49) hx hb dX11_tapeNumber_23 (by decide) (fun h => absurd h (by decide)) (fun _ => ?_)
  refine lv_aload_n hx hb dX11_tapeNumber_26 rfl (lv_at hl 1 rfl) ?_
  refine va_get (D := (dC, dI)) (ci := 11) (v := .ref (g701 0)) (C := RX11) (T := TX11) (N := 16) hx hb hts in_k_X11_tapeNumber_3_11 hown hK hP 0 rfl rfl 0 (by decide) (hts (.fieldLink RX11 9 "LineKeeper" "tape" "[B") (List.mem_of_getElem? (i := 2) rfl)) (fun _ h9 => h9) rfl dX11_tapeNumber_27 ?_
  refine lv_aload_n hx hb dX11_tapeNumber_30 rfl (lv_at hl 1 rfl) ?_
  refine va_get (D := (dC, dI)) (ci := 11) (v := .int 14) (C := RX11) (T := TX11) (N := 16) hx hb hts in_k_X11_tapeNumber_3_11 hown hK hP 0 rfl rfl 1 (by decide) (hts (.fieldLink RX11 87 "LineKeeper" "taped" "I") (List.mem_of_getElem? (i := 1) rfl)) (fun _ h9 => h9) rfl dX11_tapeNumber_31 ?_
  refine lv_iload_n hx hb dX11_tapeNumber_34 rfl (lv_at hl 2 rfl) ?_
  refine lv_iload_n hx hb dX11_tapeNumber_35 rfl (lv_at hl 0 rfl) ?_
  refine lv_iushr hx hb dX11_tapeNumber_36 rfl ?_
  refine lv_topi (fun x7 ex7 => ?_)
  refine lv_i2b hx hb dX11_tapeNumber_37 rfl ?_
  refine lv_topi (fun x8 ex8 => ?_)
  refine va_bast hx hb hK hP hD hS 1 0 rfl rfl (vx_in (by decide)) dX11_tapeNumber_38 (fun H locs hP hD hS => ?_)
  generalize (upd f6 (14 : Int32).toNatClampNeg (vp_nar .byte x8)) = f9 at hP hD
  have hP : va_P (dC, dI) vwCl [(h701, .inr (11, (fsX g701).set 1 (.int 14))), ((g701 0), .inl (cA701, 1200, .inl f9))] H := hP
  have hD : va_D A [(h701, .inr (11, (fsX g701).set 1 (.int 14))), ((g701 0), .inl (cA701, 1200, .inl f9))] := hD
  refine lv_aload_n hx hb dX11_tapeNumber_39 rfl (lv_at hl 1 rfl) ?_
  refine lv_dup hx hb dX11_tapeNumber_40 rfl ?_
  refine va_get (D := (dC, dI)) (ci := 11) (v := .int 14) (C := RX11) (T := TX11) (N := 16) hx hb hts in_k_X11_tapeNumber_3_11 hown hK hP 0 rfl rfl 1 (by decide) (hts (.fieldLink RX11 87 "LineKeeper" "taped" "I") (List.mem_of_getElem? (i := 1) rfl)) (fun _ h9 => h9) rfl dX11_tapeNumber_41 ?_
  refine lv_iconst (v := 1) hx hb dX11_tapeNumber_44 (by decide) ?_
  refine lv_iadd hx hb dX11_tapeNumber_45 ?_
  refine vx_topc (v := 15) (by decide) ?_
  refine va_put (D := (dC, dI)) (ci := 11) (v := .int 15) (ty := .int) (C := RX11) (T := TX11) (N := 16) hx hb hts in_k_X11_tapeNumber_3_11 tyX11 tyX11_ok nmX11 hown hK hP hD hS 0 rfl rfl 1 (by decide) (hts (.fieldLink RX11 87 "LineKeeper" "taped" "I") (List.mem_of_getElem? (i := 1) rfl)) (fun _ h9 => h9) rfl (tyX11_ok 1 (by decide)) rfl rfl (Nat.le_of_ble_eq_true rfl) dX11_tapeNumber_46 (fun H locs hP hD hS => ?_)
  have hP : va_P (dC, dI) vwCl [(h701, .inr (11, (fsX g701).set 1 (.int 15))), ((g701 0), .inl (cA701, 1200, .inl f9))] H := hP
  have hD : va_D A [(h701, .inr (11, (fsX g701).set 1 (.int 15))), ((g701 0), .inl (cA701, 1200, .inl f9))] := hD
  refine lv_iinc (v := 0) (lv' := [(2, .int 0), (0, .ref h701), (1, .int x701)]) hx hb dX11_tapeNumber_49 hl (k := 0) rfl (by decide) (by decide) rfl (fun ls hl => ?_)
  refine lv_goto (tgt := 3) hx hb dX11_tapeNumber_52 (by decide) ?_
  refine lv_iload_n hx hb dX11_tapeNumber_3 rfl (lv_at hl 0 rfl) ?_
  refine lv_if_lt (tgt := 55) hx hb dX11_tapeNumber_4 (by decide) (fun h => absurd h (by decide)) (fun _ => ?_)
  refine lv_aload_n hx hb dX11_tapeNumber_7 rfl (lv_at hl 1 rfl) ?_
  refine va_get (D := (dC, dI)) (ci := 11) (v := .int 15) (C := RX11) (T := TX11) (N := 16) hx hb hts in_k_X11_tapeNumber_3_11 hown hK hP 0 rfl rfl 1 (by decide) (hts (.fieldLink RX11 87 "LineKeeper" "taped" "I") (List.mem_of_getElem? (i := 1) rfl)) (fun _ h9 => h9) rfl dX11_tapeNumber_8 ?_
  refine lv_if_lt (tgt := 49) hx hb dX11_tapeNumber_11 (by decide) (fun h => absurd h (by decide)) (fun _ => ?_)
  refine lv_aload_n hx hb dX11_tapeNumber_14 rfl (lv_at hl 1 rfl) ?_
  refine va_get (D := (dC, dI)) (ci := 11) (v := .int 15) (C := RX11) (T := TX11) (N := 16) hx hb hts in_k_X11_tapeNumber_3_11 hown hK hP 0 rfl rfl 1 (by decide) (hts (.fieldLink RX11 87 "LineKeeper" "taped" "I") (List.mem_of_getElem? (i := 1) rfl)) (fun _ h9 => h9) rfl dX11_tapeNumber_15 ?_
  refine lv_aload_n hx hb dX11_tapeNumber_18 rfl (lv_at hl 1 rfl) ?_
  refine va_get (D := (dC, dI)) (ci := 11) (v := .ref (g701 0)) (C := RX11) (T := TX11) (N := 16) hx hb hts in_k_X11_tapeNumber_3_11 hown hK hP 0 rfl rfl 0 (by decide) (hts (.fieldLink RX11 9 "LineKeeper" "tape" "[B") (List.mem_of_getElem? (i := 2) rfl)) (fun _ h9 => h9) rfl dX11_tapeNumber_19 ?_
  refine va_alen (v := 1200) hx hb hK hP 1 0 rfl rfl rfl dX11_tapeNumber_22 ?_
  refine lv_icmp_ge (tgt := 49) hx hb dX11_tapeNumber_23 (by decide) (fun h => absurd h (by decide)) (fun _ => ?_)
  refine lv_aload_n hx hb dX11_tapeNumber_26 rfl (lv_at hl 1 rfl) ?_
  refine va_get (D := (dC, dI)) (ci := 11) (v := .ref (g701 0)) (C := RX11) (T := TX11) (N := 16) hx hb hts in_k_X11_tapeNumber_3_11 hown hK hP 0 rfl rfl 0 (by decide) (hts (.fieldLink RX11 9 "LineKeeper" "tape" "[B") (List.mem_of_getElem? (i := 2) rfl)) (fun _ h9 => h9) rfl dX11_tapeNumber_27 ?_
  refine lv_aload_n hx hb dX11_tapeNumber_30 rfl (lv_at hl 1 rfl) ?_
  refine va_get (D := (dC, dI)) (ci := 11) (v := .int 15) (C := RX11) (T := TX11) (N := 16) hx hb hts in_k_X11_tapeNumber_3_11 hown hK hP 0 rfl rfl 1 (by decide) (hts (.fieldLink RX11 87 "LineKeeper" "taped" "I") (List.mem_of_getElem? (i := 1) rfl)) (fun _ h9 => h9) rfl dX11_tapeNumber_31 ?_
  refine lv_iload_n hx hb dX11_tapeNumber_34 rfl (lv_at hl 2 rfl) ?_
  refine lv_iload_n hx hb dX11_tapeNumber_35 rfl (lv_at hl 0 rfl) ?_
  refine lv_iushr hx hb dX11_tapeNumber_36 rfl ?_
  refine lv_topi (fun x10 ex10 => ?_)
  refine lv_i2b hx hb dX11_tapeNumber_37 rfl ?_
  refine lv_topi (fun x11 ex11 => ?_)
  refine va_bast hx hb hK hP hD hS 1 0 rfl rfl (vx_in (by decide)) dX11_tapeNumber_38 (fun H locs hP hD hS => ?_)
  generalize (upd f9 (15 : Int32).toNatClampNeg (vp_nar .byte x11)) = f12 at hP hD
  have hP : va_P (dC, dI) vwCl [(h701, .inr (11, (fsX g701).set 1 (.int 15))), ((g701 0), .inl (cA701, 1200, .inl f12))] H := hP
  have hD : va_D A [(h701, .inr (11, (fsX g701).set 1 (.int 15))), ((g701 0), .inl (cA701, 1200, .inl f12))] := hD
  refine lv_aload_n hx hb dX11_tapeNumber_39 rfl (lv_at hl 1 rfl) ?_
  refine lv_dup hx hb dX11_tapeNumber_40 rfl ?_
  refine va_get (D := (dC, dI)) (ci := 11) (v := .int 15) (C := RX11) (T := TX11) (N := 16) hx hb hts in_k_X11_tapeNumber_3_11 hown hK hP 0 rfl rfl 1 (by decide) (hts (.fieldLink RX11 87 "LineKeeper" "taped" "I") (List.mem_of_getElem? (i := 1) rfl)) (fun _ h9 => h9) rfl dX11_tapeNumber_41 ?_
  refine lv_iconst (v := 1) hx hb dX11_tapeNumber_44 (by decide) ?_
  refine lv_iadd hx hb dX11_tapeNumber_45 ?_
  refine vx_topc (v := 16) (by decide) ?_
  refine va_put (D := (dC, dI)) (ci := 11) (v := .int 16) (ty := .int) (C := RX11) (T := TX11) (N := 16) hx hb hts in_k_X11_tapeNumber_3_11 tyX11 tyX11_ok nmX11 hown hK hP hD hS 0 rfl rfl 1 (by decide) (hts (.fieldLink RX11 87 "LineKeeper" "taped" "I") (List.mem_of_getElem? (i := 1) rfl)) (fun _ h9 => h9) rfl (tyX11_ok 1 (by decide)) rfl rfl (Nat.le_of_ble_eq_true rfl) dX11_tapeNumber_46 (fun H locs hP hD hS => ?_)
  have hP : va_P (dC, dI) vwCl [(h701, .inr (11, (fsX g701).set 1 (.int 16))), ((g701 0), .inl (cA701, 1200, .inl f12))] H := hP
  have hD : va_D A [(h701, .inr (11, (fsX g701).set 1 (.int 16))), ((g701 0), .inl (cA701, 1200, .inl f12))] := hD
  refine lv_iinc (v := (-8)) (lv' := [(2, .int (-8)), (0, .ref h701), (1, .int x701)]) hx hb dX11_tapeNumber_49 hl (k := 0) rfl (by decide) (by decide) rfl (fun ls hl => ?_)
  refine lv_goto (tgt := 3) hx hb dX11_tapeNumber_52 (by decide) ?_
  refine lv_iload_n hx hb dX11_tapeNumber_3 rfl (lv_at hl 0 rfl) ?_
  refine lv_if_lt (tgt := 55) hx hb dX11_tapeNumber_4 (by decide) (fun _ => ?_) (fun h => absurd (by decide) h)
  have hP9 := hP.sub (ws' := [(h701, .inr (11, (fsX g701).set 1 (.int 16))), ((g701 0), .inl (cA701, 1200, .inl f12))]) [0, 1] rfl
  have hD9 := hD.sub (ws' := [(h701, .inr (11, (fsX g701).set 1 (.int 16))), ((g701 0), .inl (cA701, 1200, .inl f12))]) [0, 1] (by decide) rfl
  have hK9 := hK.sub (tys' := [(cA701, .byte)]) [0] rfl
  exact W.vret hx hb hr (fun t ht hW => ⟨⟨(), rfl, trivial, f12, by rw [ht]; exact hP9, va_K.moved hW.alike hK9, hD9⟩, hS.F ht⟩) hS.2.2 dX11_tapeNumber_55

def w_k_X11_tapeNumber_4 : List Cond := .code yX11_tapeNumber cX11_tapeNumber 3 none :: ([.fieldLink RX11 87 "LineKeeper" "taped" "I", .fieldLink RX11 9 "LineKeeper" "tape" "[B"] ++ wsX110)
theorem in_k_X11_tapeNumber_4_11 : ∀ w ∈ wsX110, w ∈ w_k_X11_tapeNumber_4 := fun _ h => List.mem_cons_of_mem _ (List.mem_append_right _ h)
set_option maxHeartbeats 4000000 in
set_option maxRecDepth 100000 in
theorem k_X11_tapeNumber_4 (l : Launch) (dC : Nat → ClassId) (dI : Nat → Nat → Nat) (h701 : Nat) (x701 : Int32) (g701 : Nat → Nat) (cA701 : ClassId) (f701 : Nat → Int32) (sz : Nat) : Met l yX11_tapeNumber w_k_X11_tapeNumber_4 { frames := 0, cells := 0, slots := 0, locals := 0 } (va_Pc [.ref h701, .int x701] (vx_pre dC dI [(h701, .inr (11, (fsX g701).set 1 (.int 16))), ((g701 0), .inl (cA701, 1200, .inl f701))] [(cA701, .byte)] sz)) (va_Qv (fun _ : Unit => True) (fun _ t => ∃ (f901 : Nat → Int32), vx_B dC dI (va_A [(h701, .inr (11, (fsX g701).set 1 (.int 16))), ((g701 0), .inl (cA701, 1200, .inl f701))] sz) [(h701, .inr (11, (fsX g701).set 1 (.int 20))), ((g701 0), .inl (cA701, 1200, .inl f901))] [(cA701, .byte)] t) (va_A [(h701, .inr (11, (fsX g701).set 1 (.int 16))), ((g701 0), .inl (cA701, 1200, .inl f701))] sz)) 0 0 (va_A [(h701, .inr (11, (fsX g701).set 1 (.int 16))), ((g701 0), .inl (cA701, 1200, .inl f701))] sz) := by
  refine Met.ofW (cc := cX11_tapeNumber) (maxL := 3) (ret := none) (by decide) rfl ?_
  intro p e s m args below meth c s₁ B hml hv
  obtain ⟨rfl, hsz, hP, hK, hD0, hN⟩ := hv
  have hx := B.exec
  have hb := B.bytes
  have hr := B.returns
  have hts := atoms_spec (ws := w_k_X11_tapeNumber_4) B.pre
  have hown : s.vm.findClass RX11 = some m.cls := findClass_of_methodNamed B.named
  have hlocks := B.notSynchronized
  subst hsz
  have hD := hD0.self (sz := s.heap.size)
  generalize hAe : va_A [(h701, .inr (11, (fsX g701).set 1 (.int 16))), ((g701 0), .inl (cA701, 1200, .inl f701))] s.heap.size = A at hD ⊢
  have hA : ∀ q : Nat, s.heap.size ≤ q → A q := fun q h => by rw [← hAe]; exact Or.inr h
  obtain ⟨H, hHe⟩ : ∃ H, H = s.heap := ⟨_, rfl⟩
  rw [← hHe] at hP ⊢
  have hS : va_S A s.heap H [] := by rw [hHe]; exact va_S.rf
  have hl := lv_entry [.ref h701, .int x701] (n := 3) (Nat.le_of_ble_eq_true rfl)
  rw [lg_entry_eq]
  generalize (lg_sl [.ref h701, .int x701] ++ List.replicate (3 - (lg_sl [.ref h701, .int x701]).length) Slot.unset).toArray = ls at hl ⊢
  have hl : lv_has ls 3 [(0, .ref h701), (1, .int x701)] := hl
  refine lv_bipush (v := 24) hx hb dX11_tapeNumber_0 (by decide) ?_
  refine lv_istore_n (lv' := [(2, .int 24), (0, .ref h701), (1, .int x701)]) hx hb dX11_tapeNumber_2 rfl hl (by decide) rfl (fun ls hl => ?_)
  refine lv_iload_n hx hb dX11_tapeNumber_3 rfl (lv_at hl 0 rfl) ?_
  refine lv_if_lt (tgt := 55) hx hb dX11_tapeNumber_4 (by decide) (fun h => absurd h (by decide)) (fun _ => ?_)
  refine lv_aload_n hx hb dX11_tapeNumber_7 rfl (lv_at hl 1 rfl) ?_
  refine va_get (D := (dC, dI)) (ci := 11) (v := .int 16) (C := RX11) (T := TX11) (N := 16) hx hb hts in_k_X11_tapeNumber_4_11 hown hK hP 0 rfl rfl 1 (by decide) (hts (.fieldLink RX11 87 "LineKeeper" "taped" "I") (List.mem_of_getElem? (i := 1) rfl)) (fun _ h9 => h9) rfl dX11_tapeNumber_8 ?_
  refine lv_if_lt (tgt := 49) hx hb dX11_tapeNumber_11 (by decide) (fun h => absurd h (by decide)) (fun _ => ?_)
  refine lv_aload_n hx hb dX11_tapeNumber_14 rfl (lv_at hl 1 rfl) ?_
  refine va_get (D := (dC, dI)) (ci := 11) (v := .int 16) (C := RX11) (T := TX11) (N := 16) hx hb hts in_k_X11_tapeNumber_4_11 hown hK hP 0 rfl rfl 1 (by decide) (hts (.fieldLink RX11 87 "LineKeeper" "taped" "I") (List.mem_of_getElem? (i := 1) rfl)) (fun _ h9 => h9) rfl dX11_tapeNumber_15 ?_
  refine lv_aload_n hx hb dX11_tapeNumber_18 rfl (lv_at hl 1 rfl) ?_
  refine va_get (D := (dC, dI)) (ci := 11) (v := .ref (g701 0)) (C := RX11) (T := TX11) (N := 16) hx hb hts in_k_X11_tapeNumber_4_11 hown hK hP 0 rfl rfl 0 (by decide) (hts (.fieldLink RX11 9 "LineKeeper" "tape" "[B") (List.mem_of_getElem? (i := 2) rfl)) (fun _ h9 => h9) rfl dX11_tapeNumber_19 ?_
  refine va_alen (v := 1200) hx hb hK hP 1 0 rfl rfl rfl dX11_tapeNumber_22 ?_
  refine lv_icmp_ge (tgt := 49) hx hb dX11_tapeNumber_23 (by decide) (fun h => absurd h (by decide)) (fun _ => ?_)
  refine lv_aload_n hx hb dX11_tapeNumber_26 rfl (lv_at hl 1 rfl) ?_
  refine va_get (D := (dC, dI)) (ci := 11) (v := .ref (g701 0)) (C := RX11) (T := TX11) (N := 16) hx hb hts in_k_X11_tapeNumber_4_11 hown hK hP 0 rfl rfl 0 (by decide) (hts (.fieldLink RX11 9 "LineKeeper" "tape" "[B") (List.mem_of_getElem? (i := 2) rfl)) (fun _ h9 => h9) rfl dX11_tapeNumber_27 ?_
  refine lv_aload_n hx hb dX11_tapeNumber_30 rfl (lv_at hl 1 rfl) ?_
  refine va_get (D := (dC, dI)) (ci := 11) (v := .int 16) (C := RX11) (T := TX11) (N := 16) hx hb hts in_k_X11_tapeNumber_4_11 hown hK hP 0 rfl rfl 1 (by decide) (hts (.fieldLink RX11 87 "LineKeeper" "taped" "I") (List.mem_of_getElem? (i := 1) rfl)) (fun _ h9 => h9) rfl dX11_tapeNumber_31 ?_
  refine lv_iload_n hx hb dX11_tapeNumber_34 rfl (lv_at hl 2 rfl) ?_
  refine lv_iload_n hx hb dX11_tapeNumber_35 rfl (lv_at hl 0 rfl) ?_
  refine lv_iushr hx hb dX11_tapeNumber_36 rfl ?_
  refine lv_topi (fun x1 ex1 => ?_)
  refine lv_i2b hx hb dX11_tapeNumber_37 rfl ?_
  refine lv_topi (fun x2 ex2 => ?_)
  refine va_bast hx hb hK hP hD hS 1 0 rfl rfl (vx_in (by decide)) dX11_tapeNumber_38 (fun H locs hP hD hS => ?_)
  generalize (upd f701 (16 : Int32).toNatClampNeg (vp_nar .byte x2)) = f3 at hP hD
  have hP : va_P (dC, dI) vwCl [(h701, .inr (11, (fsX g701).set 1 (.int 16))), ((g701 0), .inl (cA701, 1200, .inl f3))] H := hP
  have hD : va_D A [(h701, .inr (11, (fsX g701).set 1 (.int 16))), ((g701 0), .inl (cA701, 1200, .inl f3))] := hD
  refine lv_aload_n hx hb dX11_tapeNumber_39 rfl (lv_at hl 1 rfl) ?_
  refine lv_dup hx hb dX11_tapeNumber_40 rfl ?_
  refine va_get (D := (dC, dI)) (ci := 11) (v := .int 16) (C := RX11) (T := TX11) (N := 16) hx hb hts in_k_X11_tapeNumber_4_11 hown hK hP 0 rfl rfl 1 (by decide) (hts (.fieldLink RX11 87 "LineKeeper" "taped" "I") (List.mem_of_getElem? (i := 1) rfl)) (fun _ h9 => h9) rfl dX11_tapeNumber_41 ?_
  refine lv_iconst (v := 1) hx hb dX11_tapeNumber_44 (by decide) ?_
  refine lv_iadd hx hb dX11_tapeNumber_45 ?_
  refine vx_topc (v := 17) (by decide) ?_
  refine va_put (D := (dC, dI)) (ci := 11) (v := .int 17) (ty := .int) (C := RX11) (T := TX11) (N := 16) hx hb hts in_k_X11_tapeNumber_4_11 tyX11 tyX11_ok nmX11 hown hK hP hD hS 0 rfl rfl 1 (by decide) (hts (.fieldLink RX11 87 "LineKeeper" "taped" "I") (List.mem_of_getElem? (i := 1) rfl)) (fun _ h9 => h9) rfl (tyX11_ok 1 (by decide)) rfl rfl (Nat.le_of_ble_eq_true rfl) dX11_tapeNumber_46 (fun H locs hP hD hS => ?_)
  have hP : va_P (dC, dI) vwCl [(h701, .inr (11, (fsX g701).set 1 (.int 17))), ((g701 0), .inl (cA701, 1200, .inl f3))] H := hP
  have hD : va_D A [(h701, .inr (11, (fsX g701).set 1 (.int 17))), ((g701 0), .inl (cA701, 1200, .inl f3))] := hD
  refine lv_iinc (v := 16) (lv' := [(2, .int 16), (0, .ref h701), (1, .int x701)]) hx hb dX11_tapeNumber_49 hl (k := 0) rfl (by decide) (by decide) rfl (fun ls hl => ?_)
  refine lv_goto (tgt := 3) hx hb dX11_tapeNumber_52 (by decide) ?_
  refine lv_iload_n hx hb dX11_tapeNumber_3 rfl (lv_at hl 0 rfl) ?_
  refine lv_if_lt (tgt := 55) hx hb dX11_tapeNumber_4 (by decide) (fun h => absurd h (by decide)) (fun _ => ?_)
  refine lv_aload_n hx hb dX11_tapeNumber_7 rfl (lv_at hl 1 rfl) ?_
  refine va_get (D := (dC, dI)) (ci := 11) (v := .int 17) (C := RX11) (T := TX11) (N := 16) hx hb hts in_k_X11_tapeNumber_4_11 hown hK hP 0 rfl rfl 1 (by decide) (hts (.fieldLink RX11 87 "LineKeeper" "taped" "I") (List.mem_of_getElem? (i := 1) rfl)) (fun _ h9 => h9) rfl dX11_tapeNumber_8 ?_
  refine lv_if_lt (tgt := 49) hx hb dX11_tapeNumber_11 (by decide) (fun h => absurd h (by decide)) (fun _ => ?_)
  refine lv_aload_n hx hb dX11_tapeNumber_14 rfl (lv_at hl 1 rfl) ?_
  refine va_get (D := (dC, dI)) (ci := 11) (v := .int 17) (C := RX11) (T := TX11) (N := 16) hx hb hts in_k_X11_tapeNumber_4_11 hown hK hP 0 rfl rfl 1 (by decide) (hts (.fieldLink RX11 87 "LineKeeper" "taped" "I") (List.mem_of_getElem? (i := 1) rfl)) (fun _ h9 => h9) rfl dX11_tapeNumber_15 ?_
  refine lv_aload_n hx hb dX11_tapeNumber_18 rfl (lv_at hl 1 rfl) ?_
  refine va_get (D := (dC, dI)) (ci := 11) (v := .ref (g701 0)) (C := RX11) (T := TX11) (N := 16) hx hb hts in_k_X11_tapeNumber_4_11 hown hK hP 0 rfl rfl 0 (by decide) (hts (.fieldLink RX11 9 "LineKeeper" "tape" "[B") (List.mem_of_getElem? (i := 2) rfl)) (fun _ h9 => h9) rfl dX11_tapeNumber_19 ?_
  refine va_alen (v := 1200) hx hb hK hP 1 0 rfl rfl rfl dX11_tapeNumber_22 ?_
  refine lv_icmp_ge (tgt := 49) hx hb dX11_tapeNumber_23 (by decide) (fun h => absurd h (by decide)) (fun _ => ?_)
  refine lv_aload_n hx hb dX11_tapeNumber_26 rfl (lv_at hl 1 rfl) ?_
  refine va_get (D := (dC, dI)) (ci := 11) (v := .ref (g701 0)) (C := RX11) (T := TX11) (N := 16) hx hb hts in_k_X11_tapeNumber_4_11 hown hK hP 0 rfl rfl 0 (by decide) (hts (.fieldLink RX11 9 "LineKeeper" "tape" "[B") (List.mem_of_getElem? (i := 2) rfl)) (fun _ h9 => h9) rfl dX11_tapeNumber_27 ?_
  refine lv_aload_n hx hb dX11_tapeNumber_30 rfl (lv_at hl 1 rfl) ?_
  refine va_get (D := (dC, dI)) (ci := 11) (v := .int 17) (C := RX11) (T := TX11) (N := 16) hx hb hts in_k_X11_tapeNumber_4_11 hown hK hP 0 rfl rfl 1 (by decide) (hts (.fieldLink RX11 87 "LineKeeper" "taped" "I") (List.mem_of_getElem? (i := 1) rfl)) (fun _ h9 => h9) rfl dX11_tapeNumber_31 ?_
  refine lv_iload_n hx hb dX11_tapeNumber_34 rfl (lv_at hl 2 rfl) ?_
  refine lv_iload_n hx hb dX11_tapeNumber_35 rfl (lv_at hl 0 rfl) ?_
  refine lv_iushr hx hb dX11_tapeNumber_36 rfl ?_
  refine lv_topi (fun x4 ex4 => ?_)
  refine lv_i2b hx hb dX11_tapeNumber_37 rfl ?_
  refine lv_topi (fun x5 ex5 => ?_)
  refine va_bast hx hb hK hP hD hS 1 0 rfl rfl (vx_in (by decide)) dX11_tapeNumber_38 (fun H locs hP hD hS => ?_)
  generalize (upd f3 (17 : Int32).toNatClampNeg (vp_nar .byte x5)) = f6 at hP hD
  have hP : va_P (dC, dI) vwCl [(h701, .inr (11, (fsX g701).set 1 (.int 17))), ((g701 0), .inl (cA701, 1200, .inl f6))] H := hP
  have hD : va_D A [(h701, .inr (11, (fsX g701).set 1 (.int 17))), ((g701 0), .inl (cA701, 1200, .inl f6))] := hD
  refine lv_aload_n hx hb dX11_tapeNumber_39 rfl (lv_at hl 1 rfl) ?_
  refine lv_dup hx hb dX11_tapeNumber_40 rfl ?_
  refine va_get (D := (dC, dI)) (ci := 11) (v := .int 17) (C := RX11) (T := TX11) (N := 16) hx hb hts in_k_X11_tapeNumber_4_11 hown hK hP 0 rfl rfl 1 (by decide) (hts (.fieldLink RX11 87 "LineKeeper" "taped" "I") (List.mem_of_getElem? (i := 1) rfl)) (fun _ h9 => h9) rfl dX11_tapeNumber_41 ?_
  refine lv_iconst (v := 1) hx hb dX11_tapeNumber_44 (by decide) ?_
  refine lv_iadd hx hb dX11_tapeNumber_45 ?_
  refine vx_topc (v := 18) (by decide) ?_
  refine va_put (D := (dC, dI)) (ci := 11) (v := .int 18) (ty := .int) (C := RX11) (T := TX11) (N := 16) hx hb hts in_k_X11_tapeNumber_4_11 tyX11 tyX11_ok nmX11 hown hK hP hD hS 0 rfl rfl 1 (by decide) (hts (.fieldLink RX11 87 "LineKeeper" "taped" "I") (List.mem_of_getElem? (i := 1) rfl)) (fun _ h9 => h9) rfl (tyX11_ok 1 (by decide)) rfl rfl (Nat.le_of_ble_eq_true rfl) dX11_tapeNumber_46 (fun H locs hP hD hS => ?_)
  have hP : va_P (dC, dI) vwCl [(h701, .inr (11, (fsX g701).set 1 (.int 18))), ((g701 0), .inl (cA701, 1200, .inl f6))] H := hP
  have hD : va_D A [(h701, .inr (11, (fsX g701).set 1 (.int 18))), ((g701 0), .inl (cA701, 1200, .inl f6))] := hD
  refine lv_iinc (v := 8) (lv' := [(2, .int 8), (0, .ref h701), (1, .int x701)]) hx hb dX11_tapeNumber_49 hl (k := 0) rfl (by decide) (by decide) rfl (fun ls hl => ?_)
  refine lv_goto (tgt := 3) hx hb dX11_tapeNumber_52 (by decide) ?_
  refine lv_iload_n hx hb dX11_tapeNumber_3 rfl (lv_at hl 0 rfl) ?_
  refine lv_if_lt (tgt := 55) hx hb dX11_tapeNumber_4 (by decide) (fun h => absurd h (by decide)) (fun _ => ?_)
  refine lv_aload_n hx hb dX11_tapeNumber_7 rfl (lv_at hl 1 rfl) ?_
  refine va_get (D := (dC, dI)) (ci := 11) (v := .int 18) (C := RX11) (T := TX11) (N := 16) hx hb hts in_k_X11_tapeNumber_4_11 hown hK hP 0 rfl rfl 1 (by decide) (hts (.fieldLink RX11 87 "LineKeeper" "taped" "I") (List.mem_of_getElem? (i := 1) rfl)) (fun _ h9 => h9) rfl dX11_tapeNumber_8 ?_
  refine lv_if_lt (tgt := 49) hx hb dX11_tapeNumber_11 (by decide) (fun h => absurd h (by decide)) (fun _ => ?_)
  refine lv_aload_n hx hb dX11_tapeNumber_14 rfl (lv_at hl 1 rfl) ?_
  refine va_get (D := (dC, dI)) (ci := 11) (v := .int 18) (C := RX11) (T := TX11) (N := 16) hx hb hts in_k_X11_tapeNumber_4_11 hown hK hP 0 rfl rfl 1 (by decide) (hts (.fieldLink RX11 87 "LineKeeper" "taped" "I") (List.mem_of_getElem? (i := 1) rfl)) (fun _ h9 => h9) rfl dX11_tapeNumber_15 ?_
  refine lv_aload_n hx hb dX11_tapeNumber_18 rfl (lv_at hl 1 rfl) ?_
  refine va_get (D := (dC, dI)) (ci := 11) (v := .ref (g701 0)) (C := RX11) (T := TX11) (N := 16) hx hb hts in_k_X11_tapeNumber_4_11 hown hK hP 0 rfl rfl 0 (by decide) (hts (.fieldLink RX11 9 "LineKeeper" "tape" "[B") (List.mem_of_getElem? (i := 2) rfl)) (fun _ h9 => h9) rfl dX11_tapeNumber_19 ?_
  refine va_alen (v := 1200) hx hb hK hP 1 0 rfl rfl rfl dX11_tapeNumber_22 ?_
  refine lv_icmp_ge (tgt := 49) hx hb dX11_tapeNumber_23 (by decide) (fun h => absurd h (by decide)) (fun _ => ?_)
  refine lv_aload_n hx hb dX11_tapeNumber_26 rfl (lv_at hl 1 rfl) ?_
  refine va_get (D := (dC, dI)) (ci := 11) (v := .ref (g701 0)) (C := RX11) (T := TX11) (N := 16) hx hb hts in_k_X11_tapeNumber_4_11 hown hK hP 0 rfl rfl 0 (by decide) (hts (.fieldLink RX11 9 "LineKeeper" "tape" "[B") (List.mem_of_getElem? (i := 2) rfl)) (fun _ h9 => h9) rfl dX11_tapeNumber_27 ?_
  refine lv_aload_n hx hb dX11_tapeNumber_30 rfl (lv_at hl 1 rfl) ?_
  refine va_get (D := (dC, dI)) (ci := 11) (v := .int 18) (C := RX11) (T := TX11) (N := 16) hx hb hts in_k_X11_tapeNumber_4_11 hown hK hP 0 rfl rfl 1 (by decide) (hts (.fieldLink RX11 87 "LineKeeper" "taped" "I") (List.mem_of_getElem? (i := 1) rfl)) (fun _ h9 => h9) rfl dX11_tapeNumber_31 ?_
  refine lv_iload_n hx hb dX11_tapeNumber_34 rfl (lv_at hl 2 rfl) ?_
  refine lv_iload_n hx hb dX11_tapeNumber_35 rfl (lv_at hl 0 rfl) ?_
  refine lv_iushr hx hb dX11_tapeNumber_36 rfl ?_
  refine lv_topi (fun x7 ex7 => ?_)
  refine lv_i2b hx hb dX11_tapeNumber_37 rfl ?_
  refine lv_topi (fun x8 ex8 => ?_)
  refine va_bast hx hb hK hP hD hS 1 0 rfl rfl (vx_in (by decide)) dX11_tapeNumber_38 (fun H locs hP hD hS => ?_)
  generalize (upd f6 (18 : Int32).toNatClampNeg (vp_nar .byte x8)) = f9 at hP hD
  have hP : va_P (dC, dI) vwCl [(h701, .inr (11, (fsX g701).set 1 (.int 18))), ((g701 0), .inl (cA701, 1200, .inl f9))] H := hP
  have hD : va_D A [(h701, .inr (11, (fsX g701).set 1 (.int 18))), ((g701 0), .inl (cA701, 1200, .inl f9))] := hD
  refine lv_aload_n hx hb dX11_tapeNumber_39 rfl (lv_at hl 1 rfl) ?_
  refine lv_dup hx hb dX11_tapeNumber_40 rfl ?_
  refine va_get (D := (dC, dI)) (ci := 11) (v := .int 18) (C := RX11) (T := TX11) (N := 16) hx hb hts in_k_X11_tapeNumber_4_11 hown hK hP 0 rfl rfl 1 (by decide) (hts (.fieldLink RX11 87 "LineKeeper" "taped" "I") (List.mem_of_getElem? (i := 1) rfl)) (fun _ h9 => h9) rfl dX11_tapeNumber_41 ?_
  refine lv_iconst (v := 1) hx hb dX11_tapeNumber_44 (by decide) ?_
  refine lv_iadd hx hb dX11_tapeNumber_45 ?_
  refine vx_topc (v := 19) (by decide) ?_
  refine va_put (D := (dC, dI)) (ci := 11) (v := .int 19) (ty := .int) (C := RX11) (T := TX11) (N := 16) hx hb hts in_k_X11_tapeNumber_4_11 tyX11 tyX11_ok nmX11 hown hK hP hD hS 0 rfl rfl 1 (by decide) (hts (.fieldLink RX11 87 "LineKeeper" "taped" "I") (List.mem_of_getElem? (i := 1) rfl)) (fun _ h9 => h9) rfl (tyX11_ok 1 (by decide)) rfl rfl (Nat.le_of_ble_eq_true rfl) dX11_tapeNumber_46 (fun H locs hP hD hS => ?_)
  have hP : va_P (dC, dI) vwCl [(h701, .inr (11, (fsX g701).set 1 (.int 19))), ((g701 0), .inl (cA701, 1200, .inl f9))] H := hP
  have hD : va_D A [(h701, .inr (11, (fsX g701).set 1 (.int 19))), ((g701 0), .inl (cA701, 1200, .inl f9))] := hD
  refine lv_iinc (v := 0) (lv' := [(2, .int 0), (0, .ref h701), (1, .int x701)]) hx hb dX11_tapeNumber_49 hl (k := 0) rfl (by decide) (by decide) rfl (fun ls hl => ?_)
  refine lv_goto (tgt := 3) hx hb dX11_tapeNumber_52 (by decide) ?_
  refine lv_iload_n hx hb dX11_tapeNumber_3 rfl (lv_at hl 0 rfl) ?_
  refine lv_if_lt (tgt := 55) hx hb dX11_tapeNumber_4 (by decide) (fun h => absurd h (by decide)) (fun _ => ?_)
  refine lv_aload_n hx hb dX11_tapeNumber_7 rfl (lv_at hl 1 rfl) ?_
  refine va_get (D := (dC, dI)) (ci := 11) (v := .int 19) (C := RX11) (T := TX11) (N := 16) hx hb hts in_k_X11_tapeNumber_4_11 hown hK hP 0 rfl rfl 1 (by decide) (hts (.fieldLink RX11 87 "LineKeeper" "taped" "I") (List.mem_of_getElem? (i := 1) rfl)) (fun _ h9 => h9) rfl dX11_tapeNumber_8 ?_
  refine lv_if_lt (tgt := 49) hx hb dX11_tapeNumber_11 (by decide) (fun h => absurd h (by decide)) (fun _ => ?_)
  refine lv_aload_n hx hb dX11_tapeNumber_14 rfl (lv_at hl 1 rfl) ?_
  refine va_get (D := (dC, dI)) (ci := 11) (v := .int 19) (C := RX11) (T := TX11) (N := 16) hx hb hts in_k_X11_tapeNumber_4_11 hown hK hP 0 rfl rfl 1 (by decide) (hts (.fieldLink RX11 87 "LineKeeper" "taped" "I") (List.mem_of_getElem? (i := 1) rfl)) (fun _ h9 => h9) rfl dX11_tapeNumber_15 ?_
  refine lv_aload_n hx hb dX11_tapeNumber_18 rfl (lv_at hl 1 rfl) ?_
  refine va_get (D := (dC, dI)) (ci := 11) (v := .ref (g701 0)) (C := RX11) (T := TX11) (N := 16) hx hb hts in_k_X11_tapeNumber_4_11 hown hK hP 0 rfl rfl 0 (by decide) (hts (.fieldLink RX11 9 "LineKeeper" "tape" "[B") (List.mem_of_getElem? (i := 2) rfl)) (fun _ h9 => h9) rfl dX11_tapeNumber_19 ?_
  refine va_alen (v := 1200) hx hb hK hP 1 0 rfl rfl rfl dX11_tapeNumber_22 ?_
  refine lv_icmp_ge (tgt := 49) hx hb dX11_tapeNumber_23 (by decide) (fun h => absurd h (by decide)) (fun _ => ?_)
  refine lv_aload_n hx hb dX11_tapeNumber_26 rfl (lv_at hl 1 rfl) ?_
  refine va_get (D := (dC, dI)) (ci := 11) (v := .ref (g701 0)) (C := RX11) (T := TX11) (N := 16) hx hb hts in_k_X11_tapeNumber_4_11 hown hK hP 0 rfl rfl 0 (by decide) (hts (.fieldLink RX11 9 "LineKeeper" "tape" "[B") (List.mem_of_getElem? (i := 2) rfl)) (fun _ h9 => h9) rfl dX11_tapeNumber_27 ?_
  refine lv_aload_n hx hb dX11_tapeNumber_30 rfl (lv_at hl 1 rfl) ?_
  refine va_get (D := (dC, dI)) (ci := 11) (v := .int 19) (C := RX11) (T := TX11) (N := 16) hx hb hts in_k_X11_tapeNumber_4_11 hown hK hP 0 rfl rfl 1 (by decide) (hts (.fieldLink RX11 87 "LineKeeper" "taped" "I") (List.mem_of_getElem? (i := 1) rfl)) (fun _ h9 => h9) rfl dX11_tapeNumber_31 ?_
  refine lv_iload_n hx hb dX11_tapeNumber_34 rfl (lv_at hl 2 rfl) ?_
  refine lv_iload_n hx hb dX11_tapeNumber_35 rfl (lv_at hl 0 rfl) ?_
  refine lv_iushr hx hb dX11_tapeNumber_36 rfl ?_
  refine lv_topi (fun x10 ex10 => ?_)
  refine lv_i2b hx hb dX11_tapeNumber_37 rfl ?_
  refine lv_topi (fun x11 ex11 => ?_)
  refine va_bast hx hb hK hP hD hS 1 0 rfl rfl (vx_in (by decide)) dX11_tapeNumber_38 (fun H locs hP hD hS => ?_)
  generalize (upd f9 (19 : Int32).toNatClampNeg (vp_nar .byte x11)) = f12 at hP hD
  have hP : va_P (dC, dI) vwCl [(h701, .inr (11, (fsX g701).set 1 (.int 19))), ((g701 0), .inl (cA701, 1200, .inl f12))] H := hP
  have hD : va_D A [(h701, .inr (11, (fsX g701).set 1 (.int 19))), ((g701 0), .inl (cA701, 1200, .inl f12))] := hD
  refine lv_aload_n hx hb dX11_tapeNumber_39 rfl (lv_at hl 1 rfl) ?_
  refine lv_dup hx hb dX11_tapeNumber_40 rfl ?_
  refine va_get (D := (dC, dI)) (ci := 11) (v := .int 19) (C := RX11) (T := TX11) (N := 16) hx hb hts in_k_X11_tapeNumber_4_11 hown hK hP 0 rfl rfl 1 (by decide) (hts (.fieldLink RX11 87 "LineKeeper" "taped" "I") (List.mem_of_getElem? (i := 1) rfl)) (fun _ h9 => h9) rfl dX11_tapeNumber_41 ?_
  refine lv_iconst (v := 1) hx hb dX11_tapeNumber_44 (by decide) ?_
  refine lv_iadd hx hb dX11_tapeNumber_45 ?_
  refine vx_topc (v := 20) (by decide) ?_
  refine va_put (D := (dC, dI)) (ci := 11) (v := .int 20) (ty := .int) (C := RX11) (T := TX11) (N := 16) hx hb hts in_k_X11_tapeNumber_4_11 tyX11 tyX11_ok nmX11 hown hK hP hD hS 0 rfl rfl 1 (by decide) (hts (.fieldLink RX11 87 "LineKeeper" "taped" "I") (List.mem_of_getElem? (i := 1) rfl)) (fun _ h9 => h9) rfl (tyX11_ok 1 (by decide)) rfl rfl (Nat.le_of_ble_eq_true rfl) dX11_tapeNumber_46 (fun H locs hP hD hS => ?_)
  have hP : va_P (dC, dI) vwCl [(h701, .inr (11, (fsX g701).set 1 (.int 20))), ((g701 0), .inl (cA701, 1200, .inl f12))] H := hP
  have hD : va_D A [(h701, .inr (11, (fsX g701).set 1 (.int 20))), ((g701 0), .inl (cA701, 1200, .inl f12))] := hD
  refine lv_iinc (v := (-8)) (lv' := [(2, .int (-8)), (0, .ref h701), (1, .int x701)]) hx hb dX11_tapeNumber_49 hl (k := 0) rfl (by decide) (by decide) rfl (fun ls hl => ?_)
  refine lv_goto (tgt := 3) hx hb dX11_tapeNumber_52 (by decide) ?_
  refine lv_iload_n hx hb dX11_tapeNumber_3 rfl (lv_at hl 0 rfl) ?_
  refine lv_if_lt (tgt := 55) hx hb dX11_tapeNumber_4 (by decide) (fun _ => ?_) (fun h => absurd (by decide) h)
  have hP9 := hP.sub (ws' := [(h701, .inr (11, (fsX g701).set 1 (.int 20))), ((g701 0), .inl (cA701, 1200, .inl f12))]) [0, 1] rfl
  have hD9 := hD.sub (ws' := [(h701, .inr (11, (fsX g701).set 1 (.int 20))), ((g701 0), .inl (cA701, 1200, .inl f12))]) [0, 1] (by decide) rfl
  have hK9 := hK.sub (tys' := [(cA701, .byte)]) [0] rfl
  exact W.vret hx hb hr (fun t ht hW => ⟨⟨(), rfl, trivial, f12, by rw [ht]; exact hP9, va_K.moved hW.alike hK9, hD9⟩, hS.F ht⟩) hS.2.2 dX11_tapeNumber_55

def w_x_feed : List Cond := .code yX11_feed cX11_feed 6 (some .int) :: ([.fieldLink RX11 87 "LineKeeper" "taped" "I", .fieldLink RX11 9 "LineKeeper" "tape" "[B", .code yX11_tapeNumber cX11_tapeNumber 3 none, .initialized RX11, .methodLink RX11 90 yX11_tapeNumber, .instanceMethod yX11_tapeNumber, .selects RX11 yX11_tapeNumber yX11_tapeNumber] ++ wsX110)
theorem in_x_feed_11 : ∀ w ∈ wsX110, w ∈ w_x_feed := fun _ h => List.mem_cons_of_mem _ (List.mem_append_right _ h)
set_option maxRecDepth 100000 in
theorem g_x_feed_k_X11_tapeNumber_0_90 : GoodIn w_x_feed (wsV RX11 90 RX11 yX11_tapeNumber w_k_X11_tapeNumber_0) := goodIn_r _ [5, 6, 7, 4, 3, 1, 2, 8, 9, 10, 11, 12, 13, 14, 15, 16, 17, 18, 19, 20, 21, 22, 23] (by decide +kernel) (by decide +kernel)
set_option maxRecDepth 100000 in
theorem g_x_feed_k_X11_tapeNumber_1_90 : GoodIn w_x_feed (wsV RX11 90 RX11 yX11_tapeNumber w_k_X11_tapeNumber_1) := goodIn_r _ [5, 6, 7, 4, 3, 1, 2, 8, 9, 10, 11, 12, 13, 14, 15, 16, 17, 18, 19, 20, 21, 22, 23] (by decide +kernel) (by decide +kernel)
set_option maxRecDepth 100000 in
theorem g_x_feed_k_X11_tapeNumber_2_90 : GoodIn w_x_feed (wsV RX11 90 RX11 yX11_tapeNumber w_k_X11_tapeNumber_2) := goodIn_r _ [5, 6, 7, 4, 3, 1, 2, 8, 9, 10, 11, 12, 13, 14, 15, 16, 17, 18, 19, 20, 21, 22, 23] (by decide +kernel) (by decide +kernel)
set_option maxRecDepth 100000 in
theorem g_x_feed_k_X11_tapeNumber_3_90 : GoodIn w_x_feed (wsV RX11 90 RX11 yX11_tapeNumber w_k_X11_tapeNumber_3) := goodIn_r _ [5, 6, 7, 4, 3, 1, 2, 8, 9, 10, 11, 12, 13, 14, 15, 16, 17, 18, 19, 20, 21, 22, 23] (by decide +kernel) (by decide +kernel)
set_option maxRecDepth 100000 in
theorem g_x_feed_k_X11_tapeNumber_4_90 : GoodIn w_x_feed (wsV RX11 90 RX11 yX11_tapeNumber w_k_X11_tapeNumber_4) := goodIn_r _ [5, 6, 7, 4, 3, 1, 2, 8, 9, 10, 11, 12, 13, 14, 15, 16, 17, 18, 19, 20, 21, 22, 23] (by decide +kernel) (by decide +kernel)
set_option maxHeartbeats 4000000 in
set_option maxRecDepth 100000 in
theorem x_feed (l : Launch) (dC : Nat → ClassId) (dI : Nat → Nat → Nat) (h0 : Nat) (g : Nat → Nat) (cA801 : ClassId) (f801 : Nat → Int32) (p1 : Int32) (p2 : Int32) (p3 : Int32) (p4 : Int32) (p5 : Int32) (sz : Nat) : Met l yX11_feed w_x_feed { frames := 1, cells := 0, slots := 0, locals := 22 } (va_Pc [.ref h0, .int p1, .int p2, .int p3, .int p4, .int p5] (vx_pre dC dI [(h0, .inr (11, fsX g)), ((g 0), .inl (cA801, 1200, .inl f801))] [(cA801, .byte)] sz)) (va_Qi (fun (r : Int32) (_ : Unit) => r = 20) (fun _ t => vx_B dC dI (va_A [(h0, .inr (11, fsX g)), ((g 0), .inl (cA801, 1200, .inl f801))] sz) [] [] t) (va_A [(h0, .inr (11, fsX g)), ((g 0), .inl (cA801, 1200, .inl f801))] sz)) 0 0 (va_A [(h0, .inr (11, fsX g)), ((g 0), .inl (cA801, 1200, .inl f801))] sz) := by
  refine Met.ofW (cc := cX11_feed) (maxL := 6) (ret := (some .int)) (by decide) rfl ?_
  intro p e s m args below meth c s₁ B hml hv
  obtain ⟨rfl, hsz, hP, hK, hD0, hN⟩ := hv
  have hx := B.exec
  have hb := B.bytes
  have hr := B.returns
  have hts := atoms_spec (ws := w_x_feed) B.pre
  have hown : s.vm.findClass RX11 = some m.cls := findClass_of_methodNamed B.named
  have hlocks := B.notSynchronized
  subst hsz
  have hD := hD0.self (sz := s.heap.size)
  generalize hAe : va_A [(h0, .inr (11, fsX g)), ((g 0), .inl (cA801, 1200, .inl f801))] s.heap.size = A at hD ⊢
  have hA : ∀ q : Nat, s.heap.size ≤ q → A q := fun q h => by rw [← hAe]; exact Or.inr h
  obtain ⟨H, hHe⟩ : ∃ H, H = s.heap := ⟨_, rfl⟩
  rw [← hHe] at hP ⊢
  have hS : va_S A s.heap H [] := by rw [hHe]; exact va_S.rf
  have hl := lv_entry [.ref h0, .int p1, .int p2, .int p3, .int p4, .int p5] (n := 6) (Nat.le_of_ble_eq_true rfl)
  rw [lg_entry_eq]
  generalize (lg_sl [.ref h0, .int p1, .int p2, .int p3, .int p4, .int p5] ++ List.replicate (6 - (lg_sl [.ref h0, .int p1, .int p2, .int p3, .int p4, .int p5]).length) Slot.unset).toArray = ls at hl ⊢
  have hl : lv_has ls 6 [(0, .ref h0), (1, .int p1), (2, .int p2), (3, .int p3), (4, .int p4), (5, .int p5)] := hl
  refine lv_aload_n hx hb dX11_feed_0 rfl (lv_at hl 0 rfl) ?_
  refine va_get (D := (dC, dI)) (ci := 11) (v := .int 0) (C := RX11) (T := TX11) (N := 16) hx hb hts in_x_feed_11 hown hK hP 0 rfl rfl 1 (by decide) (hts (.fieldLink RX11 87 "LineKeeper" "taped" "I") (List.mem_of_getElem? (i := 1) rfl)) (fun _ h9 => h9) rfl dX11_feed_1 ?_
  refine lv_bipush (v := 20) hx hb dX11_feed_4 (by decide) ?_
  refine lv_iadd hx hb dX11_feed_6 ?_
  refine vx_topc (v := 20) (by decide) ?_
  refine lv_sipush (v := 1200) hx hb dX11_feed_7 (by decide) ?_
  refine lv_icmp_le (tgt := 15) hx hb dX11_feed_10 (by decide) (fun _ => ?_) (fun h => absurd (by decide) h)
  refine lv_aload_n hx hb dX11_feed_15 rfl (lv_at hl 0 rfl) ?_
  refine lv_iload_n hx hb dX11_feed_16 rfl (lv_at hl 1 rfl) ?_
  have hPc := hP.sub (ws' := [(h0, .inr (11, fsX g)), ((g 0), .inl (cA801, 1200, .inl f801))]) [0, 1] rfl
  have hDc := hD.sub (ws' := [(h0, .inr (11, fsX g)), ((g 0), .inl (cA801, 1200, .inl f801))]) [0, 1] (by decide) rfl
  have hKc := hK.sub (tys' := [(cA801, .byte)]) [0] rfl
  have hFc := va_free (wc := [(h0, .inr (11, fsX g)), ((g 0), .inl (cA801, 1200, .inl f801))]) hD hS hA [0, 1] rfl
  refine va_callv (va_runV (As := [.int p1]) (rest := []) ⟨hx, hb, hml, hown, hts⟩ (k_X11_tapeNumber_0 l dC dI h0 p1 g cA801 f801 H.size ) (cwV 1 hts g_x_feed_k_X11_tapeNumber_0_90 rfl rfl rfl (by decide +kernel) ⟨(Nat.le_of_ble_eq_true rfl), (Nat.le_of_ble_eq_true rfl)⟩) (vx_preV (ci := 11) (q0 := 0) hPc hKc hDc hN rfl rfl) rfl rfl hl.1 rfl (lv_room (Nat.le_of_ble_eq_true rfl)) dX11_feed_17 ⟨(Nat.le_of_ble_eq_true rfl), (Nat.le_of_ble_eq_true rfl)⟩) hS (fun q _ h => hFc q h) hFc (fun u t H1 locs ht hvm hw hB hz1 hk1 hS => ?_)
  obtain ⟨f2, hP1, hK1, hD1⟩ := hB
  rw [ht] at hP1
  obtain ⟨hP, hD⟩ := va_join (wr := []) (w1 := [(h0, .inr (11, (fsX g).set 1 (.int 4))), ((g 0), .inl (cA801, 1200, .inl f2))]) hP hD [0, 1] [] rfl rfl (by decide) (by decide) hk1 hFc hP1 hD1
  generalize H1 = H at hP hS ⊢
  have hP : va_P (dC, dI) vwCl [(h0, .inr (11, (fsX g).set 1 (.int 4))), ((g 0), .inl (cA801, 1200, .inl f2))] H := hP
  have hD : va_D A [(h0, .inr (11, (fsX g).set 1 (.int 4))), ((g 0), .inl (cA801, 1200, .inl f2))] := hD
  refine W.widen (k := 0) (n := 0) (by decide) (by decide) ?_
  refine lv_aload_n hx hb dX11_feed_20 rfl (lv_at hl 0 rfl) ?_
  refine lv_iload_n hx hb dX11_feed_21 rfl (lv_at hl 2 rfl) ?_
  have hPc := hP.sub (ws' := [(h0, .inr (11, (fsX g).set 1 (.int 4))), ((g 0), .inl (cA801, 1200, .inl f2))]) [0, 1] rfl
  have hDc := hD.sub (ws' := [(h0, .inr (11, (fsX g).set 1 (.int 4))), ((g 0), .inl (cA801, 1200, .inl f2))]) [0, 1] (by decide) rfl
  have hKc := hK.sub (tys' := [(cA801, .byte)]) [0] rfl
  have hFc := va_free (wc := [(h0, .inr (11, (fsX g).set 1 (.int 4))), ((g 0), .inl (cA801, 1200, .inl f2))]) hD hS hA [0, 1] rfl
  refine va_callv (va_runV (As := [.int p2]) (rest := []) ⟨hx, hb, hml, hown, hts⟩ (k_X11_tapeNumber_1 l dC dI h0 p2 g cA801 f2 H.size ) (cwV 1 hts g_x_feed_k_X11_tapeNumber_1_90 rfl rfl rfl (by decide +kernel) ⟨(Nat.le_of_ble_eq_true rfl), (Nat.le_of_ble_eq_true rfl)⟩) (vx_preV (ci := 11) (q0 := 0) hPc hKc hDc hN rfl rfl) rfl rfl hl.1 rfl (lv_room (Nat.le_of_ble_eq_true rfl)) dX11_feed_22 ⟨(Nat.le_of_ble_eq_true rfl), (Nat.le_of_ble_eq_true rfl)⟩) hS (fun q _ h => hFc q h) hFc (fun u t H1 locs ht hvm hw hB hz1 hk1 hS => ?_)
  obtain ⟨f4, hP1, hK1, hD1⟩ := hB
  rw [ht] at hP1
  obtain ⟨hP, hD⟩ := va_join (wr := []) (w1 := [(h0, .inr (11, (fsX g).set 1 (.int 8))), ((g 0), .inl (cA801, 1200, .inl f4))]) hP hD [0, 1] [] rfl rfl (by decide) (by decide) hk1 hFc hP1 hD1
  generalize H1 = H at hP hS ⊢
  have hP : va_P (dC, dI) vwCl [(h0, .inr (11, (fsX g).set 1 (.int 8))), ((g 0), .inl (cA801, 1200, .inl f4))] H := hP
  have hD : va_D A [(h0, .inr (11, (fsX g).set 1 (.int 8))), ((g 0), .inl (cA801, 1200, .inl f4))] := hD
  refine W.widen (k := 0) (n := 0) (by decide) (by decide) ?_
  refine lv_aload_n hx hb dX11_feed_25 rfl (lv_at hl 0 rfl) ?_
  refine lv_iload_n hx hb dX11_feed_26 rfl (lv_at hl 3 rfl) ?_
  have hPc := hP.sub (ws' := [(h0, .inr (11, (fsX g).set 1 (.int 8))), ((g 0), .inl (cA801, 1200, .inl f4))]) [0, 1] rfl
  have hDc := hD.sub (ws' := [(h0, .inr (11, (fsX g).set 1 (.int 8))), ((g 0), .inl (cA801, 1200, .inl f4))]) [0, 1] (by decide) rfl
  have hKc := hK.sub (tys' := [(cA801, .byte)]) [0] rfl
  have hFc := va_free (wc := [(h0, .inr (11, (fsX g).set 1 (.int 8))), ((g 0), .inl (cA801, 1200, .inl f4))]) hD hS hA [0, 1] rfl
  refine va_callv (va_runV (As := [.int p3]) (rest := []) ⟨hx, hb, hml, hown, hts⟩ (k_X11_tapeNumber_2 l dC dI h0 p3 g cA801 f4 H.size ) (cwV 1 hts g_x_feed_k_X11_tapeNumber_2_90 rfl rfl rfl (by decide +kernel) ⟨(Nat.le_of_ble_eq_true rfl), (Nat.le_of_ble_eq_true rfl)⟩) (vx_preV (ci := 11) (q0 := 0) hPc hKc hDc hN rfl rfl) rfl rfl hl.1 rfl (lv_room (Nat.le_of_ble_eq_true rfl)) dX11_feed_27 ⟨(Nat.le_of_ble_eq_true rfl), (Nat.le_of_ble_eq_true rfl)⟩) hS (fun q _ h => hFc q h) hFc (fun u t H1 locs ht hvm hw hB hz1 hk1 hS => ?_)
  obtain ⟨f6, hP1, hK1, hD1⟩ := hB
  rw [ht] at hP1
  obtain ⟨hP, hD⟩ := va_join (wr := []) (w1 := [(h0, .inr (11, (fsX g).set 1 (.int 12))), ((g 0), .inl (cA801, 1200, .inl f6))]) hP hD [0, 1] [] rfl rfl (by decide) (by decide) hk1 hFc hP1 hD1
  generalize H1 = H at hP hS ⊢
  have hP : va_P (dC, dI) vwCl [(h0, .inr (11, (fsX g).set 1 (.int 12))), ((g 0), .inl (cA801, 1200, .inl f6))] H := hP
  have hD : va_D A [(h0, .inr (11, (fsX g).set 1 (.int 12))), ((g 0), .inl (cA801, 1200, .inl f6))] := hD
  refine W.widen (k := 0) (n := 0) (by decide) (by decide) ?_
  refine lv_aload_n hx hb dX11_feed_30 rfl (lv_at hl 0 rfl) ?_
  refine lv_iload hx hb dX11_feed_31 (lv_at hl 4 rfl) ?_
  have hPc := hP.sub (ws' := [(h0, .inr (11, (fsX g).set 1 (.int 12))), ((g 0), .inl (cA801, 1200, .inl f6))]) [0, 1] rfl
  have hDc := hD.sub (ws' := [(h0, .inr (11, (fsX g).set 1 (.int 12))), ((g 0), .inl (cA801, 1200, .inl f6))]) [0, 1] (by decide) rfl
  have hKc := hK.sub (tys' := [(cA801, .byte)]) [0] rfl
  have hFc := va_free (wc := [(h0, .inr (11, (fsX g).set 1 (.int 12))), ((g 0), .inl (cA801, 1200, .inl f6))]) hD hS hA [0, 1] rfl
  refine va_callv (va_runV (As := [.int p4]) (rest := []) ⟨hx, hb, hml, hown, hts⟩ (k_X11_tapeNumber_3 l dC dI h0 p4 g cA801 f6 H.size ) (cwV 1 hts g_x_feed_k_X11_tapeNumber_3_90 rfl rfl rfl (by decide +kernel) ⟨(Nat.le_of_ble_eq_true rfl), (Nat.le_of_ble_eq_true rfl)⟩) (vx_preV (ci := 11) (q0 := 0) hPc hKc hDc hN rfl rfl) rfl rfl hl.1 rfl (lv_room (Nat.le_of_ble_eq_true rfl)) dX11_feed_33 ⟨(Nat.le_of_ble_eq_true rfl), (Nat.le_of_ble_eq_true rfl)⟩) hS (fun q _ h => hFc q h) hFc (fun u t H1 locs ht hvm hw hB hz1 hk1 hS => ?_)
  obtain ⟨f8, hP1, hK1, hD1⟩ := hB
  rw [ht] at hP1
  obtain ⟨hP, hD⟩ := va_join (wr := []) (w1 := [(h0, .inr (11, (fsX g).set 1 (.int 16))), ((g 0), .inl (cA801, 1200, .inl f8))]) hP hD [0, 1] [] rfl rfl (by decide) (by decide) hk1 hFc hP1 hD1
  generalize H1 = H at hP hS ⊢
  have hP : va_P (dC, dI) vwCl [(h0, .inr (11, (fsX g).set 1 (.int 16))), ((g 0), .inl (cA801, 1200, .inl f8))] H := hP
  have hD : va_D A [(h0, .inr (11, (fsX g).set 1 (.int 16))), ((g 0), .inl (cA801, 1200, .inl f8))] := hD
  refine W.widen (k := 0) (n := 0) (by decide) (by decide) ?_
  refine lv_aload_n hx hb dX11_feed_36 rfl (lv_at hl 0 rfl) ?_
  refine lv_iload hx hb dX11_feed_37 (lv_at hl 5 rfl) ?_
  have hPc := hP.sub (ws' := [(h0, .inr (11, (fsX g).set 1 (.int 16))), ((g 0), .inl (cA801, 1200, .inl f8))]) [0, 1] rfl
  have hDc := hD.sub (ws' := [(h0, .inr (11, (fsX g).set 1 (.int 16))), ((g 0), .inl (cA801, 1200, .inl f8))]) [0, 1] (by decide) rfl
  have hKc := hK.sub (tys' := [(cA801, .byte)]) [0] rfl
  have hFc := va_free (wc := [(h0, .inr (11, (fsX g).set 1 (.int 16))), ((g 0), .inl (cA801, 1200, .inl f8))]) hD hS hA [0, 1] rfl
  refine va_callv (va_runV (As := [.int p5]) (rest := []) ⟨hx, hb, hml, hown, hts⟩ (k_X11_tapeNumber_4 l dC dI h0 p5 g cA801 f8 H.size ) (cwV 1 hts g_x_feed_k_X11_tapeNumber_4_90 rfl rfl rfl (by decide +kernel) ⟨(Nat.le_of_ble_eq_true rfl), (Nat.le_of_ble_eq_true rfl)⟩) (vx_preV (ci := 11) (q0 := 0) hPc hKc hDc hN rfl rfl) rfl rfl hl.1 rfl (lv_room (Nat.le_of_ble_eq_true rfl)) dX11_feed_39 ⟨(Nat.le_of_ble_eq_true rfl), (Nat.le_of_ble_eq_true rfl)⟩) hS (fun q _ h => hFc q h) hFc (fun u t H1 locs ht hvm hw hB hz1 hk1 hS => ?_)
  obtain ⟨f10, hP1, hK1, hD1⟩ := hB
  rw [ht] at hP1
  obtain ⟨hP, hD⟩ := va_join (wr := []) (w1 := [(h0, .inr (11, (fsX g).set 1 (.int 20))), ((g 0), .inl (cA801, 1200, .inl f10))]) hP hD [0, 1] [] rfl rfl (by decide) (by decide) hk1 hFc hP1 hD1
  generalize H1 = H at hP hS ⊢
  have hP : va_P (dC, dI) vwCl [(h0, .inr (11, (fsX g).set 1 (.int 20))), ((g 0), .inl (cA801, 1200, .inl f10))] H := hP
  have hD : va_D A [(h0, .inr (11, (fsX g).set 1 (.int 20))), ((g 0), .inl (cA801, 1200, .inl f10))] := hD
  refine W.widen (k := 0) (n := 0) (by decide) (by decide) ?_
  refine lv_aload_n hx hb dX11_feed_42 rfl (lv_at hl 0 rfl) ?_
  refine va_get (D := (dC, dI)) (ci := 11) (v := .int 20) (C := RX11) (T := TX11) (N := 16) hx hb hts in_x_feed_11 hown hK hP 0 rfl rfl 1 (by decide) (hts (.fieldLink RX11 87 "LineKeeper" "taped" "I") (List.mem_of_getElem? (i := 1) rfl)) (fun _ h9 => h9) rfl dX11_feed_43 ?_
  have hP9 := hP.sub (ws' := []) [] rfl
  have hD9 := hD.sub (ws' := []) [] (by decide) rfl
  have hK9 := hK.sub (tys' := []) [] rfl
  exact W.iret (v := 20) hx hb hr (fun t ht hW => ⟨⟨20, (), rfl, rfl, by rw [ht]; exact hP9, va_K.moved hW.alike hK9, hD9⟩, hS.F ht⟩) hS.2.2 dX11_feed_46

def w_x_end : List Cond := .code yX11_end cX11_end 2 (some .int) :: ([.fieldLink RX11 87 "LineKeeper" "taped" "I"] ++ wsX110)
theorem in_x_end_11 : ∀ w ∈ wsX110, w ∈ w_x_end := fun _ h => List.mem_cons_of_mem _ (List.mem_append_right _ h)
set_option maxHeartbeats 4000000 in
set_option maxRecDepth 100000 in
theorem x_end (l : Launch) (dC : Nat → ClassId) (dI : Nat → Nat → Nat) (h0 : Nat) (g : Nat → Nat) (p1 : Int32) (sz : Nat) : Met l yX11_end w_x_end { frames := 0, cells := 0, slots := 0, locals := 0 } (va_Pc [.ref h0, .int p1] (vx_pre dC dI [(h0, .inr (11, fsX g))] [] sz)) (va_Qi (fun (r : Int32) (_ : Unit) => r = md_end p1) (fun _ t => vx_B dC dI (va_A [(h0, .inr (11, fsX g))] sz) [] [] t) (va_A [(h0, .inr (11, fsX g))] sz)) 0 0 (va_A [(h0, .inr (11, fsX g))] sz) := by
  refine Met.ofW (cc := cX11_end) (maxL := 2) (ret := (some .int)) (by decide) rfl ?_
  intro p e s m args below meth c s₁ B hml hv
  obtain ⟨rfl, hsz, hP, hK, hD0, hN⟩ := hv
  have hx := B.exec
  have hb := B.bytes
  have hr := B.returns
  have hts := atoms_spec (ws := w_x_end) B.pre
  have hown : s.vm.findClass RX11 = some m.cls := findClass_of_methodNamed B.named
  have hlocks := B.notSynchronized
  subst hsz
  have hD := hD0.self (sz := s.heap.size)
  generalize hAe : va_A [(h0, .inr (11, fsX g))] s.heap.size = A at hD ⊢
  have hA : ∀ q : Nat, s.heap.size ≤ q → A q := fun q h => by rw [← hAe]; exact Or.inr h
  obtain ⟨H, hHe⟩ : ∃ H, H = s.heap := ⟨_, rfl⟩
  rw [← hHe] at hP ⊢
  have hS : va_S A s.heap H [] := by rw [hHe]; exact va_S.rf
  have hl := lv_entry [.ref h0, .int p1] (n := 2) (Nat.le_of_ble_eq_true rfl)
  rw [lg_entry_eq]
  generalize (lg_sl [.ref h0, .int p1] ++ List.replicate (2 - (lg_sl [.ref h0, .int p1]).length) Slot.unset).toArray = ls at hl ⊢
  have hl : lv_has ls 2 [(0, .ref h0), (1, .int p1)] := hl
  refine lv_iload_n hx hb dX11_end_0 rfl (lv_at hl 1 rfl) ?_
  refine lv_if_lt (tgt := 12) hx hb dX11_end_1 (by decide) (fun c1 => ?_) (fun c1 => ?_)
  · refine lv_iconst (v := (-1)) hx hb dX11_end_12 (by decide) ?_
    have hP9 := hP.sub (ws' := []) [] rfl
    have hD9 := hD.sub (ws' := []) [] (by decide) rfl
    have hK9 := hK.sub (tys' := []) [] rfl
    exact W.iret (v := (-1)) hx hb hr (fun t ht hW => ⟨⟨(-1), (), rfl, md_end_a c1, by rw [ht]; exact hP9, va_K.moved hW.alike hK9, hD9⟩, hS.F ht⟩) hS.2.2 dX11_end_13
  · refine lv_iload_n hx hb dX11_end_4 rfl (lv_at hl 1 rfl) ?_
    refine lv_aload_n hx hb dX11_end_5 rfl (lv_at hl 0 rfl) ?_
    refine va_get (D := (dC, dI)) (ci := 11) (v := .int 0) (C := RX11) (T := TX11) (N := 16) hx hb hts in_x_end_11 hown hK hP 0 rfl rfl 1 (by decide) (hts (.fieldLink RX11 87 "LineKeeper" "taped" "I") (List.mem_of_getElem? (i := 1) rfl)) (fun _ h9 => h9) rfl dX11_end_6 ?_
    refine lv_icmp_le (tgt := 14) hx hb dX11_end_9 (by decide) (fun c2 => ?_) (fun c2 => ?_)
    · refine lv_aload_n hx hb dX11_end_14 rfl (lv_at hl 0 rfl) ?_
      refine lv_iload_n hx hb dX11_end_15 rfl (lv_at hl 1 rfl) ?_
      refine va_put (D := (dC, dI)) (ci := 11) (v := .int p1) (ty := .int) (C := RX11) (T := TX11) (N := 16) hx hb hts in_x_end_11 tyX11 tyX11_ok nmX11 hown hK hP hD hS 0 rfl rfl 1 (by decide) (hts (.fieldLink RX11 87 "LineKeeper" "taped" "I") (List.mem_of_getElem? (i := 1) rfl)) (fun _ h9 => h9) rfl (tyX11_ok 1 (by decide)) rfl rfl (Nat.le_of_ble_eq_true rfl) dX11_end_16 (fun H locs hP hD hS => ?_)
      have hP : va_P (dC, dI) vwCl [(h0, .inr (11, (fsX g).set 1 (.int p1)))] H := hP
      have hD : va_D A [(h0, .inr (11, (fsX g).set 1 (.int p1)))] := hD
      refine lv_iload_n hx hb dX11_end_19 rfl (lv_at hl 1 rfl) ?_
      have hP9 := hP.sub (ws' := []) [] rfl
      have hD9 := hD.sub (ws' := []) [] (by decide) rfl
      have hK9 := hK.sub (tys' := []) [] rfl
      exact W.iret (v := p1) hx hb hr (fun t ht hW => ⟨⟨p1, (), rfl, md_end_c c1 c2, by rw [ht]; exact hP9, va_K.moved hW.alike hK9, hD9⟩, hS.F ht⟩) hS.2.2 dX11_end_20
    · refine lv_iconst (v := (-1)) hx hb dX11_end_12 (by decide) ?_
      have hP9 := hP.sub (ws' := []) [] rfl
      have hD9 := hD.sub (ws' := []) [] (by decide) rfl
      have hK9 := hK.sub (tys' := []) [] rfl
      exact W.iret (v := (-1)) hx hb hr (fun t ht hW => ⟨⟨(-1), (), rfl, md_end_b c1 c2, by rw [ht]; exact hP9, va_K.moved hW.alike hK9, hD9⟩, hS.F ht⟩) hS.2.2 dX11_end_13

def w_k_X11_put_0 : List Cond := .code yX11_put cX11_put 3 none :: []
set_option maxHeartbeats 4000000 in
set_option maxRecDepth 100000 in
theorem k_X11_put_0 (l : Launch) (dC : Nat → ClassId) (dI : Nat → Nat → Nat) (g701 : Nat → Nat) (cA701 : ClassId) (sz : Nat) : Met l yX11_put w_k_X11_put_0 { frames := 0, cells := 0, slots := 0, locals := 0 } (va_Pc [.ref (g701 0), .int 0, .int 264] (vx_pre dC dI [((g701 0), .inl (cA701, 1201, .inl (fun _ => 0)))] [(cA701, .int)] sz)) (va_Qv (fun _ : Unit => True) (fun _ t => vx_B dC dI (va_A [((g701 0), .inl (cA701, 1201, .inl (fun _ => 0)))] sz) [((g701 0), .inl (cA701, 1201, .inl (upd (fun _ => 0) (0 : Int32).toNatClampNeg 264)))] [(cA701, .int)] t) (va_A [((g701 0), .inl (cA701, 1201, .inl (fun _ => 0)))] sz)) 0 0 (va_A [((g701 0), .inl (cA701, 1201, .inl (fun _ => 0)))] sz) := by
  refine Met.ofW (cc := cX11_put) (maxL := 3) (ret := none) (by decide) rfl ?_
  intro p e s m args below meth c s₁ B hml hv
  obtain ⟨rfl, hsz, hP, hK, hD0, hN⟩ := hv
  have hx := B.exec
  have hb := B.bytes
  have hr := B.returns
  have hts := atoms_spec (ws := w_k_X11_put_0) B.pre
  have hown : s.vm.findClass RX11 = some m.cls := findClass_of_methodNamed B.named
  have hlocks := B.notSynchronized
  subst hsz
  have hD := hD0.self (sz := s.heap.size)
  generalize hAe : va_A [((g701 0), .inl (cA701, 1201, .inl (fun _ => 0)))] s.heap.size = A at hD ⊢
  have hA : ∀ q : Nat, s.heap.size ≤ q → A q := fun q h => by rw [← hAe]; exact Or.inr h
  obtain ⟨H, hHe⟩ : ∃ H, H = s.heap := ⟨_, rfl⟩
  rw [← hHe] at hP ⊢
  have hS : va_S A s.heap H [] := by rw [hHe]; exact va_S.rf
  have hl := lv_entry [.ref (g701 0), .int 0, .int 264] (n := 3) (Nat.le_of_ble_eq_true rfl)
  rw [lg_entry_eq]
  generalize (lg_sl [.ref (g701 0), .int 0, .int 264] ++ List.replicate (3 - (lg_sl [.ref (g701 0), .int 0, .int 264]).length) Slot.unset).toArray = ls at hl ⊢
  have hl : lv_has ls 3 [(0, .ref (g701 0)), (1, .int 0), (2, .int 264)] := hl
  refine lv_aload_n hx hb dX11_put_0 rfl (lv_at hl 0 rfl) ?_
  refine lv_ifnull hx hb dX11_put_1 ?_
  refine lv_iload_n hx hb dX11_put_4 rfl (lv_at hl 1 rfl) ?_
  refine lv_if_lt (tgt := 18) hx hb dX11_put_5 (by decide) (fun h => absurd h (by decide)) (fun _ => ?_)
  refine lv_iload_n hx hb dX11_put_8 rfl (lv_at hl 1 rfl) ?_
  refine lv_aload_n hx hb dX11_put_9 rfl (lv_at hl 0 rfl) ?_
  refine va_alen (v := 1201) hx hb hK hP 0 0 rfl rfl rfl dX11_put_10 ?_
  refine lv_icmp_ge (tgt := 18) hx hb dX11_put_11 (by decide) (fun h => absurd h (by decide)) (fun _ => ?_)
  refine lv_aload_n hx hb dX11_put_14 rfl (lv_at hl 0 rfl) ?_
  refine lv_iload_n hx hb dX11_put_15 rfl (lv_at hl 1 rfl) ?_
  refine lv_iload_n hx hb dX11_put_16 rfl (lv_at hl 2 rfl) ?_
  refine va_iast hx hb hK hP hD hS 0 0 rfl rfl (vx_in (by decide)) dX11_put_17 (fun H locs hP hD hS => ?_)
  have hP : va_P (dC, dI) vwCl [((g701 0), .inl (cA701, 1201, .inl (upd (fun _ => 0) (0 : Int32).toNatClampNeg 264)))] H := hP
  have hD : va_D A [((g701 0), .inl (cA701, 1201, .inl (upd (fun _ => 0) (0 : Int32).toNatClampNeg 264)))] := hD
  have hP9 := hP.sub (ws' := [((g701 0), .inl (cA701, 1201, .inl (upd (fun _ => 0) (0 : Int32).toNatClampNeg 264)))]) [0] rfl
  have hD9 := hD.sub (ws' := [((g701 0), .inl (cA701, 1201, .inl (upd (fun _ => 0) (0 : Int32).toNatClampNeg 264)))]) [0] (by decide) rfl
  have hK9 := hK.sub (tys' := [(cA701, .int)]) [0] rfl
  exact W.vret hx hb hr (fun t ht hW => ⟨⟨(), rfl, trivial, by rw [ht]; exact hP9, va_K.moved hW.alike hK9, hD9⟩, hS.F ht⟩) hS.2.2 dX11_put_18

def w_k_X11_put_1 : List Cond := .code yX11_put cX11_put 3 none :: []
set_option maxHeartbeats 4000000 in
set_option maxRecDepth 100000 in
theorem k_X11_put_1 (l : Launch) (dC : Nat → ClassId) (dI : Nat → Nat → Nat) (g701 : Nat → Nat) (cA701 : ClassId) (sz : Nat) : Met l yX11_put w_k_X11_put_1 { frames := 0, cells := 0, slots := 0, locals := 0 } (va_Pc [.ref (g701 1), .int 0, .int 0] (vx_pre dC dI [((g701 1), .inl (cA701, 1201, .inl (fun _ => 0)))] [(cA701, .int)] sz)) (va_Qv (fun _ : Unit => True) (fun _ t => vx_B dC dI (va_A [((g701 1), .inl (cA701, 1201, .inl (fun _ => 0)))] sz) [((g701 1), .inl (cA701, 1201, .inl (upd (fun _ => 0) (0 : Int32).toNatClampNeg 0)))] [(cA701, .int)] t) (va_A [((g701 1), .inl (cA701, 1201, .inl (fun _ => 0)))] sz)) 0 0 (va_A [((g701 1), .inl (cA701, 1201, .inl (fun _ => 0)))] sz) := by
  refine Met.ofW (cc := cX11_put) (maxL := 3) (ret := none) (by decide) rfl ?_
  intro p e s m args below meth c s₁ B hml hv
  obtain ⟨rfl, hsz, hP, hK, hD0, hN⟩ := hv
  have hx := B.exec
  have hb := B.bytes
  have hr := B.returns
  have hts := atoms_spec (ws := w_k_X11_put_1) B.pre
  have hown : s.vm.findClass RX11 = some m.cls := findClass_of_methodNamed B.named
  have hlocks := B.notSynchronized
  subst hsz
  have hD := hD0.self (sz := s.heap.size)
  generalize hAe : va_A [((g701 1), .inl (cA701, 1201, .inl (fun _ => 0)))] s.heap.size = A at hD ⊢
  have hA : ∀ q : Nat, s.heap.size ≤ q → A q := fun q h => by rw [← hAe]; exact Or.inr h
  obtain ⟨H, hHe⟩ : ∃ H, H = s.heap := ⟨_, rfl⟩
  rw [← hHe] at hP ⊢
  have hS : va_S A s.heap H [] := by rw [hHe]; exact va_S.rf
  have hl := lv_entry [.ref (g701 1), .int 0, .int 0] (n := 3) (Nat.le_of_ble_eq_true rfl)
  rw [lg_entry_eq]
  generalize (lg_sl [.ref (g701 1), .int 0, .int 0] ++ List.replicate (3 - (lg_sl [.ref (g701 1), .int 0, .int 0]).length) Slot.unset).toArray = ls at hl ⊢
  have hl : lv_has ls 3 [(0, .ref (g701 1)), (1, .int 0), (2, .int 0)] := hl
  refine lv_aload_n hx hb dX11_put_0 rfl (lv_at hl 0 rfl) ?_
  refine lv_ifnull hx hb dX11_put_1 ?_
  refine lv_iload_n hx hb dX11_put_4 rfl (lv_at hl 1 rfl) ?_
  refine lv_if_lt (tgt := 18) hx hb dX11_put_5 (by decide) (fun h => absurd h (by decide)) (fun _ => ?_)
  refine lv_iload_n hx hb dX11_put_8 rfl (lv_at hl 1 rfl) ?_
  refine lv_aload_n hx hb dX11_put_9 rfl (lv_at hl 0 rfl) ?_
  refine va_alen (v := 1201) hx hb hK hP 0 0 rfl rfl rfl dX11_put_10 ?_
  refine lv_icmp_ge (tgt := 18) hx hb dX11_put_11 (by decide) (fun h => absurd h (by decide)) (fun _ => ?_)
  refine lv_aload_n hx hb dX11_put_14 rfl (lv_at hl 0 rfl) ?_
  refine lv_iload_n hx hb dX11_put_15 rfl (lv_at hl 1 rfl) ?_
  refine lv_iload_n hx hb dX11_put_16 rfl (lv_at hl 2 rfl) ?_
  refine va_iast hx hb hK hP hD hS 0 0 rfl rfl (vx_in (by decide)) dX11_put_17 (fun H locs hP hD hS => ?_)
  have hP : va_P (dC, dI) vwCl [((g701 1), .inl (cA701, 1201, .inl (upd (fun _ => 0) (0 : Int32).toNatClampNeg 0)))] H := hP
  have hD : va_D A [((g701 1), .inl (cA701, 1201, .inl (upd (fun _ => 0) (0 : Int32).toNatClampNeg 0)))] := hD
  have hP9 := hP.sub (ws' := [((g701 1), .inl (cA701, 1201, .inl (upd (fun _ => 0) (0 : Int32).toNatClampNeg 0)))]) [0] rfl
  have hD9 := hD.sub (ws' := [((g701 1), .inl (cA701, 1201, .inl (upd (fun _ => 0) (0 : Int32).toNatClampNeg 0)))]) [0] (by decide) rfl
  have hK9 := hK.sub (tys' := [(cA701, .int)]) [0] rfl
  exact W.vret hx hb hr (fun t ht hW => ⟨⟨(), rfl, trivial, by rw [ht]; exact hP9, va_K.moved hW.alike hK9, hD9⟩, hS.F ht⟩) hS.2.2 dX11_put_18

def w_k_X11_put_2 : List Cond := .code yX11_put cX11_put 3 none :: []
set_option maxHeartbeats 4000000 in
set_option maxRecDepth 100000 in
theorem k_X11_put_2 (l : Launch) (dC : Nat → ClassId) (dI : Nat → Nat → Nat) (g701 : Nat → Nat) (cA701 : ClassId) (sz : Nat) : Met l yX11_put w_k_X11_put_2 { frames := 0, cells := 0, slots := 0, locals := 0 } (va_Pc [.ref (g701 2), .int 0, .int 0] (vx_pre dC dI [((g701 2), .inl (cA701, 1201, .inl (fun _ => 0)))] [(cA701, .int)] sz)) (va_Qv (fun _ : Unit => True) (fun _ t => vx_B dC dI (va_A [((g701 2), .inl (cA701, 1201, .inl (fun _ => 0)))] sz) [((g701 2), .inl (cA701, 1201, .inl (upd (fun _ => 0) (0 : Int32).toNatClampNeg 0)))] [(cA701, .int)] t) (va_A [((g701 2), .inl (cA701, 1201, .inl (fun _ => 0)))] sz)) 0 0 (va_A [((g701 2), .inl (cA701, 1201, .inl (fun _ => 0)))] sz) := by
  refine Met.ofW (cc := cX11_put) (maxL := 3) (ret := none) (by decide) rfl ?_
  intro p e s m args below meth c s₁ B hml hv
  obtain ⟨rfl, hsz, hP, hK, hD0, hN⟩ := hv
  have hx := B.exec
  have hb := B.bytes
  have hr := B.returns
  have hts := atoms_spec (ws := w_k_X11_put_2) B.pre
  have hown : s.vm.findClass RX11 = some m.cls := findClass_of_methodNamed B.named
  have hlocks := B.notSynchronized
  subst hsz
  have hD := hD0.self (sz := s.heap.size)
  generalize hAe : va_A [((g701 2), .inl (cA701, 1201, .inl (fun _ => 0)))] s.heap.size = A at hD ⊢
  have hA : ∀ q : Nat, s.heap.size ≤ q → A q := fun q h => by rw [← hAe]; exact Or.inr h
  obtain ⟨H, hHe⟩ : ∃ H, H = s.heap := ⟨_, rfl⟩
  rw [← hHe] at hP ⊢
  have hS : va_S A s.heap H [] := by rw [hHe]; exact va_S.rf
  have hl := lv_entry [.ref (g701 2), .int 0, .int 0] (n := 3) (Nat.le_of_ble_eq_true rfl)
  rw [lg_entry_eq]
  generalize (lg_sl [.ref (g701 2), .int 0, .int 0] ++ List.replicate (3 - (lg_sl [.ref (g701 2), .int 0, .int 0]).length) Slot.unset).toArray = ls at hl ⊢
  have hl : lv_has ls 3 [(0, .ref (g701 2)), (1, .int 0), (2, .int 0)] := hl
  refine lv_aload_n hx hb dX11_put_0 rfl (lv_at hl 0 rfl) ?_
  refine lv_ifnull hx hb dX11_put_1 ?_
  refine lv_iload_n hx hb dX11_put_4 rfl (lv_at hl 1 rfl) ?_
  refine lv_if_lt (tgt := 18) hx hb dX11_put_5 (by decide) (fun h => absurd h (by decide)) (fun _ => ?_)
  refine lv_iload_n hx hb dX11_put_8 rfl (lv_at hl 1 rfl) ?_
  refine lv_aload_n hx hb dX11_put_9 rfl (lv_at hl 0 rfl) ?_
  refine va_alen (v := 1201) hx hb hK hP 0 0 rfl rfl rfl dX11_put_10 ?_
  refine lv_icmp_ge (tgt := 18) hx hb dX11_put_11 (by decide) (fun h => absurd h (by decide)) (fun _ => ?_)
  refine lv_aload_n hx hb dX11_put_14 rfl (lv_at hl 0 rfl) ?_
  refine lv_iload_n hx hb dX11_put_15 rfl (lv_at hl 1 rfl) ?_
  refine lv_iload_n hx hb dX11_put_16 rfl (lv_at hl 2 rfl) ?_
  refine va_iast hx hb hK hP hD hS 0 0 rfl rfl (vx_in (by decide)) dX11_put_17 (fun H locs hP hD hS => ?_)
  have hP : va_P (dC, dI) vwCl [((g701 2), .inl (cA701, 1201, .inl (upd (fun _ => 0) (0 : Int32).toNatClampNeg 0)))] H := hP
  have hD : va_D A [((g701 2), .inl (cA701, 1201, .inl (upd (fun _ => 0) (0 : Int32).toNatClampNeg 0)))] := hD
  have hP9 := hP.sub (ws' := [((g701 2), .inl (cA701, 1201, .inl (upd (fun _ => 0) (0 : Int32).toNatClampNeg 0)))]) [0] rfl
  have hD9 := hD.sub (ws' := [((g701 2), .inl (cA701, 1201, .inl (upd (fun _ => 0) (0 : Int32).toNatClampNeg 0)))]) [0] (by decide) rfl
  have hK9 := hK.sub (tys' := [(cA701, .int)]) [0] rfl
  exact W.vret hx hb hr (fun t ht hW => ⟨⟨(), rfl, trivial, by rw [ht]; exact hP9, va_K.moved hW.alike hK9, hD9⟩, hS.F ht⟩) hS.2.2 dX11_put_18

def w_k_X9_keep_0 : List Cond := .code yX9_keep cX9_keep 2 none :: ([.fieldLink RX9 9 "LineKeeper$Tokens" "kinds" "[I", .fieldLink RX9 30 "LineKeeper$Tokens" "kind" "I", .code yX11_put cX11_put 3 none, .initialized RX11, .static yX11_put, .fieldLink RX9 15 "LineKeeper$Tokens" "numbers" "[I", .fieldLink RX9 55 "LineKeeper$Tokens" "number" "I", .fieldLink RX9 18 "LineKeeper$Tokens" "places" "[I", .fieldLink RX9 34 "LineKeeper$Tokens" "place" "I"] ++ wsX90)
theorem in_k_X9_keep_0_9 : ∀ w ∈ wsX90, w ∈ w_k_X9_keep_0 := fun _ h => List.mem_cons_of_mem _ (List.mem_append_right _ h)
set_option maxRecDepth 100000 in
theorem g_k_X9_keep_0_k_X11_put_0_51 : GoodIn w_k_X9_keep_0 w_k_X11_put_0 := goodIn_r _ [3] (by decide +kernel) (by decide +kernel)
set_option maxRecDepth 100000 in
theorem g_k_X9_keep_0_k_X11_put_1_51 : GoodIn w_k_X9_keep_0 w_k_X11_put_1 := goodIn_r _ [3] (by decide +kernel) (by decide +kernel)
set_option maxRecDepth 100000 in
theorem g_k_X9_keep_0_k_X11_put_2_51 : GoodIn w_k_X9_keep_0 w_k_X11_put_2 := goodIn_r _ [3] (by decide +kernel) (by decide +kernel)
set_option maxHeartbeats 4000000 in
set_option maxRecDepth 100000 in
theorem k_X9_keep_0 (l : Launch) (dC : Nat → ClassId) (dI : Nat → Nat → Nat) (g701 : Nat → Nat) (g702 : Nat → Nat) (cA701 : ClassId) (cA702 : ClassId) (cA703 : ClassId) (sz : Nat) : Met l yX9_keep w_k_X9_keep_0 { frames := 1, cells := 0, slots := 0, locals := 22 } (va_Pc [.ref (g701 0), .int 0] (vx_pre dC dI [((g701 0), .inr (9, [.ref (g702 0), .ref (g702 1), .ref (g702 2), .int 0, .int 264, .int 0, .int 0])), ((g702 0), .inl (cA701, 1201, .inl (fun _ => 0))), ((g702 1), .inl (cA702, 1201, .inl (fun _ => 0))), ((g702 2), .inl (cA703, 1201, .inl (fun _ => 0)))] [(cA701, .int), (cA702, .int), (cA703, .int)] sz)) (va_Qv (fun _ : Unit => True) (fun _ t => vx_B dC dI (va_A [((g701 0), .inr (9, [.ref (g702 0), .ref (g702 1), .ref (g702 2), .int 0, .int 264, .int 0, .int 0])), ((g702 0), .inl (cA701, 1201, .inl (fun _ => 0))), ((g702 1), .inl (cA702, 1201, .inl (fun _ => 0))), ((g702 2), .inl (cA703, 1201, .inl (fun _ => 0)))] sz) [((g701 0), .inr (9, [.ref (g702 0), .ref (g702 1), .ref (g702 2), .int 0, .int 264, .int 0, .int 0])), ((g702 0), .inl (cA701, 1201, .inl (upd (fun _ => 0) (0 : Int32).toNatClampNeg 264))), ((g702 1), .inl (cA702, 1201, .inl (upd (fun _ => 0) (0 : Int32).toNatClampNeg 0))), ((g702 2), .inl (cA703, 1201, .inl (upd (fun _ => 0) (0 : Int32).toNatClampNeg 0)))] [(cA701, .int), (cA702, .int), (cA703, .int)] t) (va_A [((g701 0), .inr (9, [.ref (g702 0), .ref (g702 1), .ref (g702 2), .int 0, .int 264, .int 0, .int 0])), ((g702 0), .inl (cA701, 1201, .inl (fun _ => 0))), ((g702 1), .inl (cA702, 1201, .inl (fun _ => 0))), ((g702 2), .inl (cA703, 1201, .inl (fun _ => 0)))] sz)) 0 0 (va_A [((g701 0), .inr (9, [.ref (g702 0), .ref (g702 1), .ref (g702 2), .int 0, .int 264, .int 0, .int 0])), ((g702 0), .inl (cA701, 1201, .inl (fun _ => 0))), ((g702 1), .inl (cA702, 1201, .inl (fun _ => 0))), ((g702 2), .inl (cA703, 1201, .inl (fun _ => 0)))] sz) := by
  refine Met.ofW (cc := cX9_keep) (maxL := 2) (ret := none) (by decide) rfl ?_
  intro p e s m args below meth c s₁ B hml hv
  obtain ⟨rfl, hsz, hP, hK, hD0, hN⟩ := hv
  have hx := B.exec
  have hb := B.bytes
  have hr := B.returns
  have hts := atoms_spec (ws := w_k_X9_keep_0) B.pre
  have hown : s.vm.findClass RX9 = some m.cls := findClass_of_methodNamed B.named
  have hlocks := B.notSynchronized
  subst hsz
  have hD := hD0.self (sz := s.heap.size)
  generalize hAe : va_A [((g701 0), .inr (9, [.ref (g702 0), .ref (g702 1), .ref (g702 2), .int 0, .int 264, .int 0, .int 0])), ((g702 0), .inl (cA701, 1201, .inl (fun _ => 0))), ((g702 1), .inl (cA702, 1201, .inl (fun _ => 0))), ((g702 2), .inl (cA703, 1201, .inl (fun _ => 0)))] s.heap.size = A at hD ⊢
  have hA : ∀ q : Nat, s.heap.size ≤ q → A q := fun q h => by rw [← hAe]; exact Or.inr h
  obtain ⟨H, hHe⟩ : ∃ H, H = s.heap := ⟨_, rfl⟩
  rw [← hHe] at hP ⊢
  have hS : va_S A s.heap H [] := by rw [hHe]; exact va_S.rf
  have hl := lv_entry [.ref (g701 0), .int 0] (n := 2) (Nat.le_of_ble_eq_true rfl)
  rw [lg_entry_eq]
  generalize (lg_sl [.ref (g701 0), .int 0] ++ List.replicate (2 - (lg_sl [.ref (g701 0), .int 0]).length) Slot.unset).toArray = ls at hl ⊢
  have hl : lv_has ls 2 [(0, .ref (g701 0)), (1, .int 0)] := hl
  refine lv_aload_n hx hb dX9_keep_0 rfl (lv_at hl 0 rfl) ?_
  refine va_get (D := (dC, dI)) (ci := 9) (v := .ref (g702 0)) (C := RX9) (T := TX9) (N := 7) hx hb hts in_k_X9_keep_0_9 hown hK hP 0 rfl rfl 0 (by decide) (hts (.fieldLink RX9 9 "LineKeeper$Tokens" "kinds" "[I") (List.mem_of_getElem? (i := 1) rfl)) (fun _ h9 => h9) rfl dX9_keep_1 ?_
  refine lv_iload_n hx hb dX9_keep_4 rfl (lv_at hl 1 rfl) ?_
  refine lv_aload_n hx hb dX9_keep_5 rfl (lv_at hl 0 rfl) ?_
  refine va_get (D := (dC, dI)) (ci := 9) (v := .int 264) (C := RX9) (T := TX9) (N := 7) hx hb hts in_k_X9_keep_0_9 hown hK hP 0 rfl rfl 4 (by decide) (hts (.fieldLink RX9 30 "LineKeeper$Tokens" "kind" "I") (List.mem_of_getElem? (i := 2) rfl)) (fun _ h9 => h9) rfl dX9_keep_6 ?_
  have hPc := hP.sub (ws' := [((g702 0), .inl (cA701, 1201, .inl (fun _ => 0)))]) [1] rfl
  have hDc := hD.sub (ws' := [((g702 0), .inl (cA701, 1201, .inl (fun _ => 0)))]) [1] (by decide) rfl
  have hKc := hK.sub (tys' := [(cA701, .int)]) [0] rfl
  have hFc := va_free (wc := [((g702 0), .inl (cA701, 1201, .inl (fun _ => 0)))]) hD hS hA [1] rfl
  refine va_callv (va_runSN (As := [.ref (g702 0), .int 0, .int 264]) (rest := []) ⟨hx, hb, hml, hown, hts⟩ (k_X11_put_0 l dC dI g702 cA701 H.size ) ⟨(va_cnB (host := "LineKeeper") 3 hts g_k_X9_keep_0_k_X11_put_0_51 rfl rfl rfl (hN.1 (RX9, 51, yX11_put, "LineKeeper") (List.mem_of_getElem? (i := 6) rfl)) (hts (.initialized RX11) (List.mem_of_getElem? (i := 4) rfl)) (by decide +kernel) ⟨(Nat.le_of_ble_eq_true rfl), (Nat.le_of_ble_eq_true rfl)⟩), (hts (.static yX11_put) (List.mem_of_getElem? (i := 5) rfl)), trivial⟩ (vx_preS hPc hKc hDc hN) rfl rfl hl.1 rfl (lv_room (Nat.le_of_ble_eq_true rfl)) dX9_keep_9 ⟨(Nat.le_of_ble_eq_true rfl), (Nat.le_of_ble_eq_true rfl)⟩) hS (fun q _ h => hFc q h) hFc (fun u t H1 locs ht hvm hw hB hz1 hk1 hS => ?_)
  obtain ⟨hP1, hK1, hD1⟩ := hB
  rw [ht] at hP1
  obtain ⟨hP, hD⟩ := va_join (wr := [((g701 0), .inr (9, [.ref (g702 0), .ref (g702 1), .ref (g702 2), .int 0, .int 264, .int 0, .int 0])), ((g702 1), .inl (cA702, 1201, .inl (fun _ => 0))), ((g702 2), .inl (cA703, 1201, .inl (fun _ => 0)))]) (w1 := [((g702 0), .inl (cA701, 1201, .inl (upd (fun _ => 0) (0 : Int32).toNatClampNeg 264)))]) hP hD [1] [0, 2, 3] rfl rfl (by decide) (by decide) hk1 hFc hP1 hD1
  generalize H1 = H at hP hS ⊢
  have hP : va_P (dC, dI) vwCl [((g701 0), .inr (9, [.ref (g702 0), .ref (g702 1), .ref (g702 2), .int 0, .int 264, .int 0, .int 0])), ((g702 1), .inl (cA702, 1201, .inl (fun _ => 0))), ((g702 2), .inl (cA703, 1201, .inl (fun _ => 0))), ((g702 0), .inl (cA701, 1201, .inl (upd (fun _ => 0) (0 : Int32).toNatClampNeg 264)))] H := hP
  have hD : va_D A [((g701 0), .inr (9, [.ref (g702 0), .ref (g702 1), .ref (g702 2), .int 0, .int 264, .int 0, .int 0])), ((g702 1), .inl (cA702, 1201, .inl (fun _ => 0))), ((g702 2), .inl (cA703, 1201, .inl (fun _ => 0))), ((g702 0), .inl (cA701, 1201, .inl (upd (fun _ => 0) (0 : Int32).toNatClampNeg 264)))] := hD
  refine W.widen (k := 0) (n := 0) (by decide) (by decide) ?_
  refine lv_aload_n hx hb dX9_keep_12 rfl (lv_at hl 0 rfl) ?_
  refine va_get (D := (dC, dI)) (ci := 9) (v := .ref (g702 1)) (C := RX9) (T := TX9) (N := 7) hx hb hts in_k_X9_keep_0_9 hown hK hP 0 rfl rfl 1 (by decide) (hts (.fieldLink RX9 15 "LineKeeper$Tokens" "numbers" "[I") (List.mem_of_getElem? (i := 6) rfl)) (fun _ h9 => h9) rfl dX9_keep_13 ?_
  refine lv_iload_n hx hb dX9_keep_16 rfl (lv_at hl 1 rfl) ?_
  refine lv_aload_n hx hb dX9_keep_17 rfl (lv_at hl 0 rfl) ?_
  refine va_get (D := (dC, dI)) (ci := 9) (v := .int 0) (C := RX9) (T := TX9) (N := 7) hx hb hts in_k_X9_keep_0_9 hown hK hP 0 rfl rfl 5 (by decide) (hts (.fieldLink RX9 55 "LineKeeper$Tokens" "number" "I") (List.mem_of_getElem? (i := 7) rfl)) (fun _ h9 => h9) rfl dX9_keep_18 ?_
  have hPc := hP.sub (ws' := [((g702 1), .inl (cA702, 1201, .inl (fun _ => 0)))]) [1] rfl
  have hDc := hD.sub (ws' := [((g702 1), .inl (cA702, 1201, .inl (fun _ => 0)))]) [1] (by decide) rfl
  have hKc := hK.sub (tys' := [(cA702, .int)]) [1] rfl
  have hFc := va_free (wc := [((g702 1), .inl (cA702, 1201, .inl (fun _ => 0)))]) hD hS hA [1] rfl
  refine va_callv (va_runSN (As := [.ref (g702 1), .int 0, .int 0]) (rest := []) ⟨hx, hb, hml, hown, hts⟩ (k_X11_put_1 l dC dI g702 cA702 H.size ) ⟨(va_cnB (host := "LineKeeper") 3 hts g_k_X9_keep_0_k_X11_put_1_51 rfl rfl rfl (hN.1 (RX9, 51, yX11_put, "LineKeeper") (List.mem_of_getElem? (i := 6) rfl)) (hts (.initialized RX11) (List.mem_of_getElem? (i := 4) rfl)) (by decide +kernel) ⟨(Nat.le_of_ble_eq_true rfl), (Nat.le_of_ble_eq_true rfl)⟩), (hts (.static yX11_put) (List.mem_of_getElem? (i := 5) rfl)), trivial⟩ (vx_preS hPc hKc hDc hN) rfl rfl hl.1 rfl (lv_room (Nat.le_of_ble_eq_true rfl)) dX9_keep_21 ⟨(Nat.le_of_ble_eq_true rfl), (Nat.le_of_ble_eq_true rfl)⟩) hS (fun q _ h => hFc q h) hFc (fun u t H1 locs ht hvm hw hB hz1 hk1 hS => ?_)
  obtain ⟨hP1, hK1, hD1⟩ := hB
  rw [ht] at hP1
  obtain ⟨hP, hD⟩ := va_join (wr := [((g701 0), .inr (9, [.ref (g702 0), .ref (g702 1), .ref (g702 2), .int 0, .int 264, .int 0, .int 0])), ((g702 2), .inl (cA703, 1201, .inl (fun _ => 0))), ((g702 0), .inl (cA701, 1201, .inl (upd (fun _ => 0) (0 : Int32).toNatClampNeg 264)))]) (w1 := [((g702 1), .inl (cA702, 1201, .inl (upd (fun _ => 0) (0 : Int32).toNatClampNeg 0)))]) hP hD [1] [0, 2, 3] rfl rfl (by decide) (by decide) hk1 hFc hP1 hD1
  generalize H1 = H at hP hS ⊢
  have hP : va_P (dC, dI) vwCl [((g701 0), .inr (9, [.ref (g702 0), .ref (g702 1), .ref (g702 2), .int 0, .int 264, .int 0, .int 0])), ((g702 2), .inl (cA703, 1201, .inl (fun _ => 0))), ((g702 0), .inl (cA701, 1201, .inl (upd (fun _ => 0) (0 : Int32).toNatClampNeg 264))), ((g702 1), .inl (cA702, 1201, .inl (upd (fun _ => 0) (0 : Int32).toNatClampNeg 0)))] H := hP
  have hD : va_D A [((g701 0), .inr (9, [.ref (g702 0), .ref (g702 1), .ref (g702 2), .int 0, .int 264, .int 0, .int 0])), ((g702 2), .inl (cA703, 1201, .inl (fun _ => 0))), ((g702 0), .inl (cA701, 1201, .inl (upd (fun _ => 0) (0 : Int32).toNatClampNeg 264))), ((g702 1), .inl (cA702, 1201, .inl (upd (fun _ => 0) (0 : Int32).toNatClampNeg 0)))] := hD
  refine W.widen (k := 0) (n := 0) (by decide) (by decide) ?_
  refine lv_aload_n hx hb dX9_keep_24 rfl (lv_at hl 0 rfl) ?_
  refine va_get (D := (dC, dI)) (ci := 9) (v := .ref (g702 2)) (C := RX9) (T := TX9) (N := 7) hx hb hts in_k_X9_keep_0_9 hown hK hP 0 rfl rfl 2 (by decide) (hts (.fieldLink RX9 18 "LineKeeper$Tokens" "places" "[I") (List.mem_of_getElem? (i := 8) rfl)) (fun _ h9 => h9) rfl dX9_keep_25 ?_
  refine lv_iload_n hx hb dX9_keep_28 rfl (lv_at hl 1 rfl) ?_
  refine lv_aload_n hx hb dX9_keep_29 rfl (lv_at hl 0 rfl) ?_
  refine va_get (D := (dC, dI)) (ci := 9) (v := .int 0) (C := RX9) (T := TX9) (N := 7) hx hb hts in_k_X9_keep_0_9 hown hK hP 0 rfl rfl 6 (by decide) (hts (.fieldLink RX9 34 "LineKeeper$Tokens" "place" "I") (List.mem_of_getElem? (i := 9) rfl)) (fun _ h9 => h9) rfl dX9_keep_30 ?_
  have hPc := hP.sub (ws' := [((g702 2), .inl (cA703, 1201, .inl (fun _ => 0)))]) [1] rfl
  have hDc := hD.sub (ws' := [((g702 2), .inl (cA703, 1201, .inl (fun _ => 0)))]) [1] (by decide) rfl
  have hKc := hK.sub (tys' := [(cA703, .int)]) [2] rfl
  have hFc := va_free (wc := [((g702 2), .inl (cA703, 1201, .inl (fun _ => 0)))]) hD hS hA [1] rfl
  refine va_callv (va_runSN (As := [.ref (g702 2), .int 0, .int 0]) (rest := []) ⟨hx, hb, hml, hown, hts⟩ (k_X11_put_2 l dC dI g702 cA703 H.size ) ⟨(va_cnB (host := "LineKeeper") 3 hts g_k_X9_keep_0_k_X11_put_2_51 rfl rfl rfl (hN.1 (RX9, 51, yX11_put, "LineKeeper") (List.mem_of_getElem? (i := 6) rfl)) (hts (.initialized RX11) (List.mem_of_getElem? (i := 4) rfl)) (by decide +kernel) ⟨(Nat.le_of_ble_eq_true rfl), (Nat.le_of_ble_eq_true rfl)⟩), (hts (.static yX11_put) (List.mem_of_getElem? (i := 5) rfl)), trivial⟩ (vx_preS hPc hKc hDc hN) rfl rfl hl.1 rfl (lv_room (Nat.le_of_ble_eq_true rfl)) dX9_keep_33 ⟨(Nat.le_of_ble_eq_true rfl), (Nat.le_of_ble_eq_true rfl)⟩) hS (fun q _ h => hFc q h) hFc (fun u t H1 locs ht hvm hw hB hz1 hk1 hS => ?_)
  obtain ⟨hP1, hK1, hD1⟩ := hB
  rw [ht] at hP1
  obtain ⟨hP, hD⟩ := va_join (wr := [((g701 0), .inr (9, [.ref (g702 0), .ref (g702 1), .ref (g702 2), .int 0, .int 264, .int 0, .int 0])), ((g702 0), .inl (cA701, 1201, .inl (upd (fun _ => 0) (0 : Int32).toNatClampNeg 264))), ((g702 1), .inl (cA702, 1201, .inl (upd (fun _ => 0) (0 : Int32).toNatClampNeg 0)))]) (w1 := [((g702 2), .inl (cA703, 1201, .inl (upd (fun _ => 0) (0 : Int32).toNatClampNeg 0)))]) hP hD [1] [0, 2, 3] rfl rfl (by decide) (by decide) hk1 hFc hP1 hD1
  generalize H1 = H at hP hS ⊢
  have hP : va_P (dC, dI) vwCl [((g701 0), .inr (9, [.ref (g702 0), .ref (g702 1), .ref (g702 2), .int 0, .int 264, .int 0, .int 0])), ((g702 0), .inl (cA701, 1201, .inl (upd (fun _ => 0) (0 : Int32).toNatClampNeg 264))), ((g702 1), .inl (cA702, 1201, .inl (upd (fun _ => 0) (0 : Int32).toNatClampNeg 0))), ((g702 2), .inl (cA703, 1201, .inl (upd (fun _ => 0) (0 : Int32).toNatClampNeg 0)))] H := hP
  have hD : va_D A [((g701 0), .inr (9, [.ref (g702 0), .ref (g702 1), .ref (g702 2), .int 0, .int 264, .int 0, .int 0])), ((g702 0), .inl (cA701, 1201, .inl (upd (fun _ => 0) (0 : Int32).toNatClampNeg 264))), ((g702 1), .inl (cA702, 1201, .inl (upd (fun _ => 0) (0 : Int32).toNatClampNeg 0))), ((g702 2), .inl (cA703, 1201, .inl (upd (fun _ => 0) (0 : Int32).toNatClampNeg 0)))] := hD
  refine W.widen (k := 0) (n := 0) (by decide) (by decide) ?_
  have hP9 := hP.sub (ws' := [((g701 0), .inr (9, [.ref (g702 0), .ref (g702 1), .ref (g702 2), .int 0, .int 264, .int 0, .int 0])), ((g702 0), .inl (cA701, 1201, .inl (upd (fun _ => 0) (0 : Int32).toNatClampNeg 264))), ((g702 1), .inl (cA702, 1201, .inl (upd (fun _ => 0) (0 : Int32).toNatClampNeg 0))), ((g702 2), .inl (cA703, 1201, .inl (upd (fun _ => 0) (0 : Int32).toNatClampNeg 0)))]) [0, 1, 2, 3] rfl
  have hD9 := hD.sub (ws' := [((g701 0), .inr (9, [.ref (g702 0), .ref (g702 1), .ref (g702 2), .int 0, .int 264, .int 0, .int 0])), ((g702 0), .inl (cA701, 1201, .inl (upd (fun _ => 0) (0 : Int32).toNatClampNeg 264))), ((g702 1), .inl (cA702, 1201, .inl (upd (fun _ => 0) (0 : Int32).toNatClampNeg 0))), ((g702 2), .inl (cA703, 1201, .inl (upd (fun _ => 0) (0 : Int32).toNatClampNeg 0)))]) [0, 1, 2, 3] (by decide) rfl
  have hK9 := hK.sub (tys' := [(cA701, .int), (cA702, .int), (cA703, .int)]) [0, 1, 2] rfl
  exact W.vret hx hb hr (fun t ht hW => ⟨⟨(), rfl, trivial, by rw [ht]; exact hP9, va_K.moved hW.alike hK9, hD9⟩, hS.F ht⟩) hS.2.2 dX9_keep_36

def w_k_X9_next_0 : List Cond := .code yX9_next cX9_next 1 none :: ([.fieldLink RX9 45 "LineKeeper$Tokens" "index" "I", .fieldLink RX9 9 "LineKeeper$Tokens" "kinds" "[I", .fieldLink RX9 15 "LineKeeper$Tokens" "numbers" "[I", .fieldLink RX9 18 "LineKeeper$Tokens" "places" "[I", .fieldLink RX9 30 "LineKeeper$Tokens" "kind" "I", .fieldLink RX9 55 "LineKeeper$Tokens" "number" "I", .fieldLink RX9 34 "LineKeeper$Tokens" "place" "I"] ++ wsX90)
theorem in_k_X9_next_0_9 : ∀ w ∈ wsX90, w ∈ w_k_X9_next_0 := fun _ h => List.mem_cons_of_mem _ (List.mem_append_right _ h)
set_option maxHeartbeats 4000000 in
set_option maxRecDepth 100000 in
theorem k_X9_next_0 (l : Launch) (dC : Nat → ClassId) (dI : Nat → Nat → Nat) (g701 : Nat → Nat) (g702 : Nat → Nat) (cA701 : ClassId) (cA702 : ClassId) (cA703 : ClassId) (sz : Nat) : Met l yX9_next w_k_X9_next_0 { frames := 0, cells := 0, slots := 0, locals := 0 } (va_Pc [.ref (g701 0)] (vx_pre dC dI [((g701 0), .inr (9, [.ref (g702 0), .ref (g702 1), .ref (g702 2), .int (-1), .int 264, .int 0, .int 0])), ((g702 0), .inl (cA701, 1201, .inl (upd (fun _ => 0) (0 : Int32).toNatClampNeg 264))), ((g702 1), .inl (cA702, 1201, .inl (upd (fun _ => 0) (0 : Int32).toNatClampNeg 0))), ((g702 2), .inl (cA703, 1201, .inl (upd (fun _ => 0) (0 : Int32).toNatClampNeg 0)))] [(cA701, .int), (cA702, .int), (cA703, .int)] sz)) (va_Qv (fun _ : Unit => True) (fun _ t => vx_B dC dI (va_A [((g701 0), .inr (9, [.ref (g702 0), .ref (g702 1), .ref (g702 2), .int (-1), .int 264, .int 0, .int 0])), ((g702 0), .inl (cA701, 1201, .inl (upd (fun _ => 0) (0 : Int32).toNatClampNeg 264))), ((g702 1), .inl (cA702, 1201, .inl (upd (fun _ => 0) (0 : Int32).toNatClampNeg 0))), ((g702 2), .inl (cA703, 1201, .inl (upd (fun _ => 0) (0 : Int32).toNatClampNeg 0)))] sz) [((g701 0), .inr (9, [.ref (g702 0), .ref (g702 1), .ref (g702 2), .int 0, .int 264, .int 0, .int 0])), ((g702 0), .inl (cA701, 1201, .inl (upd (fun _ => 0) (0 : Int32).toNatClampNeg 264))), ((g702 1), .inl (cA702, 1201, .inl (upd (fun _ => 0) (0 : Int32).toNatClampNeg 0))), ((g702 2), .inl (cA703, 1201, .inl (upd (fun _ => 0) (0 : Int32).toNatClampNeg 0)))] [(cA701, .int), (cA702, .int), (cA703, .int)] t) (va_A [((g701 0), .inr (9, [.ref (g702 0), .ref (g702 1), .ref (g702 2), .int (-1), .int 264, .int 0, .int 0])), ((g702 0), .inl (cA701, 1201, .inl (upd (fun _ => 0) (0 : Int32).toNatClampNeg 264))), ((g702 1), .inl (cA702, 1201, .inl (upd (fun _ => 0) (0 : Int32).toNatClampNeg 0))), ((g702 2), .inl (cA703, 1201, .inl (upd (fun _ => 0) (0 : Int32).toNatClampNeg 0)))] sz)) 0 0 (va_A [((g701 0), .inr (9, [.ref (g702 0), .ref (g702 1), .ref (g702 2), .int (-1), .int 264, .int 0, .int 0])), ((g702 0), .inl (cA701, 1201, .inl (upd (fun _ => 0) (0 : Int32).toNatClampNeg 264))), ((g702 1), .inl (cA702, 1201, .inl (upd (fun _ => 0) (0 : Int32).toNatClampNeg 0))), ((g702 2), .inl (cA703, 1201, .inl (upd (fun _ => 0) (0 : Int32).toNatClampNeg 0)))] sz) := by
  refine Met.ofW (cc := cX9_next) (maxL := 1) (ret := none) (by decide) rfl ?_
  intro p e s m args below meth c s₁ B hml hv
  obtain ⟨rfl, hsz, hP, hK, hD0, hN⟩ := hv
  have hx := B.exec
  have hb := B.bytes
  have hr := B.returns
  have hts := atoms_spec (ws := w_k_X9_next_0) B.pre
  have hown : s.vm.findClass RX9 = some m.cls := findClass_of_methodNamed B.named
  have hlocks := B.notSynchronized
  subst hsz
  have hD := hD0.self (sz := s.heap.size)
  generalize hAe : va_A [((g701 0), .inr (9, [.ref (g702 0), .ref (g702 1), .ref (g702 2), .int (-1), .int 264, .int 0, .int 0])), ((g702 0), .inl (cA701, 1201, .inl (upd (fun _ => 0) (0 : Int32).toNatClampNeg 264))), ((g702 1), .inl (cA702, 1201, .inl (upd (fun _ => 0) (0 : Int32).toNatClampNeg 0))), ((g702 2), .inl (cA703, 1201, .inl (upd (fun _ => 0) (0 : Int32).toNatClampNeg 0)))] s.heap.size = A at hD ⊢
  have hA : ∀ q : Nat, s.heap.size ≤ q → A q := fun q h => by rw [← hAe]; exact Or.inr h
  obtain ⟨H, hHe⟩ : ∃ H, H = s.heap := ⟨_, rfl⟩
  rw [← hHe] at hP ⊢
  have hS : va_S A s.heap H [] := by rw [hHe]; exact va_S.rf
  have hl := lv_entry [.ref (g701 0)] (n := 1) (Nat.le_of_ble_eq_true rfl)
  rw [lg_entry_eq]
  generalize (lg_sl [.ref (g701 0)] ++ List.replicate (1 - (lg_sl [.ref (g701 0)]).length) Slot.unset).toArray = ls at hl ⊢
  have hl : lv_has ls 1 [(0, .ref (g701 0))] := hl
  refine lv_aload_n hx hb dX9_next_0 rfl (lv_at hl 0 rfl) ?_
  refine va_get (D := (dC, dI)) (ci := 9) (v := .int (-1)) (C := RX9) (T := TX9) (N := 7) hx hb hts in_k_X9_next_0_9 hown hK hP 0 rfl rfl 3 (by decide) (hts (.fieldLink RX9 45 "LineKeeper$Tokens" "index" "I") (List.mem_of_getElem? (i := 1) rfl)) (fun _ h9 => h9) rfl dX9_next_1 ?_
  refine lv_iconst (v := 1) hx hb dX9_next_4 (by decide) ?_
  refine lv_iadd hx hb dX9_next_5 ?_
  refine vx_topc (v := 0) (by decide) ?_
  refine lv_aload_n hx hb dX9_next_6 rfl (lv_at hl 0 rfl) ?_
  refine va_get (D := (dC, dI)) (ci := 9) (v := .ref (g702 0)) (C := RX9) (T := TX9) (N := 7) hx hb hts in_k_X9_next_0_9 hown hK hP 0 rfl rfl 0 (by decide) (hts (.fieldLink RX9 9 "LineKeeper$Tokens" "kinds" "[I") (List.mem_of_getElem? (i := 2) rfl)) (fun _ h9 => h9) rfl dX9_next_7 ?_
  refine va_alen (v := 1201) hx hb hK hP 1 0 rfl rfl rfl dX9_next_10 ?_
  refine lv_icmp_ge (tgt := 118) hx hb dX9_next_11 (by decide) (fun h => absurd h (by decide)) (fun _ => ?_)
  refine lv_aload_n hx hb dX9_next_14 rfl (lv_at hl 0 rfl) ?_
  refine va_get (D := (dC, dI)) (ci := 9) (v := .int (-1)) (C := RX9) (T := TX9) (N := 7) hx hb hts in_k_X9_next_0_9 hown hK hP 0 rfl rfl 3 (by decide) (hts (.fieldLink RX9 45 "LineKeeper$Tokens" "index" "I") (List.mem_of_getElem? (i := 1) rfl)) (fun _ h9 => h9) rfl dX9_next_15 ?_
  refine lv_iconst (v := 1) hx hb dX9_next_18 (by decide) ?_
  refine lv_iadd hx hb dX9_next_19 ?_
  refine vx_topc (v := 0) (by decide) ?_
  refine lv_aload_n hx hb dX9_next_20 rfl (lv_at hl 0 rfl) ?_
  refine va_get (D := (dC, dI)) (ci := 9) (v := .ref (g702 1)) (C := RX9) (T := TX9) (N := 7) hx hb hts in_k_X9_next_0_9 hown hK hP 0 rfl rfl 1 (by decide) (hts (.fieldLink RX9 15 "LineKeeper$Tokens" "numbers" "[I") (List.mem_of_getElem? (i := 3) rfl)) (fun _ h9 => h9) rfl dX9_next_21 ?_
  refine va_alen (v := 1201) hx hb hK hP 2 1 rfl rfl rfl dX9_next_24 ?_
  refine lv_icmp_ge (tgt := 118) hx hb dX9_next_25 (by decide) (fun h => absurd h (by decide)) (fun _ => ?_)
  refine lv_aload_n hx hb dX9_next_28 rfl (lv_at hl 0 rfl) ?_
  refine va_get (D := (dC, dI)) (ci := 9) (v := .int (-1)) (C := RX9) (T := TX9) (N := 7) hx hb hts in_k_X9_next_0_9 hown hK hP 0 rfl rfl 3 (by decide) (hts (.fieldLink RX9 45 "LineKeeper$Tokens" "index" "I") (List.mem_of_getElem? (i := 1) rfl)) (fun _ h9 => h9) rfl dX9_next_29 ?_
  refine lv_iconst (v := 1) hx hb dX9_next_32 (by decide) ?_
  refine lv_iadd hx hb dX9_next_33 ?_
  refine vx_topc (v := 0) (by decide) ?_
  refine lv_aload_n hx hb dX9_next_34 rfl (lv_at hl 0 rfl) ?_
  refine va_get (D := (dC, dI)) (ci := 9) (v := .ref (g702 2)) (C := RX9) (T := TX9) (N := 7) hx hb hts in_k_X9_next_0_9 hown hK hP 0 rfl rfl 2 (by decide) (hts (.fieldLink RX9 18 "LineKeeper$Tokens" "places" "[I") (List.mem_of_getElem? (i := 4) rfl)) (fun _ h9 => h9) rfl dX9_next_35 ?_
  refine va_alen (v := 1201) hx hb hK hP 3 2 rfl rfl rfl dX9_next_38 ?_
  refine lv_icmp_ge (tgt := 118) hx hb dX9_next_39 (by decide) (fun h => absurd h (by decide)) (fun _ => ?_)
  refine lv_aload_n hx hb dX9_next_42 rfl (lv_at hl 0 rfl) ?_
  refine va_get (D := (dC, dI)) (ci := 9) (v := .int (-1)) (C := RX9) (T := TX9) (N := 7) hx hb hts in_k_X9_next_0_9 hown hK hP 0 rfl rfl 3 (by decide) (hts (.fieldLink RX9 45 "LineKeeper$Tokens" "index" "I") (List.mem_of_getElem? (i := 1) rfl)) (fun _ h9 => h9) rfl dX9_next_43 ?_
  refine lv_if_lt (tgt := 69) hx hb dX9_next_46 (by decide) (fun _ => ?_) (fun h => absurd (by decide) h)
  refine lv_aload_n hx hb dX9_next_69 rfl (lv_at hl 0 rfl) ?_
  refine lv_dup hx hb dX9_next_70 rfl ?_
  refine va_get (D := (dC, dI)) (ci := 9) (v := .int (-1)) (C := RX9) (T := TX9) (N := 7) hx hb hts in_k_X9_next_0_9 hown hK hP 0 rfl rfl 3 (by decide) (hts (.fieldLink RX9 45 "LineKeeper$Tokens" "index" "I") (List.mem_of_getElem? (i := 1) rfl)) (fun _ h9 => h9) rfl dX9_next_71 ?_
  refine lv_iconst (v := 1) hx hb dX9_next_74 (by decide) ?_
  refine lv_iadd hx hb dX9_next_75 ?_
  refine vx_topc (v := 0) (by decide) ?_
  refine va_put (D := (dC, dI)) (ci := 9) (v := .int 0) (ty := .int) (C := RX9) (T := TX9) (N := 7) hx hb hts in_k_X9_next_0_9 tyX9 tyX9_ok nmX9 hown hK hP hD hS 0 rfl rfl 3 (by decide) (hts (.fieldLink RX9 45 "LineKeeper$Tokens" "index" "I") (List.mem_of_getElem? (i := 1) rfl)) (fun _ h9 => h9) rfl (tyX9_ok 3 (by decide)) rfl rfl (Nat.le_of_ble_eq_true rfl) dX9_next_76 (fun H locs hP hD hS => ?_)
  have hP : va_P (dC, dI) vwCl [((g701 0), .inr (9, [.ref (g702 0), .ref (g702 1), .ref (g702 2), .int 0, .int 264, .int 0, .int 0])), ((g702 0), .inl (cA701, 1201, .inl (upd (fun _ => 0) (0 : Int32).toNatClampNeg 264))), ((g702 1), .inl (cA702, 1201, .inl (upd (fun _ => 0) (0 : Int32).toNatClampNeg 0))), ((g702 2), .inl (cA703, 1201, .inl (upd (fun _ => 0) (0 : Int32).toNatClampNeg 0)))] H := hP
  have hD : va_D A [((g701 0), .inr (9, [.ref (g702 0), .ref (g702 1), .ref (g702 2), .int 0, .int 264, .int 0, .int 0])), ((g702 0), .inl (cA701, 1201, .inl (upd (fun _ => 0) (0 : Int32).toNatClampNeg 264))), ((g702 1), .inl (cA702, 1201, .inl (upd (fun _ => 0) (0 : Int32).toNatClampNeg 0))), ((g702 2), .inl (cA703, 1201, .inl (upd (fun _ => 0) (0 : Int32).toNatClampNeg 0)))] := hD
  refine lv_aload_n hx hb dX9_next_79 rfl (lv_at hl 0 rfl) ?_
  refine lv_aload_n hx hb dX9_next_80 rfl (lv_at hl 0 rfl) ?_
  refine va_get (D := (dC, dI)) (ci := 9) (v := .ref (g702 0)) (C := RX9) (T := TX9) (N := 7) hx hb hts in_k_X9_next_0_9 hown hK hP 0 rfl rfl 0 (by decide) (hts (.fieldLink RX9 9 "LineKeeper$Tokens" "kinds" "[I") (List.mem_of_getElem? (i := 2) rfl)) (fun _ h9 => h9) rfl dX9_next_81 ?_
  refine lv_aload_n hx hb dX9_next_84 rfl (lv_at hl 0 rfl) ?_
  refine va_get (D := (dC, dI)) (ci := 9) (v := .int 0) (C := RX9) (T := TX9) (N := 7) hx hb hts in_k_X9_next_0_9 hown hK hP 0 rfl rfl 3 (by decide) (hts (.fieldLink RX9 45 "LineKeeper$Tokens" "index" "I") (List.mem_of_getElem? (i := 1) rfl)) (fun _ h9 => h9) rfl dX9_next_85 ?_
  refine va_iald hx hb hK hP 1 0 rfl rfl (vx_in (by decide)) dX9_next_88 ?_
  refine vx_topc (v := 264) pk_us ?_
  refine va_put (D := (dC, dI)) (ci := 9) (v := .int 264) (ty := .int) (C := RX9) (T := TX9) (N := 7) hx hb hts in_k_X9_next_0_9 tyX9 tyX9_ok nmX9 hown hK hP hD hS 0 rfl rfl 4 (by decide) (hts (.fieldLink RX9 30 "LineKeeper$Tokens" "kind" "I") (List.mem_of_getElem? (i := 5) rfl)) (fun _ h9 => h9) rfl (tyX9_ok 4 (by decide)) rfl rfl (Nat.le_of_ble_eq_true rfl) dX9_next_89 (fun H locs hP hD hS => ?_)
  have hP : va_P (dC, dI) vwCl [((g701 0), .inr (9, [.ref (g702 0), .ref (g702 1), .ref (g702 2), .int 0, .int 264, .int 0, .int 0])), ((g702 0), .inl (cA701, 1201, .inl (upd (fun _ => 0) (0 : Int32).toNatClampNeg 264))), ((g702 1), .inl (cA702, 1201, .inl (upd (fun _ => 0) (0 : Int32).toNatClampNeg 0))), ((g702 2), .inl (cA703, 1201, .inl (upd (fun _ => 0) (0 : Int32).toNatClampNeg 0)))] H := hP
  have hD : va_D A [((g701 0), .inr (9, [.ref (g702 0), .ref (g702 1), .ref (g702 2), .int 0, .int 264, .int 0, .int 0])), ((g702 0), .inl (cA701, 1201, .inl (upd (fun _ => 0) (0 : Int32).toNatClampNeg 264))), ((g702 1), .inl (cA702, 1201, .inl (upd (fun _ => 0) (0 : Int32).toNatClampNeg 0))), ((g702 2), .inl (cA703, 1201, .inl (upd (fun _ => 0) (0 : Int32).toNatClampNeg 0)))] := hD
  refine lv_aload_n hx hb dX9_next_92 rfl (lv_at hl 0 rfl) ?_
  refine lv_aload_n hx hb dX9_next_93 rfl (lv_at hl 0 rfl) ?_
  refine va_get (D := (dC, dI)) (ci := 9) (v := .ref (g702 1)) (C := RX9) (T := TX9) (N := 7) hx hb hts in_k_X9_next_0_9 hown hK hP 0 rfl rfl 1 (by decide) (hts (.fieldLink RX9 15 "LineKeeper$Tokens" "numbers" "[I") (List.mem_of_getElem? (i := 3) rfl)) (fun _ h9 => h9) rfl dX9_next_94 ?_
  refine lv_aload_n hx hb dX9_next_97 rfl (lv_at hl 0 rfl) ?_
  refine va_get (D := (dC, dI)) (ci := 9) (v := .int 0) (C := RX9) (T := TX9) (N := 7) hx hb hts in_k_X9_next_0_9 hown hK hP 0 rfl rfl 3 (by decide) (hts (.fieldLink RX9 45 "LineKeeper$Tokens" "index" "I") (List.mem_of_getElem? (i := 1) rfl)) (fun _ h9 => h9) rfl dX9_next_98 ?_
  refine va_iald hx hb hK hP 2 1 rfl rfl (vx_in (by decide)) dX9_next_101 ?_
  refine vx_topc (v := 0) pk_us ?_
  refine va_put (D := (dC, dI)) (ci := 9) (v := .int 0) (ty := .int) (C := RX9) (T := TX9) (N := 7) hx hb hts in_k_X9_next_0_9 tyX9 tyX9_ok nmX9 hown hK hP hD hS 0 rfl rfl 5 (by decide) (hts (.fieldLink RX9 55 "LineKeeper$Tokens" "number" "I") (List.mem_of_getElem? (i := 6) rfl)) (fun _ h9 => h9) rfl (tyX9_ok 5 (by decide)) rfl rfl (Nat.le_of_ble_eq_true rfl) dX9_next_102 (fun H locs hP hD hS => ?_)
  have hP : va_P (dC, dI) vwCl [((g701 0), .inr (9, [.ref (g702 0), .ref (g702 1), .ref (g702 2), .int 0, .int 264, .int 0, .int 0])), ((g702 0), .inl (cA701, 1201, .inl (upd (fun _ => 0) (0 : Int32).toNatClampNeg 264))), ((g702 1), .inl (cA702, 1201, .inl (upd (fun _ => 0) (0 : Int32).toNatClampNeg 0))), ((g702 2), .inl (cA703, 1201, .inl (upd (fun _ => 0) (0 : Int32).toNatClampNeg 0)))] H := hP
  have hD : va_D A [((g701 0), .inr (9, [.ref (g702 0), .ref (g702 1), .ref (g702 2), .int 0, .int 264, .int 0, .int 0])), ((g702 0), .inl (cA701, 1201, .inl (upd (fun _ => 0) (0 : Int32).toNatClampNeg 264))), ((g702 1), .inl (cA702, 1201, .inl (upd (fun _ => 0) (0 : Int32).toNatClampNeg 0))), ((g702 2), .inl (cA703, 1201, .inl (upd (fun _ => 0) (0 : Int32).toNatClampNeg 0)))] := hD
  refine lv_aload_n hx hb dX9_next_105 rfl (lv_at hl 0 rfl) ?_
  refine lv_aload_n hx hb dX9_next_106 rfl (lv_at hl 0 rfl) ?_
  refine va_get (D := (dC, dI)) (ci := 9) (v := .ref (g702 2)) (C := RX9) (T := TX9) (N := 7) hx hb hts in_k_X9_next_0_9 hown hK hP 0 rfl rfl 2 (by decide) (hts (.fieldLink RX9 18 "LineKeeper$Tokens" "places" "[I") (List.mem_of_getElem? (i := 4) rfl)) (fun _ h9 => h9) rfl dX9_next_107 ?_
  refine lv_aload_n hx hb dX9_next_110 rfl (lv_at hl 0 rfl) ?_
  refine va_get (D := (dC, dI)) (ci := 9) (v := .int 0) (C := RX9) (T := TX9) (N := 7) hx hb hts in_k_X9_next_0_9 hown hK hP 0 rfl rfl 3 (by decide) (hts (.fieldLink RX9 45 "LineKeeper$Tokens" "index" "I") (List.mem_of_getElem? (i := 1) rfl)) (fun _ h9 => h9) rfl dX9_next_111 ?_
  refine va_iald hx hb hK hP 3 2 rfl rfl (vx_in (by decide)) dX9_next_114 ?_
  refine vx_topc (v := 0) pk_us ?_
  refine va_put (D := (dC, dI)) (ci := 9) (v := .int 0) (ty := .int) (C := RX9) (T := TX9) (N := 7) hx hb hts in_k_X9_next_0_9 tyX9 tyX9_ok nmX9 hown hK hP hD hS 0 rfl rfl 6 (by decide) (hts (.fieldLink RX9 34 "LineKeeper$Tokens" "place" "I") (List.mem_of_getElem? (i := 7) rfl)) (fun _ h9 => h9) rfl (tyX9_ok 6 (by decide)) rfl rfl (Nat.le_of_ble_eq_true rfl) dX9_next_115 (fun H locs hP hD hS => ?_)
  have hP : va_P (dC, dI) vwCl [((g701 0), .inr (9, [.ref (g702 0), .ref (g702 1), .ref (g702 2), .int 0, .int 264, .int 0, .int 0])), ((g702 0), .inl (cA701, 1201, .inl (upd (fun _ => 0) (0 : Int32).toNatClampNeg 264))), ((g702 1), .inl (cA702, 1201, .inl (upd (fun _ => 0) (0 : Int32).toNatClampNeg 0))), ((g702 2), .inl (cA703, 1201, .inl (upd (fun _ => 0) (0 : Int32).toNatClampNeg 0)))] H := hP
  have hD : va_D A [((g701 0), .inr (9, [.ref (g702 0), .ref (g702 1), .ref (g702 2), .int 0, .int 264, .int 0, .int 0])), ((g702 0), .inl (cA701, 1201, .inl (upd (fun _ => 0) (0 : Int32).toNatClampNeg 264))), ((g702 1), .inl (cA702, 1201, .inl (upd (fun _ => 0) (0 : Int32).toNatClampNeg 0))), ((g702 2), .inl (cA703, 1201, .inl (upd (fun _ => 0) (0 : Int32).toNatClampNeg 0)))] := hD
  have hP9 := hP.sub (ws' := [((g701 0), .inr (9, [.ref (g702 0), .ref (g702 1), .ref (g702 2), .int 0, .int 264, .int 0, .int 0])), ((g702 0), .inl (cA701, 1201, .inl (upd (fun _ => 0) (0 : Int32).toNatClampNeg 264))), ((g702 1), .inl (cA702, 1201, .inl (upd (fun _ => 0) (0 : Int32).toNatClampNeg 0))), ((g702 2), .inl (cA703, 1201, .inl (upd (fun _ => 0) (0 : Int32).toNatClampNeg 0)))]) [0, 1, 2, 3] rfl
  have hD9 := hD.sub (ws' := [((g701 0), .inr (9, [.ref (g702 0), .ref (g702 1), .ref (g702 2), .int 0, .int 264, .int 0, .int 0])), ((g702 0), .inl (cA701, 1201, .inl (upd (fun _ => 0) (0 : Int32).toNatClampNeg 264))), ((g702 1), .inl (cA702, 1201, .inl (upd (fun _ => 0) (0 : Int32).toNatClampNeg 0))), ((g702 2), .inl (cA703, 1201, .inl (upd (fun _ => 0) (0 : Int32).toNatClampNeg 0)))]) [0, 1, 2, 3] (by decide) rfl
  have hK9 := hK.sub (tys' := [(cA701, .int), (cA702, .int), (cA703, .int)]) [0, 1, 2] rfl
  exact W.vret hx hb hr (fun t ht hW => ⟨⟨(), rfl, trivial, by rw [ht]; exact hP9, va_K.moved hW.alike hK9, hD9⟩, hS.F ht⟩) hS.2.2 dX9_next_118

def w_k_X9_scan_0 : List Cond := .code yX9_scan cX9_scan 6 none :: ([.methodLink RX9 21 Lib.Math.min.name, .static Lib.Math.min.name, .initialized "java/lang/Math", .code Lib.Math.min.name Lib.Math.min.code 2 (some .int), .methodLink RX9 27 Lib.Math.max.name, .static Lib.Math.max.name, .code Lib.Math.max.name Lib.Math.max.code 2 (some .int), .fieldLink RX9 30 "LineKeeper$Tokens" "kind" "I", .fieldLink RX9 34 "LineKeeper$Tokens" "place" "I", .fieldLink RX9 9 "LineKeeper$Tokens" "kinds" "[I", .code yX11_put cX11_put 3 none, .initialized RX11, .static yX11_put, .fieldLink RX9 15 "LineKeeper$Tokens" "numbers" "[I", .fieldLink RX9 55 "LineKeeper$Tokens" "number" "I", .fieldLink RX9 18 "LineKeeper$Tokens" "places" "[I", .code yX9_keep cX9_keep 2 none, .initialized RX9, .methodLink RX9 41 yX9_keep, .instanceMethod yX9_keep, .selects RX9 yX9_keep yX9_keep, .fieldLink RX9 45 "LineKeeper$Tokens" "index" "I", .code yX9_next cX9_next 1 none, .methodLink RX9 48 yX9_next, .instanceMethod yX9_next, .selects RX9 yX9_next yX9_next] ++ wsX90)
theorem in_k_X9_scan_0_9 : ∀ w ∈ wsX90, w ∈ w_k_X9_scan_0 := fun _ h => List.mem_cons_of_mem _ (List.mem_append_right _ h)
set_option maxRecDepth 100000 in
theorem g_k_X9_scan_0_k_X9_keep_0_41 : GoodIn w_k_X9_scan_0 (wsV RX9 41 RX9 yX9_keep w_k_X9_keep_0) := goodIn_r _ [19, 20, 21, 18, 17, 10, 8, 11, 12, 13, 14, 15, 16, 9, 27, 28, 29, 30, 31, 32, 33] (by decide +kernel) (by decide +kernel)
set_option maxRecDepth 100000 in
theorem g_k_X9_scan_0_k_X9_next_0_48 : GoodIn w_k_X9_scan_0 (wsV RX9 48 RX9 yX9_next w_k_X9_next_0) := goodIn_r _ [24, 25, 26, 18, 23, 22, 10, 14, 16, 8, 15, 9, 27, 28, 29, 30, 31, 32, 33] (by decide +kernel) (by decide +kernel)
set_option maxHeartbeats 4000000 in
set_option maxRecDepth 100000 in
theorem k_X9_scan_0 (l : Launch) (dC : Nat → ClassId) (dI : Nat → Nat → Nat) (g701 : Nat → Nat) (g702 : Nat → Nat) (g703 : Nat → Nat) (cA701 : ClassId) (cA702 : ClassId) (cA703 : ClassId) (cA704 : ClassId) (sz : Nat) : Met l yX9_scan w_k_X9_scan_0 { frames := 2, cells := 0, slots := 0, locals := 43 } (va_Pc [.ref (g701 0), .ref (g702 0), .int 0] (vx_pre dC dI [((g701 0), .inr (9, [.ref (g703 0), .ref (g703 1), .ref (g703 2), .int 0, .int 0, .int 0, .int 0])), ((g703 0), .inl (cA701, 1201, .inl (fun _ => 0))), ((g703 1), .inl (cA702, 1201, .inl (fun _ => 0))), ((g703 2), .inl (cA703, 1201, .inl (fun _ => 0))), ((g702 0), .inl (cA704, 1200, .inl (fun _ => 0)))] [(cA701, .int), (cA702, .int), (cA703, .int), (cA704, .byte)] sz)) (va_Qv (fun _ : Unit => True) (fun _ t => vx_B dC dI (va_A [((g701 0), .inr (9, [.ref (g703 0), .ref (g703 1), .ref (g703 2), .int 0, .int 0, .int 0, .int 0])), ((g703 0), .inl (cA701, 1201, .inl (fun _ => 0))), ((g703 1), .inl (cA702, 1201, .inl (fun _ => 0))), ((g703 2), .inl (cA703, 1201, .inl (fun _ => 0))), ((g702 0), .inl (cA704, 1200, .inl (fun _ => 0)))] sz) [((g701 0), .inr (9, [.ref (g703 0), .ref (g703 1), .ref (g703 2), .int 0, .int 264, .int 0, .int 0])), ((g703 0), .inl (cA701, 1201, .inl (upd (fun _ => 0) (0 : Int32).toNatClampNeg 264))), ((g703 1), .inl (cA702, 1201, .inl (upd (fun _ => 0) (0 : Int32).toNatClampNeg 0))), ((g703 2), .inl (cA703, 1201, .inl (upd (fun _ => 0) (0 : Int32).toNatClampNeg 0))), ((g702 0), .inl (cA704, 1200, .inl (fun _ => 0)))] [(cA701, .int), (cA702, .int), (cA703, .int), (cA704, .byte)] t) (va_A [((g701 0), .inr (9, [.ref (g703 0), .ref (g703 1), .ref (g703 2), .int 0, .int 0, .int 0, .int 0])), ((g703 0), .inl (cA701, 1201, .inl (fun _ => 0))), ((g703 1), .inl (cA702, 1201, .inl (fun _ => 0))), ((g703 2), .inl (cA703, 1201, .inl (fun _ => 0))), ((g702 0), .inl (cA704, 1200, .inl (fun _ => 0)))] sz)) 0 0 (va_A [((g701 0), .inr (9, [.ref (g703 0), .ref (g703 1), .ref (g703 2), .int 0, .int 0, .int 0, .int 0])), ((g703 0), .inl (cA701, 1201, .inl (fun _ => 0))), ((g703 1), .inl (cA702, 1201, .inl (fun _ => 0))), ((g703 2), .inl (cA703, 1201, .inl (fun _ => 0))), ((g702 0), .inl (cA704, 1200, .inl (fun _ => 0)))] sz) := by
  refine Met.ofW (cc := cX9_scan) (maxL := 6) (ret := none) (by decide) rfl ?_
  intro p e s m args below meth c s₁ B hml hv
  obtain ⟨rfl, hsz, hP, hK, hD0, hN⟩ := hv
  have hx := B.exec
  have hb := B.bytes
  have hr := B.returns
  have hts := atoms_spec (ws := w_k_X9_scan_0) B.pre
  have hown : s.vm.findClass RX9 = some m.cls := findClass_of_methodNamed B.named
  have hlocks := B.notSynchronized
  subst hsz
  have hD := hD0.self (sz := s.heap.size)
  generalize hAe : va_A [((g701 0), .inr (9, [.ref (g703 0), .ref (g703 1), .ref (g703 2), .int 0, .int 0, .int 0, .int 0])), ((g703 0), .inl (cA701, 1201, .inl (fun _ => 0))), ((g703 1), .inl (cA702, 1201, .inl (fun _ => 0))), ((g703 2), .inl (cA703, 1201, .inl (fun _ => 0))), ((g702 0), .inl (cA704, 1200, .inl (fun _ => 0)))] s.heap.size = A at hD ⊢
  have hA : ∀ q : Nat, s.heap.size ≤ q → A q := fun q h => by rw [← hAe]; exact Or.inr h
  obtain ⟨H, hHe⟩ : ∃ H, H = s.heap := ⟨_, rfl⟩
  rw [← hHe] at hP ⊢
  have hS : va_S A s.heap H [] := by rw [hHe]; exact va_S.rf
  have hl := lv_entry [.ref (g701 0), .ref (g702 0), .int 0] (n := 6) (Nat.le_of_ble_eq_true rfl)
  rw [lg_entry_eq]
  generalize (lg_sl [.ref (g701 0), .ref (g702 0), .int 0] ++ List.replicate (6 - (lg_sl [.ref (g701 0), .ref (g702 0), .int 0]).length) Slot.unset).toArray = ls at hl ⊢
  have hl : lv_has ls 6 [(0, .ref (g701 0)), (1, .ref (g702 0)), (2, .int 0)] := hl
  refine lv_iconst (v := 0) hx hb dX9_scan_0 (by decide) ?_
  refine lv_iload_n hx hb dX9_scan_1 rfl (lv_at hl 2 rfl) ?_
  refine lv_aload_n hx hb dX9_scan_2 rfl (lv_at hl 1 rfl) ?_
  refine va_alen (v := 1200) hx hb hK hP 4 3 rfl rfl rfl dX9_scan_3 ?_
  refine va_mmin hx hb (by rw [hml]; exact hl.1.symm) hown (hts (.methodLink RX9 21 Lib.Math.min.name) (List.mem_of_getElem? (i := 1) rfl)) (hts (.static Lib.Math.min.name) (List.mem_of_getElem? (i := 2) rfl)) (hts (.initialized "java/lang/Math") (List.mem_of_getElem? (i := 3) rfl)) (hts (.code Lib.Math.min.name Lib.Math.min.code 2 (some .int)) (List.mem_of_getElem? (i := 4) rfl)) (Nat.le_of_ble_eq_true rfl) (Nat.le_of_ble_eq_true rfl) (Nat.le_of_ble_eq_true rfl) (Nat.le_of_ble_eq_true rfl) dX9_scan_4 ?_
  refine vx_topc (v := 0) (by decide) ?_
  refine va_mmax hx hb (by rw [hml]; exact hl.1.symm) hown (hts (.methodLink RX9 27 Lib.Math.max.name) (List.mem_of_getElem? (i := 5) rfl)) (hts (.static Lib.Math.max.name) (List.mem_of_getElem? (i := 6) rfl)) (hts (.initialized "java/lang/Math") (List.mem_of_getElem? (i := 3) rfl)) (hts (.code Lib.Math.max.name Lib.Math.max.code 2 (some .int)) (List.mem_of_getElem? (i := 7) rfl)) (Nat.le_of_ble_eq_true rfl) (Nat.le_of_ble_eq_true rfl) (Nat.le_of_ble_eq_true rfl) (Nat.le_of_ble_eq_true rfl) dX9_scan_7 ?_
  refine vx_topc (v := 0) (by decide) ?_
  refine lv_istore_n (lv' := [(3, .int 0), (0, .ref (g701 0)), (1, .ref (g702 0)), (2, .int 0)]) hx hb dX9_scan_10 rfl hl (by decide) rfl (fun ls hl => ?_)
  refine lv_iconst (v := 0) hx hb dX9_scan_11 (by decide) ?_
  refine lv_istore (lv' := [(4, .int 0), (3, .int 0), (0, .ref (g701 0)), (1, .ref (g702 0)), (2, .int 0)]) hx hb dX9_scan_12 hl (by decide) rfl (fun ls hl => ?_)
  refine lv_iconst (v := 0) hx hb dX9_scan_14 (by decide) ?_
  refine lv_istore (lv' := [(5, .int 0), (4, .int 0), (3, .int 0), (0, .ref (g701 0)), (1, .ref (g702 0)), (2, .int 0)]) hx hb dX9_scan_15 hl (by decide) rfl (fun ls hl => ?_)
  refine lv_aload_n hx hb dX9_scan_17 rfl (lv_at hl 3 rfl) ?_
  refine lv_sipush (v := 264) hx hb dX9_scan_18 (by decide) ?_
  refine va_put (D := (dC, dI)) (ci := 9) (v := .int 264) (ty := .int) (C := RX9) (T := TX9) (N := 7) hx hb hts in_k_X9_scan_0_9 tyX9 tyX9_ok nmX9 hown hK hP hD hS 0 rfl rfl 4 (by decide) (hts (.fieldLink RX9 30 "LineKeeper$Tokens" "kind" "I") (List.mem_of_getElem? (i := 8) rfl)) (fun _ h9 => h9) rfl (tyX9_ok 4 (by decide)) rfl rfl (Nat.le_of_ble_eq_true rfl) dX9_scan_21 (fun H locs hP hD hS => ?_)
  have hP : va_P (dC, dI) vwCl [((g701 0), .inr (9, [.ref (g703 0), .ref (g703 1), .ref (g703 2), .int 0, .int 264, .int 0, .int 0])), ((g703 0), .inl (cA701, 1201, .inl (fun _ => 0))), ((g703 1), .inl (cA702, 1201, .inl (fun _ => 0))), ((g703 2), .inl (cA703, 1201, .inl (fun _ => 0))), ((g702 0), .inl (cA704, 1200, .inl (fun _ => 0)))] H := hP
  have hD : va_D A [((g701 0), .inr (9, [.ref (g703 0), .ref (g703 1), .ref (g703 2), .int 0, .int 264, .int 0, .int 0])), ((g703 0), .inl (cA701, 1201, .inl (fun _ => 0))), ((g703 1), .inl (cA702, 1201, .inl (fun _ => 0))), ((g703 2), .inl (cA703, 1201, .inl (fun _ => 0))), ((g702 0), .inl (cA704, 1200, .inl (fun _ => 0)))] := hD
  refine lv_iload hx hb dX9_scan_24 (lv_at hl 0 rfl) ?_
  refine lv_iload_n hx hb dX9_scan_26 rfl (lv_at hl 2 rfl) ?_
  refine lv_icmp_ge (tgt := 92) hx hb dX9_scan_27 (by decide) (fun _ => ?_) (fun h => absurd (by decide) h)
  refine lv_aload_n hx hb dX9_scan_92 rfl (lv_at hl 3 rfl) ?_
  refine va_get (D := (dC, dI)) (ci := 9) (v := .int 264) (C := RX9) (T := TX9) (N := 7) hx hb hts in_k_X9_scan_0_9 hown hK hP 0 rfl rfl 4 (by decide) (hts (.fieldLink RX9 30 "LineKeeper$Tokens" "kind" "I") (List.mem_of_getElem? (i := 8) rfl)) (fun _ h9 => h9) rfl dX9_scan_93 ?_
  refine lv_sipush (v := 263) hx hb dX9_scan_96 (by decide) ?_
  refine lv_icmp_eq (tgt := 120) hx hb dX9_scan_99 (by decide) (fun h => absurd h (by decide)) (fun _ => ?_)
  refine lv_aload_n hx hb dX9_scan_102 rfl (lv_at hl 3 rfl) ?_
  refine lv_sipush (v := 264) hx hb dX9_scan_103 (by decide) ?_
  refine va_put (D := (dC, dI)) (ci := 9) (v := .int 264) (ty := .int) (C := RX9) (T := TX9) (N := 7) hx hb hts in_k_X9_scan_0_9 tyX9 tyX9_ok nmX9 hown hK hP hD hS 0 rfl rfl 4 (by decide) (hts (.fieldLink RX9 30 "LineKeeper$Tokens" "kind" "I") (List.mem_of_getElem? (i := 8) rfl)) (fun _ h9 => h9) rfl (tyX9_ok 4 (by decide)) rfl rfl (Nat.le_of_ble_eq_true rfl) dX9_scan_106 (fun H locs hP hD hS => ?_)
  have hP : va_P (dC, dI) vwCl [((g701 0), .inr (9, [.ref (g703 0), .ref (g703 1), .ref (g703 2), .int 0, .int 264, .int 0, .int 0])), ((g703 0), .inl (cA701, 1201, .inl (fun _ => 0))), ((g703 1), .inl (cA702, 1201, .inl (fun _ => 0))), ((g703 2), .inl (cA703, 1201, .inl (fun _ => 0))), ((g702 0), .inl (cA704, 1200, .inl (fun _ => 0)))] H := hP
  have hD : va_D A [((g701 0), .inr (9, [.ref (g703 0), .ref (g703 1), .ref (g703 2), .int 0, .int 264, .int 0, .int 0])), ((g703 0), .inl (cA701, 1201, .inl (fun _ => 0))), ((g703 1), .inl (cA702, 1201, .inl (fun _ => 0))), ((g703 2), .inl (cA703, 1201, .inl (fun _ => 0))), ((g702 0), .inl (cA704, 1200, .inl (fun _ => 0)))] := hD
  refine lv_aload_n hx hb dX9_scan_109 rfl (lv_at hl 3 rfl) ?_
  refine lv_iload_n hx hb dX9_scan_110 rfl (lv_at hl 2 rfl) ?_
  refine va_put (D := (dC, dI)) (ci := 9) (v := .int 0) (ty := .int) (C := RX9) (T := TX9) (N := 7) hx hb hts in_k_X9_scan_0_9 tyX9 tyX9_ok nmX9 hown hK hP hD hS 0 rfl rfl 6 (by decide) (hts (.fieldLink RX9 34 "LineKeeper$Tokens" "place" "I") (List.mem_of_getElem? (i := 9) rfl)) (fun _ h9 => h9) rfl (tyX9_ok 6 (by decide)) rfl rfl (Nat.le_of_ble_eq_true rfl) dX9_scan_111 (fun H locs hP hD hS => ?_)
  have hP : va_P (dC, dI) vwCl [((g701 0), .inr (9, [.ref (g703 0), .ref (g703 1), .ref (g703 2), .int 0, .int 264, .int 0, .int 0])), ((g703 0), .inl (cA701, 1201, .inl (fun _ => 0))), ((g703 1), .inl (cA702, 1201, .inl (fun _ => 0))), ((g703 2), .inl (cA703, 1201, .inl (fun _ => 0))), ((g702 0), .inl (cA704, 1200, .inl (fun _ => 0)))] H := hP
  have hD : va_D A [((g701 0), .inr (9, [.ref (g703 0), .ref (g703 1), .ref (g703 2), .int 0, .int 264, .int 0, .int 0])), ((g703 0), .inl (cA701, 1201, .inl (fun _ => 0))), ((g703 1), .inl (cA702, 1201, .inl (fun _ => 0))), ((g703 2), .inl (cA703, 1201, .inl (fun _ => 0))), ((g702 0), .inl (cA704, 1200, .inl (fun _ => 0)))] := hD
  refine lv_aload_n hx hb dX9_scan_114 rfl (lv_at hl 3 rfl) ?_
  refine lv_iload hx hb dX9_scan_115 (lv_at hl 1 rfl) ?_
  have hPc := hP.sub (ws' := [((g701 0), .inr (9, [.ref (g703 0), .ref (g703 1), .ref (g703 2), .int 0, .int 264, .int 0, .int 0])), ((g703 0), .inl (cA701, 1201, .inl (fun _ => 0))), ((g703 1), .inl (cA702, 1201, .inl (fun _ => 0))), ((g703 2), .inl (cA703, 1201, .inl (fun _ => 0)))]) [0, 1, 2, 3] rfl
  have hDc := hD.sub (ws' := [((g701 0), .inr (9, [.ref (g703 0), .ref (g703 1), .ref (g703 2), .int 0, .int 264, .int 0, .int 0])), ((g703 0), .inl (cA701, 1201, .inl (fun _ => 0))), ((g703 1), .inl (cA702, 1201, .inl (fun _ => 0))), ((g703 2), .inl (cA703, 1201, .inl (fun _ => 0)))]) [0, 1, 2, 3] (by decide) rfl
  have hKc := hK.sub (tys' := [(cA701, .int), (cA702, .int), (cA703, .int)]) [0, 1, 2] rfl
  have hFc := va_free (wc := [((g701 0), .inr (9, [.ref (g703 0), .ref (g703 1), .ref (g703 2), .int 0, .int 264, .int 0, .int 0])), ((g703 0), .inl (cA701, 1201, .inl (fun _ => 0))), ((g703 1), .inl (cA702, 1201, .inl (fun _ => 0))), ((g703 2), .inl (cA703, 1201, .inl (fun _ => 0)))]) hD hS hA [0, 1, 2, 3] rfl
  refine va_callv (va_runV (As := [.int 0]) (rest := []) ⟨hx, hb, hml, hown, hts⟩ (k_X9_keep_0 l dC dI g701 g703 cA701 cA702 cA703 H.size ) (cwV 1 hts g_k_X9_scan_0_k_X9_keep_0_41 rfl rfl rfl (by decide +kernel) ⟨(Nat.le_of_ble_eq_true rfl), (Nat.le_of_ble_eq_true rfl)⟩) (vx_preV (ci := 9) (q0 := 0) hPc hKc hDc hN rfl rfl) rfl rfl hl.1 rfl (lv_room (Nat.le_of_ble_eq_true rfl)) dX9_scan_117 ⟨(Nat.le_of_ble_eq_true rfl), (Nat.le_of_ble_eq_true rfl)⟩) hS (fun q _ h => hFc q h) hFc (fun u t H1 locs ht hvm hw hB hz1 hk1 hS => ?_)
  obtain ⟨hP1, hK1, hD1⟩ := hB
  rw [ht] at hP1
  obtain ⟨hP, hD⟩ := va_join (wr := [((g702 0), .inl (cA704, 1200, .inl (fun _ => 0)))]) (w1 := [((g701 0), .inr (9, [.ref (g703 0), .ref (g703 1), .ref (g703 2), .int 0, .int 264, .int 0, .int 0])), ((g703 0), .inl (cA701, 1201, .inl (upd (fun _ => 0) (0 : Int32).toNatClampNeg 264))), ((g703 1), .inl (cA702, 1201, .inl (upd (fun _ => 0) (0 : Int32).toNatClampNeg 0))), ((g703 2), .inl (cA703, 1201, .inl (upd (fun _ => 0) (0 : Int32).toNatClampNeg 0)))]) hP hD [0, 1, 2, 3] [4] rfl rfl (by decide) (by decide) hk1 hFc hP1 hD1
  generalize H1 = H at hP hS ⊢
  have hP : va_P (dC, dI) vwCl [((g702 0), .inl (cA704, 1200, .inl (fun _ => 0))), ((g701 0), .inr (9, [.ref (g703 0), .ref (g703 1), .ref (g703 2), .int 0, .int 264, .int 0, .int 0])), ((g703 0), .inl (cA701, 1201, .inl (upd (fun _ => 0) (0 : Int32).toNatClampNeg 264))), ((g703 1), .inl (cA702, 1201, .inl (upd (fun _ => 0) (0 : Int32).toNatClampNeg 0))), ((g703 2), .inl (cA703, 1201, .inl (upd (fun _ => 0) (0 : Int32).toNatClampNeg 0)))] H := hP
  have hD : va_D A [((g702 0), .inl (cA704, 1200, .inl (fun _ => 0))), ((g701 0), .inr (9, [.ref (g703 0), .ref (g703 1), .ref (g703 2), .int 0, .int 264, .int 0, .int 0])), ((g703 0), .inl (cA701, 1201, .inl (upd (fun _ => 0) (0 : Int32).toNatClampNeg 264))), ((g703 1), .inl (cA702, 1201, .inl (upd (fun _ => 0) (0 : Int32).toNatClampNeg 0))), ((g703 2), .inl (cA703, 1201, .inl (upd (fun _ => 0) (0 : Int32).toNatClampNeg 0)))] := hD
  refine W.widen (k := 0) (n := 0) (by decide) (by decide) ?_
  refine lv_aload_n hx hb dX9_scan_120 rfl (lv_at hl 3 rfl) ?_
  refine lv_iconst (v := (-1)) hx hb dX9_scan_121 (by decide) ?_
  refine va_put (D := (dC, dI)) (ci := 9) (v := .int (-1)) (ty := .int) (C := RX9) (T := TX9) (N := 7) hx hb hts in_k_X9_scan_0_9 tyX9 tyX9_ok nmX9 hown hK hP hD hS 1 rfl rfl 3 (by decide) (hts (.fieldLink RX9 45 "LineKeeper$Tokens" "index" "I") (List.mem_of_getElem? (i := 22) rfl)) (fun _ h9 => h9) rfl (tyX9_ok 3 (by decide)) rfl rfl (Nat.le_of_ble_eq_true rfl) dX9_scan_122 (fun H locs hP hD hS => ?_)
  have hP : va_P (dC, dI) vwCl [((g702 0), .inl (cA704, 1200, .inl (fun _ => 0))), ((g701 0), .inr (9, [.ref (g703 0), .ref (g703 1), .ref (g703 2), .int (-1), .int 264, .int 0, .int 0])), ((g703 0), .inl (cA701, 1201, .inl (upd (fun _ => 0) (0 : Int32).toNatClampNeg 264))), ((g703 1), .inl (cA702, 1201, .inl (upd (fun _ => 0) (0 : Int32).toNatClampNeg 0))), ((g703 2), .inl (cA703, 1201, .inl (upd (fun _ => 0) (0 : Int32).toNatClampNeg 0)))] H := hP
  have hD : va_D A [((g702 0), .inl (cA704, 1200, .inl (fun _ => 0))), ((g701 0), .inr (9, [.ref (g703 0), .ref (g703 1), .ref (g703 2), .int (-1), .int 264, .int 0, .int 0])), ((g703 0), .inl (cA701, 1201, .inl (upd (fun _ => 0) (0 : Int32).toNatClampNeg 264))), ((g703 1), .inl (cA702, 1201, .inl (upd (fun _ => 0) (0 : Int32).toNatClampNeg 0))), ((g703 2), .inl (cA703, 1201, .inl (upd (fun _ => 0) (0 : Int32).toNatClampNeg 0)))] := hD
  refine lv_aload_n hx hb dX9_scan_125 rfl (lv_at hl 3 rfl) ?_
  have hPc := hP.sub (ws' := [((g701 0), .inr (9, [.ref (g703 0), .ref (g703 1), .ref (g703 2), .int (-1), .int 264, .int 0, .int 0])), ((g703 0), .inl (cA701, 1201, .inl (upd (fun _ => 0) (0 : Int32).toNatClampNeg 264))), ((g703 1), .inl (cA702, 1201, .inl (upd (fun _ => 0) (0 : Int32).toNatClampNeg 0))), ((g703 2), .inl (cA703, 1201, .inl (upd (fun _ => 0) (0 : Int32).toNatClampNeg 0)))]) [1, 2, 3, 4] rfl
  have hDc := hD.sub (ws' := [((g701 0), .inr (9, [.ref (g703 0), .ref (g703 1), .ref (g703 2), .int (-1), .int 264, .int 0, .int 0])), ((g703 0), .inl (cA701, 1201, .inl (upd (fun _ => 0) (0 : Int32).toNatClampNeg 264))), ((g703 1), .inl (cA702, 1201, .inl (upd (fun _ => 0) (0 : Int32).toNatClampNeg 0))), ((g703 2), .inl (cA703, 1201, .inl (upd (fun _ => 0) (0 : Int32).toNatClampNeg 0)))]) [1, 2, 3, 4] (by decide) rfl
  have hKc := hK.sub (tys' := [(cA701, .int), (cA702, .int), (cA703, .int)]) [0, 1, 2] rfl
  have hFc := va_free (wc := [((g701 0), .inr (9, [.ref (g703 0), .ref (g703 1), .ref (g703 2), .int (-1), .int 264, .int 0, .int 0])), ((g703 0), .inl (cA701, 1201, .inl (upd (fun _ => 0) (0 : Int32).toNatClampNeg 264))), ((g703 1), .inl (cA702, 1201, .inl (upd (fun _ => 0) (0 : Int32).toNatClampNeg 0))), ((g703 2), .inl (cA703, 1201, .inl (upd (fun _ => 0) (0 : Int32).toNatClampNeg 0)))]) hD hS hA [1, 2, 3, 4] rfl
  refine va_callv (va_runV (As := []) (rest := []) ⟨hx, hb, hml, hown, hts⟩ (k_X9_next_0 l dC dI g701 g703 cA701 cA702 cA703 H.size ) (cwV 0 hts g_k_X9_scan_0_k_X9_next_0_48 rfl rfl rfl (by decide +kernel) ⟨(Nat.le_of_ble_eq_true rfl), (Nat.le_of_ble_eq_true rfl)⟩) (vx_preV (ci := 9) (q0 := 0) hPc hKc hDc hN rfl rfl) rfl rfl hl.1 rfl (lv_room (Nat.le_of_ble_eq_true rfl)) dX9_scan_126 ⟨(Nat.le_of_ble_eq_true rfl), (Nat.le_of_ble_eq_true rfl)⟩) hS (fun q _ h => hFc q h) hFc (fun u t H1 locs ht hvm hw hB hz1 hk1 hS => ?_)
  obtain ⟨hP1, hK1, hD1⟩ := hB
  rw [ht] at hP1
  obtain ⟨hP, hD⟩ := va_join (wr := [((g702 0), .inl (cA704, 1200, .inl (fun _ => 0)))]) (w1 := [((g701 0), .inr (9, [.ref (g703 0), .ref (g703 1), .ref (g703 2), .int 0, .int 264, .int 0, .int 0])), ((g703 0), .inl (cA701, 1201, .inl (upd (fun _ => 0) (0 : Int32).toNatClampNeg 264))), ((g703 1), .inl (cA702, 1201, .inl (upd (fun _ => 0) (0 : Int32).toNatClampNeg 0))), ((g703 2), .inl (cA703, 1201, .inl (upd (fun _ => 0) (0 : Int32).toNatClampNeg 0)))]) hP hD [1, 2, 3, 4] [0] rfl rfl (by decide) (by decide) hk1 hFc hP1 hD1
  generalize H1 = H at hP hS ⊢
  have hP : va_P (dC, dI) vwCl [((g702 0), .inl (cA704, 1200, .inl (fun _ => 0))), ((g701 0), .inr (9, [.ref (g703 0), .ref (g703 1), .ref (g703 2), .int 0, .int 264, .int 0, .int 0])), ((g703 0), .inl (cA701, 1201, .inl (upd (fun _ => 0) (0 : Int32).toNatClampNeg 264))), ((g703 1), .inl (cA702, 1201, .inl (upd (fun _ => 0) (0 : Int32).toNatClampNeg 0))), ((g703 2), .inl (cA703, 1201, .inl (upd (fun _ => 0) (0 : Int32).toNatClampNeg 0)))] H := hP
  have hD : va_D A [((g702 0), .inl (cA704, 1200, .inl (fun _ => 0))), ((g701 0), .inr (9, [.ref (g703 0), .ref (g703 1), .ref (g703 2), .int 0, .int 264, .int 0, .int 0])), ((g703 0), .inl (cA701, 1201, .inl (upd (fun _ => 0) (0 : Int32).toNatClampNeg 264))), ((g703 1), .inl (cA702, 1201, .inl (upd (fun _ => 0) (0 : Int32).toNatClampNeg 0))), ((g703 2), .inl (cA703, 1201, .inl (upd (fun _ => 0) (0 : Int32).toNatClampNeg 0)))] := hD
  refine W.widen (k := 0) (n := 0) (by decide) (by decide) ?_
  have hP9 := hP.sub (ws' := [((g701 0), .inr (9, [.ref (g703 0), .ref (g703 1), .ref (g703 2), .int 0, .int 264, .int 0, .int 0])), ((g703 0), .inl (cA701, 1201, .inl (upd (fun _ => 0) (0 : Int32).toNatClampNeg 264))), ((g703 1), .inl (cA702, 1201, .inl (upd (fun _ => 0) (0 : Int32).toNatClampNeg 0))), ((g703 2), .inl (cA703, 1201, .inl (upd (fun _ => 0) (0 : Int32).toNatClampNeg 0))), ((g702 0), .inl (cA704, 1200, .inl (fun _ => 0)))]) [1, 2, 3, 4, 0] rfl
  have hD9 := hD.sub (ws' := [((g701 0), .inr (9, [.ref (g703 0), .ref (g703 1), .ref (g703 2), .int 0, .int 264, .int 0, .int 0])), ((g703 0), .inl (cA701, 1201, .inl (upd (fun _ => 0) (0 : Int32).toNatClampNeg 264))), ((g703 1), .inl (cA702, 1201, .inl (upd (fun _ => 0) (0 : Int32).toNatClampNeg 0))), ((g703 2), .inl (cA703, 1201, .inl (upd (fun _ => 0) (0 : Int32).toNatClampNeg 0))), ((g702 0), .inl (cA704, 1200, .inl (fun _ => 0)))]) [1, 2, 3, 4, 0] (by decide) rfl
  have hK9 := hK.sub (tys' := [(cA701, .int), (cA702, .int), (cA703, .int), (cA704, .byte)]) [0, 1, 2, 3] rfl
  exact W.vret hx hb hr (fun t ht hW => ⟨⟨(), rfl, trivial, by rw [ht]; exact hP9, va_K.moved hW.alike hK9, hD9⟩, hS.F ht⟩) hS.2.2 dX9_scan_129

def w_k_X5_settleCalls_0 : List Cond := .code yX5_settleCalls cX5_settleCalls 4 (some .boolean) :: ([.fieldLink RX5 61 "LineKeeper$Reader" "calls" "I", .fieldLink RX5 51 "LineKeeper$Reader" "fault" "I", .fieldLink RX5 58 "LineKeeper$Reader" "routines" "I"] ++ wsX50)
theorem in_k_X5_settleCalls_0_5 : ∀ w ∈ wsX50, w ∈ w_k_X5_settleCalls_0 := fun _ h => List.mem_cons_of_mem _ (List.mem_append_right _ h)
set_option maxHeartbeats 4000000 in
set_option maxRecDepth 100000 in
theorem k_X5_settleCalls_0 (l : Launch) (dC : Nat → ClassId) (dI : Nat → Nat → Nat) (g701 : Nat → Nat) (g702 : Nat → Nat) (sz : Nat) : Met l yX5_settleCalls w_k_X5_settleCalls_0 { frames := 0, cells := 0, slots := 0, locals := 0 } (va_Pc [.ref (g701 5)] (vx_pre dC dI [((g701 5), .inr (5, [.ref (g702 0), .ref (g702 1), .ref (g702 2), .ref (g702 3), .ref (g702 4), .int 0, .ref (g702 6), .ref (g702 7), .ref (g702 8), .int 0, .int 0, .int (-1), .int 0, .int 0, .int 0, .ref (g702 15), .ref (g702 16), .int 0, .int 0]))] [] sz)) (va_Qi (fun (r : Int32) (_ : Unit) => r = 1) (fun _ t => vx_B dC dI (va_A [((g701 5), .inr (5, [.ref (g702 0), .ref (g702 1), .ref (g702 2), .ref (g702 3), .ref (g702 4), .int 0, .ref (g702 6), .ref (g702 7), .ref (g702 8), .int 0, .int 0, .int (-1), .int 0, .int 0, .int 0, .ref (g702 15), .ref (g702 16), .int 0, .int 0]))] sz) [((g701 5), .inr (5, [.ref (g702 0), .ref (g702 1), .ref (g702 2), .ref (g702 3), .ref (g702 4), .int 0, .ref (g702 6), .ref (g702 7), .ref (g702 8), .int 0, .int 0, .int (-1), .int 0, .int 0, .int 0, .ref (g702 15), .ref (g702 16), .int 0, .int 0]))] [] t) (va_A [((g701 5), .inr (5, [.ref (g702 0), .ref (g702 1), .ref (g702 2), .ref (g702 3), .ref (g702 4), .int 0, .ref (g702 6), .ref (g702 7), .ref (g702 8), .int 0, .int 0, .int (-1), .int 0, .int 0, .int 0, .ref (g702 15), .ref (g702 16), .int 0, .int 0]))] sz)) 0 0 (va_A [((g701 5), .inr (5, [.ref (g702 0), .ref (g702 1), .ref (g702 2), .ref (g702 3), .ref (g702 4), .int 0, .ref (g702 6), .ref (g702 7), .ref (g702 8), .int 0, .int 0, .int (-1), .int 0, .int 0, .int 0, .ref (g702 15), .ref (g702 16), .int 0, .int 0]))] sz) := by
  refine Met.ofW (cc := cX5_settleCalls) (maxL := 4) (ret := (some .boolean)) (by decide) rfl ?_
  intro p e s m args below meth c s₁ B hml hv
  obtain ⟨rfl, hsz, hP, hK, hD0, hN⟩ := hv
  have hx := B.exec
  have hb := B.bytes
  have hr := B.returns
  have hts := atoms_spec (ws := w_k_X5_settleCalls_0) B.pre
  have hown : s.vm.findClass RX5 = some m.cls := findClass_of_methodNamed B.named
  have hlocks := B.notSynchronized
  subst hsz
  have hD := hD0.self (sz := s.heap.size)
  generalize hAe : va_A [((g701 5), .inr (5, [.ref (g702 0), .ref (g702 1), .ref (g702 2), .ref (g702 3), .ref (g702 4), .int 0, .ref (g702 6), .ref (g702 7), .ref (g702 8), .int 0, .int 0, .int (-1), .int 0, .int 0, .int 0, .ref (g702 15), .ref (g702 16), .int 0, .int 0]))] s.heap.size = A at hD ⊢
  have hA : ∀ q : Nat, s.heap.size ≤ q → A q := fun q h => by rw [← hAe]; exact Or.inr h
  obtain ⟨H, hHe⟩ : ∃ H, H = s.heap := ⟨_, rfl⟩
  rw [← hHe] at hP ⊢
  have hS : va_S A s.heap H [] := by rw [hHe]; exact va_S.rf
  have hl := lv_entry [.ref (g701 5)] (n := 4) (Nat.le_of_ble_eq_true rfl)
  rw [lg_entry_eq]
  generalize (lg_sl [.ref (g701 5)] ++ List.replicate (4 - (lg_sl [.ref (g701 5)]).length) Slot.unset).toArray = ls at hl ⊢
  have hl : lv_has ls 4 [(0, .ref (g701 5))] := hl
  refine lv_iconst (v := 0) hx hb dX5_settleCalls_0 (by decide) ?_
  refine lv_istore_n (lv' := [(1, .int 0), (0, .ref (g701 5))]) hx hb dX5_settleCalls_1 rfl hl (by decide) rfl (fun ls hl => ?_)
  refine lv_iload_n hx hb dX5_settleCalls_2 rfl (lv_at hl 0 rfl) ?_
  refine lv_aload_n hx hb dX5_settleCalls_3 rfl (lv_at hl 1 rfl) ?_
  refine va_get (D := (dC, dI)) (ci := 5) (v := .int 0) (C := RX5) (T := TX5) (N := 19) hx hb hts in_k_X5_settleCalls_0_5 hown hK hP 0 rfl rfl 9 (by decide) (hts (.fieldLink RX5 61 "LineKeeper$Reader" "calls" "I") (List.mem_of_getElem? (i := 1) rfl)) (fun _ h9 => h9) rfl dX5_settleCalls_4 ?_
  refine lv_icmp_ge (tgt := 82) hx hb dX5_settleCalls_7 (by decide) (fun _ => ?_) (fun h => absurd (by decide) h)
  refine lv_iconst (v := 0) hx hb dX5_settleCalls_82 (by decide) ?_
  refine lv_istore_n (lv' := [(1, .int 0), (0, .ref (g701 5))]) hx hb dX5_settleCalls_83 rfl hl (by decide) rfl (fun ls hl => ?_)
  refine lv_aload_n hx hb dX5_settleCalls_84 rfl (lv_at hl 1 rfl) ?_
  refine va_get (D := (dC, dI)) (ci := 5) (v := .int 0) (C := RX5) (T := TX5) (N := 19) hx hb hts in_k_X5_settleCalls_0_5 hown hK hP 0 rfl rfl 10 (by decide) (hts (.fieldLink RX5 51 "LineKeeper$Reader" "fault" "I") (List.mem_of_getElem? (i := 2) rfl)) (fun _ h9 => h9) rfl dX5_settleCalls_85 ?_
  refine lv_if_ne (tgt := 168) hx hb dX5_settleCalls_88 (by decide) (fun h => absurd (by decide) h) (fun _ => ?_)
  refine lv_iload_n hx hb dX5_settleCalls_91 rfl (lv_at hl 0 rfl) ?_
  refine lv_aload_n hx hb dX5_settleCalls_92 rfl (lv_at hl 1 rfl) ?_
  refine va_get (D := (dC, dI)) (ci := 5) (v := .int 0) (C := RX5) (T := TX5) (N := 19) hx hb hts in_k_X5_settleCalls_0_5 hown hK hP 0 rfl rfl 5 (by decide) (hts (.fieldLink RX5 58 "LineKeeper$Reader" "routines" "I") (List.mem_of_getElem? (i := 3) rfl)) (fun _ h9 => h9) rfl dX5_settleCalls_93 ?_
  refine lv_icmp_ge (tgt := 168) hx hb dX5_settleCalls_96 (by decide) (fun _ => ?_) (fun h => absurd (by decide) h)
  refine lv_aload_n hx hb dX5_settleCalls_168 rfl (lv_at hl 1 rfl) ?_
  refine va_get (D := (dC, dI)) (ci := 5) (v := .int 0) (C := RX5) (T := TX5) (N := 19) hx hb hts in_k_X5_settleCalls_0_5 hown hK hP 0 rfl rfl 10 (by decide) (hts (.fieldLink RX5 51 "LineKeeper$Reader" "fault" "I") (List.mem_of_getElem? (i := 2) rfl)) (fun _ h9 => h9) rfl dX5_settleCalls_169 ?_
  refine lv_if_ne (tgt := 179) hx hb dX5_settleCalls_172 (by decide) (fun h => absurd (by decide) h) (fun _ => ?_)
  refine lv_iconst (v := 1) hx hb dX5_settleCalls_175 (by decide) ?_
  refine lv_goto (tgt := 180) hx hb dX5_settleCalls_176 (by decide) ?_
  have hP9 := hP.sub (ws' := [((g701 5), .inr (5, [.ref (g702 0), .ref (g702 1), .ref (g702 2), .ref (g702 3), .ref (g702 4), .int 0, .ref (g702 6), .ref (g702 7), .ref (g702 8), .int 0, .int 0, .int (-1), .int 0, .int 0, .int 0, .ref (g702 15), .ref (g702 16), .int 0, .int 0]))]) [0] rfl
  have hD9 := hD.sub (ws' := [((g701 5), .inr (5, [.ref (g702 0), .ref (g702 1), .ref (g702 2), .ref (g702 3), .ref (g702 4), .int 0, .ref (g702 6), .ref (g702 7), .ref (g702 8), .int 0, .int 0, .int (-1), .int 0, .int 0, .int 0, .ref (g702 15), .ref (g702 16), .int 0, .int 0]))]) [0] (by decide) rfl
  have hK9 := hK.sub (tys' := []) [] rfl
  exact W.zret (ty := .boolean) (v := 1) hx hb hr rfl (fun t ht hW => ⟨⟨1, (), rfl, rfl, by rw [ht]; exact hP9, va_K.moved hW.alike hK9, hD9⟩, hS.F ht⟩) hS.2.2 dX5_settleCalls_180

def w_k_X5_take_0 : List Cond := .code yX5_take cX5_take 5 (some .boolean) :: ([.fieldLink RX5 51 "LineKeeper$Reader" "fault" "I", .fieldLink RX5 55 "LineKeeper$Reader" "place" "I", .fieldLink RX5 58 "LineKeeper$Reader" "routines" "I", .fieldLink RX5 61 "LineKeeper$Reader" "calls" "I", .fieldLink RX5 64 "LineKeeper$Reader" "statements" "I", .fieldLink RX5 12 "LineKeeper$Reader" "tokens" "LLineKeeper$Tokens;", .methodLink RX9 21 Lib.Math.min.name, .static Lib.Math.min.name, .initialized "java/lang/Math", .code Lib.Math.min.name Lib.Math.min.code 2 (some .int), .methodLink RX9 27 Lib.Math.max.name, .static Lib.Math.max.name, .code Lib.Math.max.name Lib.Math.max.code 2 (some .int), .fieldLink RX9 30 "LineKeeper$Tokens" "kind" "I", .fieldLink RX9 34 "LineKeeper$Tokens" "place" "I", .fieldLink RX9 9 "LineKeeper$Tokens" "kinds" "[I", .code yX11_put cX11_put 3 none, .initialized RX11, .static yX11_put, .fieldLink RX9 15 "LineKeeper$Tokens" "numbers" "[I", .fieldLink RX9 55 "LineKeeper$Tokens" "number" "I", .fieldLink RX9 18 "LineKeeper$Tokens" "places" "[I", .code yX9_keep cX9_keep 2 none, .initialized RX9, .methodLink RX9 41 yX9_keep, .instanceMethod yX9_keep, .selects RX9 yX9_keep yX9_keep, .fieldLink RX9 45 "LineKeeper$Tokens" "index" "I", .code yX9_next cX9_next 1 none, .methodLink RX9 48 yX9_next, .instanceMethod yX9_next, .selects RX9 yX9_next yX9_next, .code yX9_scan cX9_scan 6 none, .methodLink RX5 67 yX9_scan, .instanceMethod yX9_scan, .selects RX9 yX9_scan yX9_scan, .fieldLink RX5 71 "LineKeeper$Tokens" "kind" "I", .code yX5_settleCalls cX5_settleCalls 4 (some .boolean), .initialized RX5, .methodLink RX5 87 yX5_settleCalls, .instanceMethod yX5_settleCalls, .selects RX5 yX5_settleCalls yX5_settleCalls] ++ (wsX50 ++ wsX90))
theorem in_k_X5_take_0_5 : ∀ w ∈ wsX50, w ∈ w_k_X5_take_0 := fun _ h => List.mem_cons_of_mem _ (List.mem_append_right _ (List.mem_append_left _ h))
theorem in_k_X5_take_0_9 : ∀ w ∈ wsX90, w ∈ w_k_X5_take_0 := fun _ h => List.mem_cons_of_mem _ (List.mem_append_right _ (List.mem_append_right _ h))
set_option maxRecDepth 100000 in
theorem g_k_X5_take_0_k_X9_scan_0_67 : GoodIn w_k_X5_take_0 (wsV RX5 67 RX9 yX9_scan w_k_X9_scan_0) := goodIn_r _ [34, 35, 36, 24, 33, 7, 8, 9, 10, 11, 12, 13, 14, 15, 16, 17, 18, 19, 20, 21, 22, 23, 24, 25, 26, 27, 28, 29, 30, 31, 32, 62, 63, 64, 65, 66, 67, 68] (by decide +kernel) (by decide +kernel)
set_option maxRecDepth 100000 in
theorem g_k_X5_take_0_k_X5_settleCalls_0_87 : GoodIn w_k_X5_take_0 (wsV RX5 87 RX5 yX5_settleCalls w_k_X5_settleCalls_0) := goodIn_r _ [40, 41, 42, 39, 38, 4, 1, 3, 43, 44, 45, 46, 47, 48, 49, 50, 51, 52, 53, 54, 55, 56, 57, 58, 59, 60, 61] (by decide +kernel) (by decide +kernel)
set_option maxHeartbeats 4000000 in
set_option maxRecDepth 100000 in
theorem k_X5_take_0 (l : Launch) (dC : Nat → ClassId) (dI : Nat → Nat → Nat) (g701 : Nat → Nat) (g702 : Nat → Nat) (g703 : Nat → Nat) (cA701 : ClassId) (cA702 : ClassId) (cA703 : ClassId) (cA704 : ClassId) (sz : Nat) : Met l yX5_take w_k_X5_take_0 { frames := 3, cells := 0, slots := 0, locals := 68 } (va_Pc [.ref (g701 5), .ref (g701 0), .int 0] (vx_pre dC dI [((g701 5), .inr (5, [.ref (g702 0), .ref (g702 1), .ref (g702 2), .ref (g702 3), .ref (g702 4), .int 0, .ref (g702 6), .ref (g702 7), .ref (g702 8), .int 0, .int 0, .int 0, .int 0, .int 0, .int 0, .ref (g702 15), .ref (g702 16), .int 0, .int 0])), ((g702 0), .inr (9, [.ref (g703 0), .ref (g703 1), .ref (g703 2), .int 0, .int 0, .int 0, .int 0])), ((g703 0), .inl (cA701, 1201, .inl (fun _ => 0))), ((g703 1), .inl (cA702, 1201, .inl (fun _ => 0))), ((g703 2), .inl (cA703, 1201, .inl (fun _ => 0))), ((g701 0), .inl (cA704, 1200, .inl (fun _ => 0)))] [(cA701, .int), (cA702, .int), (cA703, .int), (cA704, .byte)] sz)) (va_Qi (fun (r : Int32) (_ : Unit) => r = 1) (fun _ t => vx_B dC dI (va_A [((g701 5), .inr (5, [.ref (g702 0), .ref (g702 1), .ref (g702 2), .ref (g702 3), .ref (g702 4), .int 0, .ref (g702 6), .ref (g702 7), .ref (g702 8), .int 0, .int 0, .int 0, .int 0, .int 0, .int 0, .ref (g702 15), .ref (g702 16), .int 0, .int 0])), ((g702 0), .inr (9, [.ref (g703 0), .ref (g703 1), .ref (g703 2), .int 0, .int 0, .int 0, .int 0])), ((g703 0), .inl (cA701, 1201, .inl (fun _ => 0))), ((g703 1), .inl (cA702, 1201, .inl (fun _ => 0))), ((g703 2), .inl (cA703, 1201, .inl (fun _ => 0))), ((g701 0), .inl (cA704, 1200, .inl (fun _ => 0)))] sz) [((g701 5), .inr (5, [.ref (g702 0), .ref (g702 1), .ref (g702 2), .ref (g702 3), .ref (g702 4), .int 0, .ref (g702 6), .ref (g702 7), .ref (g702 8), .int 0, .int 0, .int (-1), .int 0, .int 0, .int 0, .ref (g702 15), .ref (g702 16), .int 0, .int 0])), ((g702 0), .inr (9, [.ref (g703 0), .ref (g703 1), .ref (g703 2), .int 0, .int 264, .int 0, .int 0])), ((g703 0), .inl (cA701, 1201, .inl (upd (fun _ => 0) (0 : Int32).toNatClampNeg 264))), ((g703 1), .inl (cA702, 1201, .inl (upd (fun _ => 0) (0 : Int32).toNatClampNeg 0))), ((g703 2), .inl (cA703, 1201, .inl (upd (fun _ => 0) (0 : Int32).toNatClampNeg 0))), ((g701 0), .inl (cA704, 1200, .inl (fun _ => 0)))] [(cA701, .int), (cA702, .int), (cA703, .int), (cA704, .byte)] t) (va_A [((g701 5), .inr (5, [.ref (g702 0), .ref (g702 1), .ref (g702 2), .ref (g702 3), .ref (g702 4), .int 0, .ref (g702 6), .ref (g702 7), .ref (g702 8), .int 0, .int 0, .int 0, .int 0, .int 0, .int 0, .ref (g702 15), .ref (g702 16), .int 0, .int 0])), ((g702 0), .inr (9, [.ref (g703 0), .ref (g703 1), .ref (g703 2), .int 0, .int 0, .int 0, .int 0])), ((g703 0), .inl (cA701, 1201, .inl (fun _ => 0))), ((g703 1), .inl (cA702, 1201, .inl (fun _ => 0))), ((g703 2), .inl (cA703, 1201, .inl (fun _ => 0))), ((g701 0), .inl (cA704, 1200, .inl (fun _ => 0)))] sz)) 0 0 (va_A [((g701 5), .inr (5, [.ref (g702 0), .ref (g702 1), .ref (g702 2), .ref (g702 3), .ref (g702 4), .int 0, .ref (g702 6), .ref (g702 7), .ref (g702 8), .int 0, .int 0, .int 0, .int 0, .int 0, .int 0, .ref (g702 15), .ref (g702 16), .int 0, .int 0])), ((g702 0), .inr (9, [.ref (g703 0), .ref (g703 1), .ref (g703 2), .int 0, .int 0, .int 0, .int 0])), ((g703 0), .inl (cA701, 1201, .inl (fun _ => 0))), ((g703 1), .inl (cA702, 1201, .inl (fun _ => 0))), ((g703 2), .inl (cA703, 1201, .inl (fun _ => 0))), ((g701 0), .inl (cA704, 1200, .inl (fun _ => 0)))] sz) := by
  refine Met.ofW (cc := cX5_take) (maxL := 5) (ret := (some .boolean)) (by decide) rfl ?_
  intro p e s m args below meth c s₁ B hml hv
  obtain ⟨rfl, hsz, hP, hK, hD0, hN⟩ := hv
  have hx := B.exec
  have hb := B.bytes
  have hr := B.returns
  have hts := atoms_spec (ws := w_k_X5_take_0) B.pre
  have hown : s.vm.findClass RX5 = some m.cls := findClass_of_methodNamed B.named
  have hlocks := B.notSynchronized
  subst hsz
  have hD := hD0.self (sz := s.heap.size)
  generalize hAe : va_A [((g701 5), .inr (5, [.ref (g702 0), .ref (g702 1), .ref (g702 2), .ref (g702 3), .ref (g702 4), .int 0, .ref (g702 6), .ref (g702 7), .ref (g702 8), .int 0, .int 0, .int 0, .int 0, .int 0, .int 0, .ref (g702 15), .ref (g702 16), .int 0, .int 0])), ((g702 0), .inr (9, [.ref (g703 0), .ref (g703 1), .ref (g703 2), .int 0, .int 0, .int 0, .int 0])), ((g703 0), .inl (cA701, 1201, .inl (fun _ => 0))), ((g703 1), .inl (cA702, 1201, .inl (fun _ => 0))), ((g703 2), .inl (cA703, 1201, .inl (fun _ => 0))), ((g701 0), .inl (cA704, 1200, .inl (fun _ => 0)))] s.heap.size = A at hD ⊢
  have hA : ∀ q : Nat, s.heap.size ≤ q → A q := fun q h => by rw [← hAe]; exact Or.inr h
  obtain ⟨H, hHe⟩ : ∃ H, H = s.heap := ⟨_, rfl⟩
  rw [← hHe] at hP ⊢
  have hS : va_S A s.heap H [] := by rw [hHe]; exact va_S.rf
  have hl := lv_entry [.ref (g701 5), .ref (g701 0), .int 0] (n := 5) (Nat.le_of_ble_eq_true rfl)
  rw [lg_entry_eq]
  generalize (lg_sl [.ref (g701 5), .ref (g701 0), .int 0] ++ List.replicate (5 - (lg_sl [.ref (g701 5), .ref (g701 0), .int 0]).length) Slot.unset).toArray = ls at hl ⊢
  have hl : lv_has ls 5 [(0, .ref (g701 5)), (1, .ref (g701 0)), (2, .int 0)] := hl
  refine lv_aload_n hx hb dX5_take_0 rfl (lv_at hl 0 rfl) ?_
  refine lv_iconst (v := 0) hx hb dX5_take_1 (by decide) ?_
  refine va_put (D := (dC, dI)) (ci := 5) (v := .int 0) (ty := .int) (C := RX5) (T := TX5) (N := 19) hx hb hts in_k_X5_take_0_5 tyX5 tyX5_ok nmX5 hown hK hP hD hS 0 rfl rfl 10 (by decide) (hts (.fieldLink RX5 51 "LineKeeper$Reader" "fault" "I") (List.mem_of_getElem? (i := 1) rfl)) (fun _ h9 => h9) rfl (tyX5_ok 10 (by decide)) rfl rfl (Nat.le_of_ble_eq_true rfl) dX5_take_2 (fun H locs hP hD hS => ?_)
  have hP : va_P (dC, dI) vwCl [((g701 5), .inr (5, [.ref (g702 0), .ref (g702 1), .ref (g702 2), .ref (g702 3), .ref (g702 4), .int 0, .ref (g702 6), .ref (g702 7), .ref (g702 8), .int 0, .int 0, .int 0, .int 0, .int 0, .int 0, .ref (g702 15), .ref (g702 16), .int 0, .int 0])), ((g702 0), .inr (9, [.ref (g703 0), .ref (g703 1), .ref (g703 2), .int 0, .int 0, .int 0, .int 0])), ((g703 0), .inl (cA701, 1201, .inl (fun _ => 0))), ((g703 1), .inl (cA702, 1201, .inl (fun _ => 0))), ((g703 2), .inl (cA703, 1201, .inl (fun _ => 0))), ((g701 0), .inl (cA704, 1200, .inl (fun _ => 0)))] H := hP
  have hD : va_D A [((g701 5), .inr (5, [.ref (g702 0), .ref (g702 1), .ref (g702 2), .ref (g702 3), .ref (g702 4), .int 0, .ref (g702 6), .ref (g702 7), .ref (g702 8), .int 0, .int 0, .int 0, .int 0, .int 0, .int 0, .ref (g702 15), .ref (g702 16), .int 0, .int 0])), ((g702 0), .inr (9, [.ref (g703 0), .ref (g703 1), .ref (g703 2), .int 0, .int 0, .int 0, .int 0])), ((g703 0), .inl (cA701, 1201, .inl (fun _ => 0))), ((g703 1), .inl (cA702, 1201, .inl (fun _ => 0))), ((g703 2), .inl (cA703, 1201, .inl (fun _ => 0))), ((g701 0), .inl (cA704, 1200, .inl (fun _ => 0)))] := hD
  refine lv_aload_n hx hb dX5_take_5 rfl (lv_at hl 0 rfl) ?_
  refine lv_iconst (v := (-1)) hx hb dX5_take_6 (by decide) ?_
  refine va_put (D := (dC, dI)) (ci := 5) (v := .int (-1)) (ty := .int) (C := RX5) (T := TX5) (N := 19) hx hb hts in_k_X5_take_0_5 tyX5 tyX5_ok nmX5 hown hK hP hD hS 0 rfl rfl 11 (by decide) (hts (.fieldLink RX5 55 "LineKeeper$Reader" "place" "I") (List.mem_of_getElem? (i := 2) rfl)) (fun _ h9 => h9) rfl (tyX5_ok 11 (by decide)) rfl rfl (Nat.le_of_ble_eq_true rfl) dX5_take_7 (fun H locs hP hD hS => ?_)
  have hP : va_P (dC, dI) vwCl [((g701 5), .inr (5, [.ref (g702 0), .ref (g702 1), .ref (g702 2), .ref (g702 3), .ref (g702 4), .int 0, .ref (g702 6), .ref (g702 7), .ref (g702 8), .int 0, .int 0, .int (-1), .int 0, .int 0, .int 0, .ref (g702 15), .ref (g702 16), .int 0, .int 0])), ((g702 0), .inr (9, [.ref (g703 0), .ref (g703 1), .ref (g703 2), .int 0, .int 0, .int 0, .int 0])), ((g703 0), .inl (cA701, 1201, .inl (fun _ => 0))), ((g703 1), .inl (cA702, 1201, .inl (fun _ => 0))), ((g703 2), .inl (cA703, 1201, .inl (fun _ => 0))), ((g701 0), .inl (cA704, 1200, .inl (fun _ => 0)))] H := hP
  have hD : va_D A [((g701 5), .inr (5, [.ref (g702 0), .ref (g702 1), .ref (g702 2), .ref (g702 3), .ref (g702 4), .int 0, .ref (g702 6), .ref (g702 7), .ref (g702 8), .int 0, .int 0, .int (-1), .int 0, .int 0, .int 0, .ref (g702 15), .ref (g702 16), .int 0, .int 0])), ((g702 0), .inr (9, [.ref (g703 0), .ref (g703 1), .ref (g703 2), .int 0, .int 0, .int 0, .int 0])), ((g703 0), .inl (cA701, 1201, .inl (fun _ => 0))), ((g703 1), .inl (cA702, 1201, .inl (fun _ => 0))), ((g703 2), .inl (cA703, 1201, .inl (fun _ => 0))), ((g701 0), .inl (cA704, 1200, .inl (fun _ => 0)))] := hD
  refine lv_aload_n hx hb dX5_take_10 rfl (lv_at hl 0 rfl) ?_
  refine lv_iconst (v := 0) hx hb dX5_take_11 (by decide) ?_
  refine va_put (D := (dC, dI)) (ci := 5) (v := .int 0) (ty := .int) (C := RX5) (T := TX5) (N := 19) hx hb hts in_k_X5_take_0_5 tyX5 tyX5_ok nmX5 hown hK hP hD hS 0 rfl rfl 5 (by decide) (hts (.fieldLink RX5 58 "LineKeeper$Reader" "routines" "I") (List.mem_of_getElem? (i := 3) rfl)) (fun _ h9 => h9) rfl (tyX5_ok 5 (by decide)) rfl rfl (Nat.le_of_ble_eq_true rfl) dX5_take_12 (fun H locs hP hD hS => ?_)
  have hP : va_P (dC, dI) vwCl [((g701 5), .inr (5, [.ref (g702 0), .ref (g702 1), .ref (g702 2), .ref (g702 3), .ref (g702 4), .int 0, .ref (g702 6), .ref (g702 7), .ref (g702 8), .int 0, .int 0, .int (-1), .int 0, .int 0, .int 0, .ref (g702 15), .ref (g702 16), .int 0, .int 0])), ((g702 0), .inr (9, [.ref (g703 0), .ref (g703 1), .ref (g703 2), .int 0, .int 0, .int 0, .int 0])), ((g703 0), .inl (cA701, 1201, .inl (fun _ => 0))), ((g703 1), .inl (cA702, 1201, .inl (fun _ => 0))), ((g703 2), .inl (cA703, 1201, .inl (fun _ => 0))), ((g701 0), .inl (cA704, 1200, .inl (fun _ => 0)))] H := hP
  have hD : va_D A [((g701 5), .inr (5, [.ref (g702 0), .ref (g702 1), .ref (g702 2), .ref (g702 3), .ref (g702 4), .int 0, .ref (g702 6), .ref (g702 7), .ref (g702 8), .int 0, .int 0, .int (-1), .int 0, .int 0, .int 0, .ref (g702 15), .ref (g702 16), .int 0, .int 0])), ((g702 0), .inr (9, [.ref (g703 0), .ref (g703 1), .ref (g703 2), .int 0, .int 0, .int 0, .int 0])), ((g703 0), .inl (cA701, 1201, .inl (fun _ => 0))), ((g703 1), .inl (cA702, 1201, .inl (fun _ => 0))), ((g703 2), .inl (cA703, 1201, .inl (fun _ => 0))), ((g701 0), .inl (cA704, 1200, .inl (fun _ => 0)))] := hD
  refine lv_aload_n hx hb dX5_take_15 rfl (lv_at hl 0 rfl) ?_
  refine lv_iconst (v := 0) hx hb dX5_take_16 (by decide) ?_
  refine va_put (D := (dC, dI)) (ci := 5) (v := .int 0) (ty := .int) (C := RX5) (T := TX5) (N := 19) hx hb hts in_k_X5_take_0_5 tyX5 tyX5_ok nmX5 hown hK hP hD hS 0 rfl rfl 9 (by decide) (hts (.fieldLink RX5 61 "LineKeeper$Reader" "calls" "I") (List.mem_of_getElem? (i := 4) rfl)) (fun _ h9 => h9) rfl (tyX5_ok 9 (by decide)) rfl rfl (Nat.le_of_ble_eq_true rfl) dX5_take_17 (fun H locs hP hD hS => ?_)
  have hP : va_P (dC, dI) vwCl [((g701 5), .inr (5, [.ref (g702 0), .ref (g702 1), .ref (g702 2), .ref (g702 3), .ref (g702 4), .int 0, .ref (g702 6), .ref (g702 7), .ref (g702 8), .int 0, .int 0, .int (-1), .int 0, .int 0, .int 0, .ref (g702 15), .ref (g702 16), .int 0, .int 0])), ((g702 0), .inr (9, [.ref (g703 0), .ref (g703 1), .ref (g703 2), .int 0, .int 0, .int 0, .int 0])), ((g703 0), .inl (cA701, 1201, .inl (fun _ => 0))), ((g703 1), .inl (cA702, 1201, .inl (fun _ => 0))), ((g703 2), .inl (cA703, 1201, .inl (fun _ => 0))), ((g701 0), .inl (cA704, 1200, .inl (fun _ => 0)))] H := hP
  have hD : va_D A [((g701 5), .inr (5, [.ref (g702 0), .ref (g702 1), .ref (g702 2), .ref (g702 3), .ref (g702 4), .int 0, .ref (g702 6), .ref (g702 7), .ref (g702 8), .int 0, .int 0, .int (-1), .int 0, .int 0, .int 0, .ref (g702 15), .ref (g702 16), .int 0, .int 0])), ((g702 0), .inr (9, [.ref (g703 0), .ref (g703 1), .ref (g703 2), .int 0, .int 0, .int 0, .int 0])), ((g703 0), .inl (cA701, 1201, .inl (fun _ => 0))), ((g703 1), .inl (cA702, 1201, .inl (fun _ => 0))), ((g703 2), .inl (cA703, 1201, .inl (fun _ => 0))), ((g701 0), .inl (cA704, 1200, .inl (fun _ => 0)))] := hD
  refine lv_aload_n hx hb dX5_take_20 rfl (lv_at hl 0 rfl) ?_
  refine lv_iconst (v := 0) hx hb dX5_take_21 (by decide) ?_
  refine va_put (D := (dC, dI)) (ci := 5) (v := .int 0) (ty := .int) (C := RX5) (T := TX5) (N := 19) hx hb hts in_k_X5_take_0_5 tyX5 tyX5_ok nmX5 hown hK hP hD hS 0 rfl rfl 12 (by decide) (hts (.fieldLink RX5 64 "LineKeeper$Reader" "statements" "I") (List.mem_of_getElem? (i := 5) rfl)) (fun _ h9 => h9) rfl (tyX5_ok 12 (by decide)) rfl rfl (Nat.le_of_ble_eq_true rfl) dX5_take_22 (fun H locs hP hD hS => ?_)
  have hP : va_P (dC, dI) vwCl [((g701 5), .inr (5, [.ref (g702 0), .ref (g702 1), .ref (g702 2), .ref (g702 3), .ref (g702 4), .int 0, .ref (g702 6), .ref (g702 7), .ref (g702 8), .int 0, .int 0, .int (-1), .int 0, .int 0, .int 0, .ref (g702 15), .ref (g702 16), .int 0, .int 0])), ((g702 0), .inr (9, [.ref (g703 0), .ref (g703 1), .ref (g703 2), .int 0, .int 0, .int 0, .int 0])), ((g703 0), .inl (cA701, 1201, .inl (fun _ => 0))), ((g703 1), .inl (cA702, 1201, .inl (fun _ => 0))), ((g703 2), .inl (cA703, 1201, .inl (fun _ => 0))), ((g701 0), .inl (cA704, 1200, .inl (fun _ => 0)))] H := hP
  have hD : va_D A [((g701 5), .inr (5, [.ref (g702 0), .ref (g702 1), .ref (g702 2), .ref (g702 3), .ref (g702 4), .int 0, .ref (g702 6), .ref (g702 7), .ref (g702 8), .int 0, .int 0, .int (-1), .int 0, .int 0, .int 0, .ref (g702 15), .ref (g702 16), .int 0, .int 0])), ((g702 0), .inr (9, [.ref (g703 0), .ref (g703 1), .ref (g703 2), .int 0, .int 0, .int 0, .int 0])), ((g703 0), .inl (cA701, 1201, .inl (fun _ => 0))), ((g703 1), .inl (cA702, 1201, .inl (fun _ => 0))), ((g703 2), .inl (cA703, 1201, .inl (fun _ => 0))), ((g701 0), .inl (cA704, 1200, .inl (fun _ => 0)))] := hD
  refine lv_aload_n hx hb dX5_take_25 rfl (lv_at hl 0 rfl) ?_
  refine va_get (D := (dC, dI)) (ci := 5) (v := .ref (g702 0)) (C := RX5) (T := TX5) (N := 19) hx hb hts in_k_X5_take_0_5 hown hK hP 0 rfl rfl 0 (by decide) (hts (.fieldLink RX5 12 "LineKeeper$Reader" "tokens" "LLineKeeper$Tokens;") (List.mem_of_getElem? (i := 6) rfl)) (fun _ h9 => h9) rfl dX5_take_26 ?_
  refine lv_aload_n hx hb dX5_take_29 rfl (lv_at hl 1 rfl) ?_
  refine lv_iload_n hx hb dX5_take_30 rfl (lv_at hl 2 rfl) ?_
  have hPc := hP.sub (ws' := [((g702 0), .inr (9, [.ref (g703 0), .ref (g703 1), .ref (g703 2), .int 0, .int 0, .int 0, .int 0])), ((g703 0), .inl (cA701, 1201, .inl (fun _ => 0))), ((g703 1), .inl (cA702, 1201, .inl (fun _ => 0))), ((g703 2), .inl (cA703, 1201, .inl (fun _ => 0))), ((g701 0), .inl (cA704, 1200, .inl (fun _ => 0)))]) [1, 2, 3, 4, 5] rfl
  have hDc := hD.sub (ws' := [((g702 0), .inr (9, [.ref (g703 0), .ref (g703 1), .ref (g703 2), .int 0, .int 0, .int 0, .int 0])), ((g703 0), .inl (cA701, 1201, .inl (fun _ => 0))), ((g703 1), .inl (cA702, 1201, .inl (fun _ => 0))), ((g703 2), .inl (cA703, 1201, .inl (fun _ => 0))), ((g701 0), .inl (cA704, 1200, .inl (fun _ => 0)))]) [1, 2, 3, 4, 5] (by decide) rfl
  have hKc := hK.sub (tys' := [(cA701, .int), (cA702, .int), (cA703, .int), (cA704, .byte)]) [0, 1, 2, 3] rfl
  have hFc := va_free (wc := [((g702 0), .inr (9, [.ref (g703 0), .ref (g703 1), .ref (g703 2), .int 0, .int 0, .int 0, .int 0])), ((g703 0), .inl (cA701, 1201, .inl (fun _ => 0))), ((g703 1), .inl (cA702, 1201, .inl (fun _ => 0))), ((g703 2), .inl (cA703, 1201, .inl (fun _ => 0))), ((g701 0), .inl (cA704, 1200, .inl (fun _ => 0)))]) hD hS hA [1, 2, 3, 4, 5] rfl
  refine va_callv (va_runV (As := [.ref (g701 0), .int 0]) (rest := []) ⟨hx, hb, hml, hown, hts⟩ (k_X9_scan_0 l dC dI g702 g701 g703 cA701 cA702 cA703 cA704 H.size ) (cwV 2 hts g_k_X5_take_0_k_X9_scan_0_67 rfl rfl rfl (by decide +kernel) ⟨(Nat.le_of_ble_eq_true rfl), (Nat.le_of_ble_eq_true rfl)⟩) (vx_preV (ci := 9) (q0 := 0) hPc hKc hDc hN rfl rfl) rfl rfl hl.1 rfl (lv_room (Nat.le_of_ble_eq_true rfl)) dX5_take_31 ⟨(Nat.le_of_ble_eq_true rfl), (Nat.le_of_ble_eq_true rfl)⟩) hS (fun q _ h => hFc q h) hFc (fun u t H1 locs ht hvm hw hB hz1 hk1 hS => ?_)
  obtain ⟨hP1, hK1, hD1⟩ := hB
  rw [ht] at hP1
  obtain ⟨hP, hD⟩ := va_join (wr := [((g701 5), .inr (5, [.ref (g702 0), .ref (g702 1), .ref (g702 2), .ref (g702 3), .ref (g702 4), .int 0, .ref (g702 6), .ref (g702 7), .ref (g702 8), .int 0, .int 0, .int (-1), .int 0, .int 0, .int 0, .ref (g702 15), .ref (g702 16), .int 0, .int 0]))]) (w1 := [((g702 0), .inr (9, [.ref (g703 0), .ref (g703 1), .ref (g703 2), .int 0, .int 264, .int 0, .int 0])), ((g703 0), .inl (cA701, 1201, .inl (upd (fun _ => 0) (0 : Int32).toNatClampNeg 264))), ((g703 1), .inl (cA702, 1201, .inl (upd (fun _ => 0) (0 : Int32).toNatClampNeg 0))), ((g703 2), .inl (cA703, 1201, .inl (upd (fun _ => 0) (0 : Int32).toNatClampNeg 0))), ((g701 0), .inl (cA704, 1200, .inl (fun _ => 0)))]) hP hD [1, 2, 3, 4, 5] [0] rfl rfl (by decide) (by decide) hk1 hFc hP1 hD1
  generalize H1 = H at hP hS ⊢
  have hP : va_P (dC, dI) vwCl [((g701 5), .inr (5, [.ref (g702 0), .ref (g702 1), .ref (g702 2), .ref (g702 3), .ref (g702 4), .int 0, .ref (g702 6), .ref (g702 7), .ref (g702 8), .int 0, .int 0, .int (-1), .int 0, .int 0, .int 0, .ref (g702 15), .ref (g702 16), .int 0, .int 0])), ((g702 0), .inr (9, [.ref (g703 0), .ref (g703 1), .ref (g703 2), .int 0, .int 264, .int 0, .int 0])), ((g703 0), .inl (cA701, 1201, .inl (upd (fun _ => 0) (0 : Int32).toNatClampNeg 264))), ((g703 1), .inl (cA702, 1201, .inl (upd (fun _ => 0) (0 : Int32).toNatClampNeg 0))), ((g703 2), .inl (cA703, 1201, .inl (upd (fun _ => 0) (0 : Int32).toNatClampNeg 0))), ((g701 0), .inl (cA704, 1200, .inl (fun _ => 0)))] H := hP
  have hD : va_D A [((g701 5), .inr (5, [.ref (g702 0), .ref (g702 1), .ref (g702 2), .ref (g702 3), .ref (g702 4), .int 0, .ref (g702 6), .ref (g702 7), .ref (g702 8), .int 0, .int 0, .int (-1), .int 0, .int 0, .int 0, .ref (g702 15), .ref (g702 16), .int 0, .int 0])), ((g702 0), .inr (9, [.ref (g703 0), .ref (g703 1), .ref (g703 2), .int 0, .int 264, .int 0, .int 0])), ((g703 0), .inl (cA701, 1201, .inl (upd (fun _ => 0) (0 : Int32).toNatClampNeg 264))), ((g703 1), .inl (cA702, 1201, .inl (upd (fun _ => 0) (0 : Int32).toNatClampNeg 0))), ((g703 2), .inl (cA703, 1201, .inl (upd (fun _ => 0) (0 : Int32).toNatClampNeg 0))), ((g701 0), .inl (cA704, 1200, .inl (fun _ => 0)))] := hD
  refine W.widen (k := 0) (n := 0) (by decide) (by decide) ?_
  refine lv_iconst (v := 0) hx hb dX5_take_34 (by decide) ?_
  refine lv_istore_n (lv' := [(3, .int 0), (0, .ref (g701 5)), (1, .ref (g701 0)), (2, .int 0)]) hx hb dX5_take_35 rfl hl (by decide) rfl (fun ls hl => ?_)
  refine lv_iload_n hx hb dX5_take_36 rfl (lv_at hl 0 rfl) ?_
  refine lv_sipush (v := 1200) hx hb dX5_take_37 (by decide) ?_
  refine lv_icmp_ge (tgt := 94) hx hb dX5_take_40 (by decide) (fun h => absurd h (by decide)) (fun _ => ?_)
  refine lv_aload_n hx hb dX5_take_43 rfl (lv_at hl 1 rfl) ?_
  refine va_get (D := (dC, dI)) (ci := 5) (v := .ref (g702 0)) (C := RX5) (T := TX5) (N := 19) hx hb hts in_k_X5_take_0_5 hown hK hP 0 rfl rfl 0 (by decide) (hts (.fieldLink RX5 12 "LineKeeper$Reader" "tokens" "LLineKeeper$Tokens;") (List.mem_of_getElem? (i := 6) rfl)) (fun _ h9 => h9) rfl dX5_take_44 ?_
  refine va_get (D := (dC, dI)) (ci := 9) (v := .int 264) (C := RX9) (T := TX9) (N := 7) hx hb hts in_k_X5_take_0_9 hown hK hP 1 rfl rfl 4 (by decide) (hts (.fieldLink RX5 71 "LineKeeper$Tokens" "kind" "I") (List.mem_of_getElem? (i := 37) rfl)) (fun _ h9 => h9) rfl dX5_take_47 ?_
  refine lv_sipush (v := 264) hx hb dX5_take_50 (by decide) ?_
  refine lv_icmp_eq (tgt := 94) hx hb dX5_take_53 (by decide) (fun _ => ?_) (fun h => absurd (by decide) h)
  refine lv_aload_n hx hb dX5_take_94 rfl (lv_at hl 1 rfl) ?_
  have hPc := hP.sub (ws' := [((g701 5), .inr (5, [.ref (g702 0), .ref (g702 1), .ref (g702 2), .ref (g702 3), .ref (g702 4), .int 0, .ref (g702 6), .ref (g702 7), .ref (g702 8), .int 0, .int 0, .int (-1), .int 0, .int 0, .int 0, .ref (g702 15), .ref (g702 16), .int 0, .int 0]))]) [0] rfl
  have hDc := hD.sub (ws' := [((g701 5), .inr (5, [.ref (g702 0), .ref (g702 1), .ref (g702 2), .ref (g702 3), .ref (g702 4), .int 0, .ref (g702 6), .ref (g702 7), .ref (g702 8), .int 0, .int 0, .int (-1), .int 0, .int 0, .int 0, .ref (g702 15), .ref (g702 16), .int 0, .int 0]))]) [0] (by decide) rfl
  have hKc := hK.sub (tys' := []) [] rfl
  have hFc := va_free (wc := [((g701 5), .inr (5, [.ref (g702 0), .ref (g702 1), .ref (g702 2), .ref (g702 3), .ref (g702 4), .int 0, .ref (g702 6), .ref (g702 7), .ref (g702 8), .int 0, .int 0, .int (-1), .int 0, .int 0, .int 0, .ref (g702 15), .ref (g702 16), .int 0, .int 0]))]) hD hS hA [0] rfl
  refine va_calli (va_runV (As := []) (rest := []) ⟨hx, hb, hml, hown, hts⟩ (k_X5_settleCalls_0 l dC dI g701 g702 H.size ) (cwV 0 hts g_k_X5_take_0_k_X5_settleCalls_0_87 rfl rfl rfl (by decide +kernel) ⟨(Nat.le_of_ble_eq_true rfl), (Nat.le_of_ble_eq_true rfl)⟩) (vx_preV (ci := 5) (q0 := 0) hPc hKc hDc hN rfl rfl) rfl rfl hl.1 rfl (lv_room (Nat.le_of_ble_eq_true rfl)) dX5_take_95 ⟨(Nat.le_of_ble_eq_true rfl), (Nat.le_of_ble_eq_true rfl)⟩) hS (fun q _ h => hFc q h) hFc (fun r2 u t H1 locs ht hvm hw hB hz1 hk1 hS => ?_)
  obtain ⟨hP1, hK1, hD1⟩ := hB
  rw [ht] at hP1
  obtain ⟨hP, hD⟩ := va_join (wr := [((g702 0), .inr (9, [.ref (g703 0), .ref (g703 1), .ref (g703 2), .int 0, .int 264, .int 0, .int 0])), ((g703 0), .inl (cA701, 1201, .inl (upd (fun _ => 0) (0 : Int32).toNatClampNeg 264))), ((g703 1), .inl (cA702, 1201, .inl (upd (fun _ => 0) (0 : Int32).toNatClampNeg 0))), ((g703 2), .inl (cA703, 1201, .inl (upd (fun _ => 0) (0 : Int32).toNatClampNeg 0))), ((g701 0), .inl (cA704, 1200, .inl (fun _ => 0)))]) (w1 := [((g701 5), .inr (5, [.ref (g702 0), .ref (g702 1), .ref (g702 2), .ref (g702 3), .ref (g702 4), .int 0, .ref (g702 6), .ref (g702 7), .ref (g702 8), .int 0, .int 0, .int (-1), .int 0, .int 0, .int 0, .ref (g702 15), .ref (g702 16), .int 0, .int 0]))]) hP hD [0] [1, 2, 3, 4, 5] rfl rfl (by decide) (by decide) hk1 hFc hP1 hD1
  generalize H1 = H at hP hS ⊢
  have hP : va_P (dC, dI) vwCl [((g702 0), .inr (9, [.ref (g703 0), .ref (g703 1), .ref (g703 2), .int 0, .int 264, .int 0, .int 0])), ((g703 0), .inl (cA701, 1201, .inl (upd (fun _ => 0) (0 : Int32).toNatClampNeg 264))), ((g703 1), .inl (cA702, 1201, .inl (upd (fun _ => 0) (0 : Int32).toNatClampNeg 0))), ((g703 2), .inl (cA703, 1201, .inl (upd (fun _ => 0) (0 : Int32).toNatClampNeg 0))), ((g701 0), .inl (cA704, 1200, .inl (fun _ => 0))), ((g701 5), .inr (5, [.ref (g702 0), .ref (g702 1), .ref (g702 2), .ref (g702 3), .ref (g702 4), .int 0, .ref (g702 6), .ref (g702 7), .ref (g702 8), .int 0, .int 0, .int (-1), .int 0, .int 0, .int 0, .ref (g702 15), .ref (g702 16), .int 0, .int 0]))] H := hP
  have hD : va_D A [((g702 0), .inr (9, [.ref (g703 0), .ref (g703 1), .ref (g703 2), .int 0, .int 264, .int 0, .int 0])), ((g703 0), .inl (cA701, 1201, .inl (upd (fun _ => 0) (0 : Int32).toNatClampNeg 264))), ((g703 1), .inl (cA702, 1201, .inl (upd (fun _ => 0) (0 : Int32).toNatClampNeg 0))), ((g703 2), .inl (cA703, 1201, .inl (upd (fun _ => 0) (0 : Int32).toNatClampNeg 0))), ((g701 0), .inl (cA704, 1200, .inl (fun _ => 0))), ((g701 5), .inr (5, [.ref (g702 0), .ref (g702 1), .ref (g702 2), .ref (g702 3), .ref (g702 4), .int 0, .ref (g702 6), .ref (g702 7), .ref (g702 8), .int 0, .int 0, .int (-1), .int 0, .int 0, .int 0, .ref (g702 15), .ref (g702 16), .int 0, .int 0]))] := hD
  refine W.widen (k := 0) (n := 0) (by decide) (by decide) ?_
  try dsimp only at hw
  subst hw
  have hP9 := hP.sub (ws' := [((g701 5), .inr (5, [.ref (g702 0), .ref (g702 1), .ref (g702 2), .ref (g702 3), .ref (g702 4), .int 0, .ref (g702 6), .ref (g702 7), .ref (g702 8), .int 0, .int 0, .int (-1), .int 0, .int 0, .int 0, .ref (g702 15), .ref (g702 16), .int 0, .int 0])), ((g702 0), .inr (9, [.ref (g703 0), .ref (g703 1), .ref (g703 2), .int 0, .int 264, .int 0, .int 0])), ((g703 0), .inl (cA701, 1201, .inl (upd (fun _ => 0) (0 : Int32).toNatClampNeg 264))), ((g703 1), .inl (cA702, 1201, .inl (upd (fun _ => 0) (0 : Int32).toNatClampNeg 0))), ((g703 2), .inl (cA703, 1201, .inl (upd (fun _ => 0) (0 : Int32).toNatClampNeg 0))), ((g701 0), .inl (cA704, 1200, .inl (fun _ => 0)))]) [5, 0, 1, 2, 3, 4] rfl
  have hD9 := hD.sub (ws' := [((g701 5), .inr (5, [.ref (g702 0), .ref (g702 1), .ref (g702 2), .ref (g702 3), .ref (g702 4), .int 0, .ref (g702 6), .ref (g702 7), .ref (g702 8), .int 0, .int 0, .int (-1), .int 0, .int 0, .int 0, .ref (g702 15), .ref (g702 16), .int 0, .int 0])), ((g702 0), .inr (9, [.ref (g703 0), .ref (g703 1), .ref (g703 2), .int 0, .int 264, .int 0, .int 0])), ((g703 0), .inl (cA701, 1201, .inl (upd (fun _ => 0) (0 : Int32).toNatClampNeg 264))), ((g703 1), .inl (cA702, 1201, .inl (upd (fun _ => 0) (0 : Int32).toNatClampNeg 0))), ((g703 2), .inl (cA703, 1201, .inl (upd (fun _ => 0) (0 : Int32).toNatClampNeg 0))), ((g701 0), .inl (cA704, 1200, .inl (fun _ => 0)))]) [5, 0, 1, 2, 3, 4] (by decide) rfl
  have hK9 := hK.sub (tys' := [(cA701, .int), (cA702, .int), (cA703, .int), (cA704, .byte)]) [0, 1, 2, 3] rfl
  exact W.zret (ty := .boolean) (v := 1) hx hb hr rfl (fun t ht hW => ⟨⟨1, (), rfl, rfl, by rw [ht]; exact hP9, va_K.moved hW.alike hK9, hD9⟩, hS.F ht⟩) hS.2.2 dX5_take_98

def w_k_X7_forget_0 : List Cond := .code yX7_forget cX7_forget 1 none :: ([.fieldLink RX7 34 "LineKeeper$Run" "state" "I"] ++ wsX70)
theorem in_k_X7_forget_0_7 : ∀ w ∈ wsX70, w ∈ w_k_X7_forget_0 := fun _ h => List.mem_cons_of_mem _ (List.mem_append_right _ h)
set_option maxHeartbeats 4000000 in
set_option maxRecDepth 100000 in
theorem k_X7_forget_0 (l : Launch) (dC : Nat → ClassId) (dI : Nat → Nat → Nat) (g701 : Nat → Nat) (g702 : Nat → Nat) (sz : Nat) : Met l yX7_forget w_k_X7_forget_0 { frames := 0, cells := 0, slots := 0, locals := 0 } (va_Pc [.ref (g701 8)] (vx_pre dC dI [((g701 8), .inr (7, [.ref (g701 4), .int 0, .int 0, .int 0, .ref (g702 4), .ref (g702 5), .ref (g702 6), .ref (g702 7), .ref (g702 8), .ref (g702 9), .int 0, .int 0, .int 0, .int 0, .null, .int 0, .int 0]))] [] sz)) (va_Qv (fun _ : Unit => True) (fun _ t => vx_B dC dI (va_A [((g701 8), .inr (7, [.ref (g701 4), .int 0, .int 0, .int 0, .ref (g702 4), .ref (g702 5), .ref (g702 6), .ref (g702 7), .ref (g702 8), .ref (g702 9), .int 0, .int 0, .int 0, .int 0, .null, .int 0, .int 0]))] sz) [((g701 8), .inr (7, [.ref (g701 4), .int 0, .int 0, .int 0, .ref (g702 4), .ref (g702 5), .ref (g702 6), .ref (g702 7), .ref (g702 8), .ref (g702 9), .int 0, .int 0, .int 0, .int 0, .null, .int 0, .int 0]))] [] t) (va_A [((g701 8), .inr (7, [.ref (g701 4), .int 0, .int 0, .int 0, .ref (g702 4), .ref (g702 5), .ref (g702 6), .ref (g702 7), .ref (g702 8), .ref (g702 9), .int 0, .int 0, .int 0, .int 0, .null, .int 0, .int 0]))] sz)) 0 0 (va_A [((g701 8), .inr (7, [.ref (g701 4), .int 0, .int 0, .int 0, .ref (g702 4), .ref (g702 5), .ref (g702 6), .ref (g702 7), .ref (g702 8), .ref (g702 9), .int 0, .int 0, .int 0, .int 0, .null, .int 0, .int 0]))] sz) := by
  refine Met.ofW (cc := cX7_forget) (maxL := 1) (ret := none) (by decide) rfl ?_
  intro p e s m args below meth c s₁ B hml hv
  obtain ⟨rfl, hsz, hP, hK, hD0, hN⟩ := hv
  have hx := B.exec
  have hb := B.bytes
  have hr := B.returns
  have hts := atoms_spec (ws := w_k_X7_forget_0) B.pre
  have hown : s.vm.findClass RX7 = some m.cls := findClass_of_methodNamed B.named
  have hlocks := B.notSynchronized
  subst hsz
  have hD := hD0.self (sz := s.heap.size)
  generalize hAe : va_A [((g701 8), .inr (7, [.ref (g701 4), .int 0, .int 0, .int 0, .ref (g702 4), .ref (g702 5), .ref (g702 6), .ref (g702 7), .ref (g702 8), .ref (g702 9), .int 0, .int 0, .int 0, .int 0, .null, .int 0, .int 0]))] s.heap.size = A at hD ⊢
  have hA : ∀ q : Nat, s.heap.size ≤ q → A q := fun q h => by rw [← hAe]; exact Or.inr h
  obtain ⟨H, hHe⟩ : ∃ H, H = s.heap := ⟨_, rfl⟩
  rw [← hHe] at hP ⊢
  have hS : va_S A s.heap H [] := by rw [hHe]; exact va_S.rf
  have hl := lv_entry [.ref (g701 8)] (n := 1) (Nat.le_of_ble_eq_true rfl)
  rw [lg_entry_eq]
  generalize (lg_sl [.ref (g701 8)] ++ List.replicate (1 - (lg_sl [.ref (g701 8)]).length) Slot.unset).toArray = ls at hl ⊢
  have hl : lv_has ls 1 [(0, .ref (g701 8))] := hl
  refine lv_aload_n hx hb dX7_forget_0 rfl (lv_at hl 0 rfl) ?_
  refine lv_iconst (v := 0) hx hb dX7_forget_1 (by decide) ?_
  refine va_put (D := (dC, dI)) (ci := 7) (v := .int 0) (ty := .int) (C := RX7) (T := TX7) (N := 17) hx hb hts in_k_X7_forget_0_7 tyX7 tyX7_ok nmX7 hown hK hP hD hS 0 rfl rfl 1 (by decide) (hts (.fieldLink RX7 34 "LineKeeper$Run" "state" "I") (List.mem_of_getElem? (i := 1) rfl)) (fun _ h9 => h9) rfl (tyX7_ok 1 (by decide)) rfl rfl (Nat.le_of_ble_eq_true rfl) dX7_forget_2 (fun H locs hP hD hS => ?_)
  have hP : va_P (dC, dI) vwCl [((g701 8), .inr (7, [.ref (g701 4), .int 0, .int 0, .int 0, .ref (g702 4), .ref (g702 5), .ref (g702 6), .ref (g702 7), .ref (g702 8), .ref (g702 9), .int 0, .int 0, .int 0, .int 0, .null, .int 0, .int 0]))] H := hP
  have hD : va_D A [((g701 8), .inr (7, [.ref (g701 4), .int 0, .int 0, .int 0, .ref (g702 4), .ref (g702 5), .ref (g702 6), .ref (g702 7), .ref (g702 8), .ref (g702 9), .int 0, .int 0, .int 0, .int 0, .null, .int 0, .int 0]))] := hD
  have hP9 := hP.sub (ws' := [((g701 8), .inr (7, [.ref (g701 4), .int 0, .int 0, .int 0, .ref (g702 4), .ref (g702 5), .ref (g702 6), .ref (g702 7), .ref (g702 8), .ref (g702 9), .int 0, .int 0, .int 0, .int 0, .null, .int 0, .int 0]))]) [0] rfl
  have hD9 := hD.sub (ws' := [((g701 8), .inr (7, [.ref (g701 4), .int 0, .int 0, .int 0, .ref (g702 4), .ref (g702 5), .ref (g702 6), .ref (g702 7), .ref (g702 8), .ref (g702 9), .int 0, .int 0, .int 0, .int 0, .null, .int 0, .int 0]))]) [0] (by decide) rfl
  have hK9 := hK.sub (tys' := []) [] rfl
  exact W.vret hx hb hr (fun t ht hW => ⟨⟨(), rfl, trivial, by rw [ht]; exact hP9, va_K.moved hW.alike hK9, hD9⟩, hS.F ht⟩) hS.2.2 dX7_forget_5

def w_x_read : List Cond := .code yX11_read cX11_read 3 (some .int) :: ([.fieldLink RX11 25 "LineKeeper" "reader" "LLineKeeper$Reader;", .fieldLink RX11 9 "LineKeeper" "tape" "[B", .fieldLink RX11 87 "LineKeeper" "taped" "I", .fieldLink RX5 51 "LineKeeper$Reader" "fault" "I", .fieldLink RX5 55 "LineKeeper$Reader" "place" "I", .fieldLink RX5 58 "LineKeeper$Reader" "routines" "I", .fieldLink RX5 61 "LineKeeper$Reader" "calls" "I", .fieldLink RX5 64 "LineKeeper$Reader" "statements" "I", .fieldLink RX5 12 "LineKeeper$Reader" "tokens" "LLineKeeper$Tokens;", .methodLink RX9 21 Lib.Math.min.name, .static Lib.Math.min.name, .initialized "java/lang/Math", .code Lib.Math.min.name Lib.Math.min.code 2 (some .int), .methodLink RX9 27 Lib.Math.max.name, .static Lib.Math.max.name, .code Lib.Math.max.name Lib.Math.max.code 2 (some .int), .fieldLink RX9 30 "LineKeeper$Tokens" "kind" "I", .fieldLink RX9 34 "LineKeeper$Tokens" "place" "I", .fieldLink RX9 9 "LineKeeper$Tokens" "kinds" "[I", .code yX11_put cX11_put 3 none, .initialized RX11, .static yX11_put, .fieldLink RX9 15 "LineKeeper$Tokens" "numbers" "[I", .fieldLink RX9 55 "LineKeeper$Tokens" "number" "I", .fieldLink RX9 18 "LineKeeper$Tokens" "places" "[I", .code yX9_keep cX9_keep 2 none, .initialized RX9, .methodLink RX9 41 yX9_keep, .instanceMethod yX9_keep, .selects RX9 yX9_keep yX9_keep, .fieldLink RX9 45 "LineKeeper$Tokens" "index" "I", .code yX9_next cX9_next 1 none, .methodLink RX9 48 yX9_next, .instanceMethod yX9_next, .selects RX9 yX9_next yX9_next, .code yX9_scan cX9_scan 6 none, .methodLink RX5 67 yX9_scan, .instanceMethod yX9_scan, .selects RX9 yX9_scan yX9_scan, .fieldLink RX5 71 "LineKeeper$Tokens" "kind" "I", .code yX5_settleCalls cX5_settleCalls 4 (some .boolean), .initialized RX5, .methodLink RX5 87 yX5_settleCalls, .instanceMethod yX5_settleCalls, .selects RX5 yX5_settleCalls yX5_settleCalls, .code yX5_take cX5_take 5 (some .boolean), .methodLink RX11 94 yX5_take, .instanceMethod yX5_take, .selects RX5 yX5_take yX5_take, .fieldLink RX11 98 "LineKeeper$Reader" "fault" "I", .fieldLink RX11 101 "LineKeeper" "readFault" "I", .fieldLink RX11 43 "LineKeeper" "readPlace" "I", .fieldLink RX11 107 "LineKeeper$Reader" "routines" "I", .methodLink RX11 110 Lib.Math.min.name, .fieldLink RX11 116 "LineKeeper" "routines" "I", .fieldLink RX11 83 "LineKeeper" "theRun" "LLineKeeper$Run;", .fieldLink RX7 34 "LineKeeper$Run" "state" "I", .code yX7_forget cX7_forget 1 none, .initialized RX7, .methodLink RX11 120 yX7_forget, .instanceMethod yX7_forget, .selects RX7 yX7_forget yX7_forget] ++ (wsX110 ++ (wsX50 ++ (wsX90 ++ wsX70))))
theorem in_x_read_11 : ∀ w ∈ wsX110, w ∈ w_x_read := fun _ h => List.mem_cons_of_mem _ (List.mem_append_right _ (List.mem_append_left _ h))
theorem in_x_read_5 : ∀ w ∈ wsX50, w ∈ w_x_read := fun _ h => List.mem_cons_of_mem _ (List.mem_append_right _ (List.mem_append_right _ (List.mem_append_left _ h)))
theorem in_x_read_9 : ∀ w ∈ wsX90, w ∈ w_x_read := fun _ h => List.mem_cons_of_mem _ (List.mem_append_right _ (List.mem_append_right _ (List.mem_append_right _ (List.mem_append_left _ h))))
theorem in_x_read_7 : ∀ w ∈ wsX70, w ∈ w_x_read := fun _ h => List.mem_cons_of_mem _ (List.mem_append_right _ (List.mem_append_right _ (List.mem_append_right _ (List.mem_append_right _ h))))
set_option maxRecDepth 100000 in
theorem g_x_read_k_X5_take_0_94 : GoodIn w_x_read (wsV RX11 94 RX5 yX5_take w_k_X5_take_0) := goodIn_r _ [47, 48, 49, 42, 46, 4, 5, 6, 7, 8, 9, 10, 11, 12, 13, 14, 15, 16, 17, 18, 19, 20, 21, 22, 23, 24, 25, 26, 27, 28, 29, 30, 31, 32, 33, 34, 35, 36, 37, 38, 39, 40, 41, 42, 43, 44, 45, 79, 80, 81, 82, 83, 84, 85, 86, 87, 88, 89, 90, 91, 92, 93, 94, 95, 96, 97, 98, 99, 100, 101, 102, 103, 104] (by decide +kernel) (by decide +kernel)
set_option maxRecDepth 100000 in
theorem g_x_read_k_X7_forget_0_120 : GoodIn w_x_read (wsV RX11 120 RX7 yX7_forget w_k_X7_forget_0) := goodIn_r _ [60, 61, 62, 59, 58, 57, 105, 106, 107, 108, 109, 110, 111, 112, 113, 114, 115, 116, 117, 118, 119, 120, 121] (by decide +kernel) (by decide +kernel)
set_option maxHeartbeats 4000000 in
set_option maxRecDepth 100000 in
theorem x_read (l : Launch) (dC : Nat → ClassId) (dI : Nat → Nat → Nat) (h0 : Nat) (g : Nat → Nat) (g902 : Nat → Nat) (g903 : Nat → Nat) (g904 : Nat → Nat) (cA901 : ClassId) (cA902 : ClassId) (cA903 : ClassId) (cA904 : ClassId) (sz : Nat) : Met l yX11_read w_x_read { frames := 4, cells := 0, slots := 0, locals := 92 } (va_Pc [.ref h0] (vx_pre dC dI [(h0, .inr (11, fsX g)), ((g 0), .inl (cA901, 1200, .inl (fun _ => 0))), ((g 5), .inr (5, [.ref (g902 0), .ref (g902 1), .ref (g902 2), .ref (g902 3), .ref (g902 4), .int 0, .ref (g902 6), .ref (g902 7), .ref (g902 8), .int 0, .int 0, .int 0, .int 0, .int 0, .int 0, .ref (g902 15), .ref (g902 16), .int 0, .int 0])), ((g902 0), .inr (9, [.ref (g903 0), .ref (g903 1), .ref (g903 2), .int 0, .int 0, .int 0, .int 0])), ((g903 0), .inl (cA902, 1201, .inl (fun _ => 0))), ((g903 1), .inl (cA903, 1201, .inl (fun _ => 0))), ((g903 2), .inl (cA904, 1201, .inl (fun _ => 0))), ((g 8), .inr (7, [.ref (g 4), .int 0, .int 0, .int 0, .ref (g904 4), .ref (g904 5), .ref (g904 6), .ref (g904 7), .ref (g904 8), .ref (g904 9), .int 0, .int 0, .int 0, .int 0, .null, .int 0, .int 0]))] [(cA901, .byte), (cA902, .int), (cA903, .int), (cA904, .int)] sz)) (va_Qi (fun (r : Int32) (_ : Unit) => r = 0) (fun _ t => vx_B dC dI (va_A [(h0, .inr (11, fsX g)), ((g 0), .inl (cA901, 1200, .inl (fun _ => 0))), ((g 5), .inr (5, [.ref (g902 0), .ref (g902 1), .ref (g902 2), .ref (g902 3), .ref (g902 4), .int 0, .ref (g902 6), .ref (g902 7), .ref (g902 8), .int 0, .int 0, .int 0, .int 0, .int 0, .int 0, .ref (g902 15), .ref (g902 16), .int 0, .int 0])), ((g902 0), .inr (9, [.ref (g903 0), .ref (g903 1), .ref (g903 2), .int 0, .int 0, .int 0, .int 0])), ((g903 0), .inl (cA902, 1201, .inl (fun _ => 0))), ((g903 1), .inl (cA903, 1201, .inl (fun _ => 0))), ((g903 2), .inl (cA904, 1201, .inl (fun _ => 0))), ((g 8), .inr (7, [.ref (g 4), .int 0, .int 0, .int 0, .ref (g904 4), .ref (g904 5), .ref (g904 6), .ref (g904 7), .ref (g904 8), .ref (g904 9), .int 0, .int 0, .int 0, .int 0, .null, .int 0, .int 0]))] sz) [] [] t) (va_A [(h0, .inr (11, fsX g)), ((g 0), .inl (cA901, 1200, .inl (fun _ => 0))), ((g 5), .inr (5, [.ref (g902 0), .ref (g902 1), .ref (g902 2), .ref (g902 3), .ref (g902 4), .int 0, .ref (g902 6), .ref (g902 7), .ref (g902 8), .int 0, .int 0, .int 0, .int 0, .int 0, .int 0, .ref (g902 15), .ref (g902 16), .int 0, .int 0])), ((g902 0), .inr (9, [.ref (g903 0), .ref (g903 1), .ref (g903 2), .int 0, .int 0, .int 0, .int 0])), ((g903 0), .inl (cA902, 1201, .inl (fun _ => 0))), ((g903 1), .inl (cA903, 1201, .inl (fun _ => 0))), ((g903 2), .inl (cA904, 1201, .inl (fun _ => 0))), ((g 8), .inr (7, [.ref (g 4), .int 0, .int 0, .int 0, .ref (g904 4), .ref (g904 5), .ref (g904 6), .ref (g904 7), .ref (g904 8), .ref (g904 9), .int 0, .int 0, .int 0, .int 0, .null, .int 0, .int 0]))] sz)) 0 0 (va_A [(h0, .inr (11, fsX g)), ((g 0), .inl (cA901, 1200, .inl (fun _ => 0))), ((g 5), .inr (5, [.ref (g902 0), .ref (g902 1), .ref (g902 2), .ref (g902 3), .ref (g902 4), .int 0, .ref (g902 6), .ref (g902 7), .ref (g902 8), .int 0, .int 0, .int 0, .int 0, .int 0, .int 0, .ref (g902 15), .ref (g902 16), .int 0, .int 0])), ((g902 0), .inr (9, [.ref (g903 0), .ref (g903 1), .ref (g903 2), .int 0, .int 0, .int 0, .int 0])), ((g903 0), .inl (cA902, 1201, .inl (fun _ => 0))), ((g903 1), .inl (cA903, 1201, .inl (fun _ => 0))), ((g903 2), .inl (cA904, 1201, .inl (fun _ => 0))), ((g 8), .inr (7, [.ref (g 4), .int 0, .int 0, .int 0, .ref (g904 4), .ref (g904 5), .ref (g904 6), .ref (g904 7), .ref (g904 8), .ref (g904 9), .int 0, .int 0, .int 0, .int 0, .null, .int 0, .int 0]))] sz) := by
  refine Met.ofW (cc := cX11_read) (maxL := 3) (ret := (some .int)) (by decide) rfl ?_
  intro p e s m args below meth c s₁ B hml hv
  obtain ⟨rfl, hsz, hP, hK, hD0, hN⟩ := hv
  have hx := B.exec
  have hb := B.bytes
  have hr := B.returns
  have hts := atoms_spec (ws := w_x_read) B.pre
  have hown : s.vm.findClass RX11 = some m.cls := findClass_of_methodNamed B.named
  have hlocks := B.notSynchronized
  subst hsz
  have hD := hD0.self (sz := s.heap.size)
  generalize hAe : va_A [(h0, .inr (11, fsX g)), ((g 0), .inl (cA901, 1200, .inl (fun _ => 0))), ((g 5), .inr (5, [.ref (g902 0), .ref (g902 1), .ref (g902 2), .ref (g902 3), .ref (g902 4), .int 0, .ref (g902 6), .ref (g902 7), .ref (g902 8), .int 0, .int 0, .int 0, .int 0, .int 0, .int 0, .ref (g902 15), .ref (g902 16), .int 0, .int 0])), ((g902 0), .inr (9, [.ref (g903 0), .ref (g903 1), .ref (g903 2), .int 0, .int 0, .int 0, .int 0])), ((g903 0), .inl (cA902, 1201, .inl (fun _ => 0))), ((g903 1), .inl (cA903, 1201, .inl (fun _ => 0))), ((g903 2), .inl (cA904, 1201, .inl (fun _ => 0))), ((g 8), .inr (7, [.ref (g 4), .int 0, .int 0, .int 0, .ref (g904 4), .ref (g904 5), .ref (g904 6), .ref (g904 7), .ref (g904 8), .ref (g904 9), .int 0, .int 0, .int 0, .int 0, .null, .int 0, .int 0]))] s.heap.size = A at hD ⊢
  have hA : ∀ q : Nat, s.heap.size ≤ q → A q := fun q h => by rw [← hAe]; exact Or.inr h
  obtain ⟨H, hHe⟩ : ∃ H, H = s.heap := ⟨_, rfl⟩
  rw [← hHe] at hP ⊢
  have hS : va_S A s.heap H [] := by rw [hHe]; exact va_S.rf
  have hl := lv_entry [.ref h0] (n := 3) (Nat.le_of_ble_eq_true rfl)
  rw [lg_entry_eq]
  generalize (lg_sl [.ref h0] ++ List.replicate (3 - (lg_sl [.ref h0]).length) Slot.unset).toArray = ls at hl ⊢
  have hl : lv_has ls 3 [(0, .ref h0)] := hl
  refine lv_aload_n hx hb dX11_read_0 rfl (lv_at hl 0 rfl) ?_
  refine va_get (D := (dC, dI)) (ci := 11) (v := .ref (g 5)) (C := RX11) (T := TX11) (N := 16) hx hb hts in_x_read_11 hown hK hP 0 rfl rfl 5 (by decide) (hts (.fieldLink RX11 25 "LineKeeper" "reader" "LLineKeeper$Reader;") (List.mem_of_getElem? (i := 1) rfl)) (fun _ h9 => h9) rfl dX11_read_1 ?_
  refine lv_aload_n hx hb dX11_read_4 rfl (lv_at hl 0 rfl) ?_
  refine va_get (D := (dC, dI)) (ci := 11) (v := .ref (g 0)) (C := RX11) (T := TX11) (N := 16) hx hb hts in_x_read_11 hown hK hP 0 rfl rfl 0 (by decide) (hts (.fieldLink RX11 9 "LineKeeper" "tape" "[B") (List.mem_of_getElem? (i := 2) rfl)) (fun _ h9 => h9) rfl dX11_read_5 ?_
  refine lv_aload_n hx hb dX11_read_8 rfl (lv_at hl 0 rfl) ?_
  refine va_get (D := (dC, dI)) (ci := 11) (v := .int 0) (C := RX11) (T := TX11) (N := 16) hx hb hts in_x_read_11 hown hK hP 0 rfl rfl 1 (by decide) (hts (.fieldLink RX11 87 "LineKeeper" "taped" "I") (List.mem_of_getElem? (i := 3) rfl)) (fun _ h9 => h9) rfl dX11_read_9 ?_
  have hPc := hP.sub (ws' := [((g 5), .inr (5, [.ref (g902 0), .ref (g902 1), .ref (g902 2), .ref (g902 3), .ref (g902 4), .int 0, .ref (g902 6), .ref (g902 7), .ref (g902 8), .int 0, .int 0, .int 0, .int 0, .int 0, .int 0, .ref (g902 15), .ref (g902 16), .int 0, .int 0])), ((g902 0), .inr (9, [.ref (g903 0), .ref (g903 1), .ref (g903 2), .int 0, .int 0, .int 0, .int 0])), ((g903 0), .inl (cA902, 1201, .inl (fun _ => 0))), ((g903 1), .inl (cA903, 1201, .inl (fun _ => 0))), ((g903 2), .inl (cA904, 1201, .inl (fun _ => 0))), ((g 0), .inl (cA901, 1200, .inl (fun _ => 0)))]) [2, 3, 4, 5, 6, 1] rfl
  have hDc := hD.sub (ws' := [((g 5), .inr (5, [.ref (g902 0), .ref (g902 1), .ref (g902 2), .ref (g902 3), .ref (g902 4), .int 0, .ref (g902 6), .ref (g902 7), .ref (g902 8), .int 0, .int 0, .int 0, .int 0, .int 0, .int 0, .ref (g902 15), .ref (g902 16), .int 0, .int 0])), ((g902 0), .inr (9, [.ref (g903 0), .ref (g903 1), .ref (g903 2), .int 0, .int 0, .int 0, .int 0])), ((g903 0), .inl (cA902, 1201, .inl (fun _ => 0))), ((g903 1), .inl (cA903, 1201, .inl (fun _ => 0))), ((g903 2), .inl (cA904, 1201, .inl (fun _ => 0))), ((g 0), .inl (cA901, 1200, .inl (fun _ => 0)))]) [2, 3, 4, 5, 6, 1] (by decide) rfl
  have hKc := hK.sub (tys' := [(cA902, .int), (cA903, .int), (cA904, .int), (cA901, .byte)]) [1, 2, 3, 0] rfl
  have hFc := va_free (wc := [((g 5), .inr (5, [.ref (g902 0), .ref (g902 1), .ref (g902 2), .ref (g902 3), .ref (g902 4), .int 0, .ref (g902 6), .ref (g902 7), .ref (g902 8), .int 0, .int 0, .int 0, .int 0, .int 0, .int 0, .ref (g902 15), .ref (g902 16), .int 0, .int 0])), ((g902 0), .inr (9, [.ref (g903 0), .ref (g903 1), .ref (g903 2), .int 0, .int 0, .int 0, .int 0])), ((g903 0), .inl (cA902, 1201, .inl (fun _ => 0))), ((g903 1), .inl (cA903, 1201, .inl (fun _ => 0))), ((g903 2), .inl (cA904, 1201, .inl (fun _ => 0))), ((g 0), .inl (cA901, 1200, .inl (fun _ => 0)))]) hD hS hA [2, 3, 4, 5, 6, 1] rfl
  refine va_calli (va_runV (As := [.ref (g 0), .int 0]) (rest := []) ⟨hx, hb, hml, hown, hts⟩ (k_X5_take_0 l dC dI g g902 g903 cA902 cA903 cA904 cA901 H.size ) (cwV 2 hts g_x_read_k_X5_take_0_94 rfl rfl rfl (by decide +kernel) ⟨(Nat.le_of_ble_eq_true rfl), (Nat.le_of_ble_eq_true rfl)⟩) (vx_preV (ci := 5) (q0 := 0) hPc hKc hDc hN rfl rfl) rfl rfl hl.1 rfl (lv_room (Nat.le_of_ble_eq_true rfl)) dX11_read_12 ⟨(Nat.le_of_ble_eq_true rfl), (Nat.le_of_ble_eq_true rfl)⟩) hS (fun q _ h => hFc q h) hFc (fun r1 u t H1 locs ht hvm hw hB hz1 hk1 hS => ?_)
  obtain ⟨hP1, hK1, hD1⟩ := hB
  rw [ht] at hP1
  obtain ⟨hP, hD⟩ := va_join (wr := [(h0, .inr (11, fsX g)), ((g 8), .inr (7, [.ref (g 4), .int 0, .int 0, .int 0, .ref (g904 4), .ref (g904 5), .ref (g904 6), .ref (g904 7), .ref (g904 8), .ref (g904 9), .int 0, .int 0, .int 0, .int 0, .null, .int 0, .int 0]))]) (w1 := [((g 5), .inr (5, [.ref (g902 0), .ref (g902 1), .ref (g902 2), .ref (g902 3), .ref (g902 4), .int 0, .ref (g902 6), .ref (g902 7), .ref (g902 8), .int 0, .int 0, .int (-1), .int 0, .int 0, .int 0, .ref (g902 15), .ref (g902 16), .int 0, .int 0])), ((g902 0), .inr (9, [.ref (g903 0), .ref (g903 1), .ref (g903 2), .int 0, .int 264, .int 0, .int 0])), ((g903 0), .inl (cA902, 1201, .inl (upd (fun _ => 0) (0 : Int32).toNatClampNeg 264))), ((g903 1), .inl (cA903, 1201, .inl (upd (fun _ => 0) (0 : Int32).toNatClampNeg 0))), ((g903 2), .inl (cA904, 1201, .inl (upd (fun _ => 0) (0 : Int32).toNatClampNeg 0))), ((g 0), .inl (cA901, 1200, .inl (fun _ => 0)))]) hP hD [2, 3, 4, 5, 6, 1] [0, 7] rfl rfl (by decide) (by decide) hk1 hFc hP1 hD1
  generalize H1 = H at hP hS ⊢
  have hP : va_P (dC, dI) vwCl [(h0, .inr (11, fsX g)), ((g 8), .inr (7, [.ref (g 4), .int 0, .int 0, .int 0, .ref (g904 4), .ref (g904 5), .ref (g904 6), .ref (g904 7), .ref (g904 8), .ref (g904 9), .int 0, .int 0, .int 0, .int 0, .null, .int 0, .int 0])), ((g 5), .inr (5, [.ref (g902 0), .ref (g902 1), .ref (g902 2), .ref (g902 3), .ref (g902 4), .int 0, .ref (g902 6), .ref (g902 7), .ref (g902 8), .int 0, .int 0, .int (-1), .int 0, .int 0, .int 0, .ref (g902 15), .ref (g902 16), .int 0, .int 0])), ((g902 0), .inr (9, [.ref (g903 0), .ref (g903 1), .ref (g903 2), .int 0, .int 264, .int 0, .int 0])), ((g903 0), .inl (cA902, 1201, .inl (upd (fun _ => 0) (0 : Int32).toNatClampNeg 264))), ((g903 1), .inl (cA903, 1201, .inl (upd (fun _ => 0) (0 : Int32).toNatClampNeg 0))), ((g903 2), .inl (cA904, 1201, .inl (upd (fun _ => 0) (0 : Int32).toNatClampNeg 0))), ((g 0), .inl (cA901, 1200, .inl (fun _ => 0)))] H := hP
  have hD : va_D A [(h0, .inr (11, fsX g)), ((g 8), .inr (7, [.ref (g 4), .int 0, .int 0, .int 0, .ref (g904 4), .ref (g904 5), .ref (g904 6), .ref (g904 7), .ref (g904 8), .ref (g904 9), .int 0, .int 0, .int 0, .int 0, .null, .int 0, .int 0])), ((g 5), .inr (5, [.ref (g902 0), .ref (g902 1), .ref (g902 2), .ref (g902 3), .ref (g902 4), .int 0, .ref (g902 6), .ref (g902 7), .ref (g902 8), .int 0, .int 0, .int (-1), .int 0, .int 0, .int 0, .ref (g902 15), .ref (g902 16), .int 0, .int 0])), ((g902 0), .inr (9, [.ref (g903 0), .ref (g903 1), .ref (g903 2), .int 0, .int 264, .int 0, .int 0])), ((g903 0), .inl (cA902, 1201, .inl (upd (fun _ => 0) (0 : Int32).toNatClampNeg 264))), ((g903 1), .inl (cA903, 1201, .inl (upd (fun _ => 0) (0 : Int32).toNatClampNeg 0))), ((g903 2), .inl (cA904, 1201, .inl (upd (fun _ => 0) (0 : Int32).toNatClampNeg 0))), ((g 0), .inl (cA901, 1200, .inl (fun _ => 0)))] := hD
  refine W.widen (k := 0) (n := 0) (by decide) (by decide) ?_
  try dsimp only at hw
  subst hw
  refine lv_istore_n (lv' := [(1, .int 1), (0, .ref h0)]) hx hb dX11_read_15 rfl hl (by decide) rfl (fun ls hl => ?_)
  refine lv_aload_n hx hb dX11_read_16 rfl (lv_at hl 1 rfl) ?_
  refine lv_iconst (v := 0) hx hb dX11_read_17 (by decide) ?_
  refine va_put (D := (dC, dI)) (ci := 11) (v := .int 0) (ty := .int) (C := RX11) (T := TX11) (N := 16) hx hb hts in_x_read_11 tyX11 tyX11_ok nmX11 hown hK hP hD hS 0 rfl rfl 1 (by decide) (hts (.fieldLink RX11 87 "LineKeeper" "taped" "I") (List.mem_of_getElem? (i := 3) rfl)) (fun _ h9 => h9) rfl (tyX11_ok 1 (by decide)) rfl rfl (Nat.le_of_ble_eq_true rfl) dX11_read_18 (fun H locs hP hD hS => ?_)
  have hP : va_P (dC, dI) vwCl [(h0, .inr (11, fsX g)), ((g 8), .inr (7, [.ref (g 4), .int 0, .int 0, .int 0, .ref (g904 4), .ref (g904 5), .ref (g904 6), .ref (g904 7), .ref (g904 8), .ref (g904 9), .int 0, .int 0, .int 0, .int 0, .null, .int 0, .int 0])), ((g 5), .inr (5, [.ref (g902 0), .ref (g902 1), .ref (g902 2), .ref (g902 3), .ref (g902 4), .int 0, .ref (g902 6), .ref (g902 7), .ref (g902 8), .int 0, .int 0, .int (-1), .int 0, .int 0, .int 0, .ref (g902 15), .ref (g902 16), .int 0, .int 0])), ((g902 0), .inr (9, [.ref (g903 0), .ref (g903 1), .ref (g903 2), .int 0, .int 264, .int 0, .int 0])), ((g903 0), .inl (cA902, 1201, .inl (upd (fun _ => 0) (0 : Int32).toNatClampNeg 264))), ((g903 1), .inl (cA903, 1201, .inl (upd (fun _ => 0) (0 : Int32).toNatClampNeg 0))), ((g903 2), .inl (cA904, 1201, .inl (upd (fun _ => 0) (0 : Int32).toNatClampNeg 0))), ((g 0), .inl (cA901, 1200, .inl (fun _ => 0)))] H := hP
  have hD : va_D A [(h0, .inr (11, fsX g)), ((g 8), .inr (7, [.ref (g 4), .int 0, .int 0, .int 0, .ref (g904 4), .ref (g904 5), .ref (g904 6), .ref (g904 7), .ref (g904 8), .ref (g904 9), .int 0, .int 0, .int 0, .int 0, .null, .int 0, .int 0])), ((g 5), .inr (5, [.ref (g902 0), .ref (g902 1), .ref (g902 2), .ref (g902 3), .ref (g902 4), .int 0, .ref (g902 6), .ref (g902 7), .ref (g902 8), .int 0, .int 0, .int (-1), .int 0, .int 0, .int 0, .ref (g902 15), .ref (g902 16), .int 0, .int 0])), ((g902 0), .inr (9, [.ref (g903 0), .ref (g903 1), .ref (g903 2), .int 0, .int 264, .int 0, .int 0])), ((g903 0), .inl (cA902, 1201, .inl (upd (fun _ => 0) (0 : Int32).toNatClampNeg 264))), ((g903 1), .inl (cA903, 1201, .inl (upd (fun _ => 0) (0 : Int32).toNatClampNeg 0))), ((g903 2), .inl (cA904, 1201, .inl (upd (fun _ => 0) (0 : Int32).toNatClampNeg 0))), ((g 0), .inl (cA901, 1200, .inl (fun _ => 0)))] := hD
  refine lv_aload_n hx hb dX11_read_21 rfl (lv_at hl 1 rfl) ?_
  refine lv_aload_n hx hb dX11_read_22 rfl (lv_at hl 1 rfl) ?_
  refine va_get (D := (dC, dI)) (ci := 11) (v := .ref (g 5)) (C := RX11) (T := TX11) (N := 16) hx hb hts in_x_read_11 hown hK hP 0 rfl rfl 5 (by decide) (hts (.fieldLink RX11 25 "LineKeeper" "reader" "LLineKeeper$Reader;") (List.mem_of_getElem? (i := 1) rfl)) (fun _ h9 => h9) rfl dX11_read_23 ?_
  refine va_get (D := (dC, dI)) (ci := 5) (v := .int 0) (C := RX5) (T := TX5) (N := 19) hx hb hts in_x_read_5 hown hK hP 2 rfl rfl 10 (by decide) (hts (.fieldLink RX11 98 "LineKeeper$Reader" "fault" "I") (List.mem_of_getElem? (i := 50) rfl)) (fun _ h9 => h9) rfl dX11_read_26 ?_
  refine va_put (D := (dC, dI)) (ci := 11) (v := .int 0) (ty := .int) (C := RX11) (T := TX11) (N := 16) hx hb hts in_x_read_11 tyX11 tyX11_ok nmX11 hown hK hP hD hS 0 rfl rfl 9 (by decide) (hts (.fieldLink RX11 101 "LineKeeper" "readFault" "I") (List.mem_of_getElem? (i := 51) rfl)) (fun _ h9 => h9) rfl (tyX11_ok 9 (by decide)) rfl rfl (Nat.le_of_ble_eq_true rfl) dX11_read_29 (fun H locs hP hD hS => ?_)
  have hP : va_P (dC, dI) vwCl [(h0, .inr (11, fsX g)), ((g 8), .inr (7, [.ref (g 4), .int 0, .int 0, .int 0, .ref (g904 4), .ref (g904 5), .ref (g904 6), .ref (g904 7), .ref (g904 8), .ref (g904 9), .int 0, .int 0, .int 0, .int 0, .null, .int 0, .int 0])), ((g 5), .inr (5, [.ref (g902 0), .ref (g902 1), .ref (g902 2), .ref (g902 3), .ref (g902 4), .int 0, .ref (g902 6), .ref (g902 7), .ref (g902 8), .int 0, .int 0, .int (-1), .int 0, .int 0, .int 0, .ref (g902 15), .ref (g902 16), .int 0, .int 0])), ((g902 0), .inr (9, [.ref (g903 0), .ref (g903 1), .ref (g903 2), .int 0, .int 264, .int 0, .int 0])), ((g903 0), .inl (cA902, 1201, .inl (upd (fun _ => 0) (0 : Int32).toNatClampNeg 264))), ((g903 1), .inl (cA903, 1201, .inl (upd (fun _ => 0) (0 : Int32).toNatClampNeg 0))), ((g903 2), .inl (cA904, 1201, .inl (upd (fun _ => 0) (0 : Int32).toNatClampNeg 0))), ((g 0), .inl (cA901, 1200, .inl (fun _ => 0)))] H := hP
  have hD : va_D A [(h0, .inr (11, fsX g)), ((g 8), .inr (7, [.ref (g 4), .int 0, .int 0, .int 0, .ref (g904 4), .ref (g904 5), .ref (g904 6), .ref (g904 7), .ref (g904 8), .ref (g904 9), .int 0, .int 0, .int 0, .int 0, .null, .int 0, .int 0])), ((g 5), .inr (5, [.ref (g902 0), .ref (g902 1), .ref (g902 2), .ref (g902 3), .ref (g902 4), .int 0, .ref (g902 6), .ref (g902 7), .ref (g902 8), .int 0, .int 0, .int (-1), .int 0, .int 0, .int 0, .ref (g902 15), .ref (g902 16), .int 0, .int 0])), ((g902 0), .inr (9, [.ref (g903 0), .ref (g903 1), .ref (g903 2), .int 0, .int 264, .int 0, .int 0])), ((g903 0), .inl (cA902, 1201, .inl (upd (fun _ => 0) (0 : Int32).toNatClampNeg 264))), ((g903 1), .inl (cA903, 1201, .inl (upd (fun _ => 0) (0 : Int32).toNatClampNeg 0))), ((g903 2), .inl (cA904, 1201, .inl (upd (fun _ => 0) (0 : Int32).toNatClampNeg 0))), ((g 0), .inl (cA901, 1200, .inl (fun _ => 0)))] := hD
  refine lv_aload_n hx hb dX11_read_32 rfl (lv_at hl 1 rfl) ?_
  refine lv_iload_n hx hb dX11_read_33 rfl (lv_at hl 0 rfl) ?_
  refine lv_if_eq (tgt := 41) hx hb dX11_read_34 (by decide) (fun h => absurd h (by decide)) (fun _ => ?_)
  refine lv_iconst (v := (-1)) hx hb dX11_read_37 (by decide) ?_
  refine lv_goto (tgt := 48) hx hb dX11_read_38 (by decide) ?_
  refine va_put (D := (dC, dI)) (ci := 11) (v := .int (-1)) (ty := .int) (C := RX11) (T := TX11) (N := 16) hx hb hts in_x_read_11 tyX11 tyX11_ok nmX11 hown hK hP hD hS 0 rfl rfl 10 (by decide) (hts (.fieldLink RX11 43 "LineKeeper" "readPlace" "I") (List.mem_of_getElem? (i := 52) rfl)) (fun _ h9 => h9) rfl (tyX11_ok 10 (by decide)) rfl rfl (Nat.le_of_ble_eq_true rfl) dX11_read_48 (fun H locs hP hD hS => ?_)
  have hP : va_P (dC, dI) vwCl [(h0, .inr (11, fsX g)), ((g 8), .inr (7, [.ref (g 4), .int 0, .int 0, .int 0, .ref (g904 4), .ref (g904 5), .ref (g904 6), .ref (g904 7), .ref (g904 8), .ref (g904 9), .int 0, .int 0, .int 0, .int 0, .null, .int 0, .int 0])), ((g 5), .inr (5, [.ref (g902 0), .ref (g902 1), .ref (g902 2), .ref (g902 3), .ref (g902 4), .int 0, .ref (g902 6), .ref (g902 7), .ref (g902 8), .int 0, .int 0, .int (-1), .int 0, .int 0, .int 0, .ref (g902 15), .ref (g902 16), .int 0, .int 0])), ((g902 0), .inr (9, [.ref (g903 0), .ref (g903 1), .ref (g903 2), .int 0, .int 264, .int 0, .int 0])), ((g903 0), .inl (cA902, 1201, .inl (upd (fun _ => 0) (0 : Int32).toNatClampNeg 264))), ((g903 1), .inl (cA903, 1201, .inl (upd (fun _ => 0) (0 : Int32).toNatClampNeg 0))), ((g903 2), .inl (cA904, 1201, .inl (upd (fun _ => 0) (0 : Int32).toNatClampNeg 0))), ((g 0), .inl (cA901, 1200, .inl (fun _ => 0)))] H := hP
  have hD : va_D A [(h0, .inr (11, fsX g)), ((g 8), .inr (7, [.ref (g 4), .int 0, .int 0, .int 0, .ref (g904 4), .ref (g904 5), .ref (g904 6), .ref (g904 7), .ref (g904 8), .ref (g904 9), .int 0, .int 0, .int 0, .int 0, .null, .int 0, .int 0])), ((g 5), .inr (5, [.ref (g902 0), .ref (g902 1), .ref (g902 2), .ref (g902 3), .ref (g902 4), .int 0, .ref (g902 6), .ref (g902 7), .ref (g902 8), .int 0, .int 0, .int (-1), .int 0, .int 0, .int 0, .ref (g902 15), .ref (g902 16), .int 0, .int 0])), ((g902 0), .inr (9, [.ref (g903 0), .ref (g903 1), .ref (g903 2), .int 0, .int 264, .int 0, .int 0])), ((g903 0), .inl (cA902, 1201, .inl (upd (fun _ => 0) (0 : Int32).toNatClampNeg 264))), ((g903 1), .inl (cA903, 1201, .inl (upd (fun _ => 0) (0 : Int32).toNatClampNeg 0))), ((g903 2), .inl (cA904, 1201, .inl (upd (fun _ => 0) (0 : Int32).toNatClampNeg 0))), ((g 0), .inl (cA901, 1200, .inl (fun _ => 0)))] := hD
  refine lv_iload_n hx hb dX11_read_51 rfl (lv_at hl 0 rfl) ?_
  refine lv_if_ne (tgt := 57) hx hb dX11_read_52 (by decide) (fun _ => ?_) (fun h => absurd h (by decide))
  refine lv_aload_n hx hb dX11_read_57 rfl (lv_at hl 1 rfl) ?_
  refine lv_aload_n hx hb dX11_read_58 rfl (lv_at hl 1 rfl) ?_
  refine va_get (D := (dC, dI)) (ci := 11) (v := .ref (g 5)) (C := RX11) (T := TX11) (N := 16) hx hb hts in_x_read_11 hown hK hP 0 rfl rfl 5 (by decide) (hts (.fieldLink RX11 25 "LineKeeper" "reader" "LLineKeeper$Reader;") (List.mem_of_getElem? (i := 1) rfl)) (fun _ h9 => h9) rfl dX11_read_59 ?_
  refine va_get (D := (dC, dI)) (ci := 5) (v := .int 0) (C := RX5) (T := TX5) (N := 19) hx hb hts in_x_read_5 hown hK hP 2 rfl rfl 5 (by decide) (hts (.fieldLink RX11 107 "LineKeeper$Reader" "routines" "I") (List.mem_of_getElem? (i := 53) rfl)) (fun _ h9 => h9) rfl dX11_read_62 ?_
  refine lv_bipush (v := 6) hx hb dX11_read_65 (by decide) ?_
  refine va_mmin hx hb (by rw [hml]; exact hl.1.symm) hown (hts (.methodLink RX11 110 Lib.Math.min.name) (List.mem_of_getElem? (i := 54) rfl)) (hts (.static Lib.Math.min.name) (List.mem_of_getElem? (i := 11) rfl)) (hts (.initialized "java/lang/Math") (List.mem_of_getElem? (i := 12) rfl)) (hts (.code Lib.Math.min.name Lib.Math.min.code 2 (some .int)) (List.mem_of_getElem? (i := 13) rfl)) (Nat.le_of_ble_eq_true rfl) (Nat.le_of_ble_eq_true rfl) (Nat.le_of_ble_eq_true rfl) (Nat.le_of_ble_eq_true rfl) dX11_read_67 ?_
  refine vx_topc (v := 0) (by decide) ?_
  refine va_put (D := (dC, dI)) (ci := 11) (v := .int 0) (ty := .int) (C := RX11) (T := TX11) (N := 16) hx hb hts in_x_read_11 tyX11 tyX11_ok nmX11 hown hK hP hD hS 0 rfl rfl 2 (by decide) (hts (.fieldLink RX11 116 "LineKeeper" "routines" "I") (List.mem_of_getElem? (i := 55) rfl)) (fun _ h9 => h9) rfl (tyX11_ok 2 (by decide)) rfl rfl (Nat.le_of_ble_eq_true rfl) dX11_read_70 (fun H locs hP hD hS => ?_)
  have hP : va_P (dC, dI) vwCl [(h0, .inr (11, fsX g)), ((g 8), .inr (7, [.ref (g 4), .int 0, .int 0, .int 0, .ref (g904 4), .ref (g904 5), .ref (g904 6), .ref (g904 7), .ref (g904 8), .ref (g904 9), .int 0, .int 0, .int 0, .int 0, .null, .int 0, .int 0])), ((g 5), .inr (5, [.ref (g902 0), .ref (g902 1), .ref (g902 2), .ref (g902 3), .ref (g902 4), .int 0, .ref (g902 6), .ref (g902 7), .ref (g902 8), .int 0, .int 0, .int (-1), .int 0, .int 0, .int 0, .ref (g902 15), .ref (g902 16), .int 0, .int 0])), ((g902 0), .inr (9, [.ref (g903 0), .ref (g903 1), .ref (g903 2), .int 0, .int 264, .int 0, .int 0])), ((g903 0), .inl (cA902, 1201, .inl (upd (fun _ => 0) (0 : Int32).toNatClampNeg 264))), ((g903 1), .inl (cA903, 1201, .inl (upd (fun _ => 0) (0 : Int32).toNatClampNeg 0))), ((g903 2), .inl (cA904, 1201, .inl (upd (fun _ => 0) (0 : Int32).toNatClampNeg 0))), ((g 0), .inl (cA901, 1200, .inl (fun _ => 0)))] H := hP
  have hD : va_D A [(h0, .inr (11, fsX g)), ((g 8), .inr (7, [.ref (g 4), .int 0, .int 0, .int 0, .ref (g904 4), .ref (g904 5), .ref (g904 6), .ref (g904 7), .ref (g904 8), .ref (g904 9), .int 0, .int 0, .int 0, .int 0, .null, .int 0, .int 0])), ((g 5), .inr (5, [.ref (g902 0), .ref (g902 1), .ref (g902 2), .ref (g902 3), .ref (g902 4), .int 0, .ref (g902 6), .ref (g902 7), .ref (g902 8), .int 0, .int 0, .int (-1), .int 0, .int 0, .int 0, .ref (g902 15), .ref (g902 16), .int 0, .int 0])), ((g902 0), .inr (9, [.ref (g903 0), .ref (g903 1), .ref (g903 2), .int 0, .int 264, .int 0, .int 0])), ((g903 0), .inl (cA902, 1201, .inl (upd (fun _ => 0) (0 : Int32).toNatClampNeg 264))), ((g903 1), .inl (cA903, 1201, .inl (upd (fun _ => 0) (0 : Int32).toNatClampNeg 0))), ((g903 2), .inl (cA904, 1201, .inl (upd (fun _ => 0) (0 : Int32).toNatClampNeg 0))), ((g 0), .inl (cA901, 1200, .inl (fun _ => 0)))] := hD
  refine lv_iconst (v := 0) hx hb dX11_read_73 (by decide) ?_
  refine lv_istore_n (lv' := [(2, .int 0), (1, .int 1), (0, .ref h0)]) hx hb dX11_read_74 rfl hl (by decide) rfl (fun ls hl => ?_)
  refine lv_iload_n hx hb dX11_read_75 rfl (lv_at hl 0 rfl) ?_
  refine lv_aload_n hx hb dX11_read_76 rfl (lv_at hl 2 rfl) ?_
  refine va_get (D := (dC, dI)) (ci := 11) (v := .int 0) (C := RX11) (T := TX11) (N := 16) hx hb hts in_x_read_11 hown hK hP 0 rfl rfl 2 (by decide) (hts (.fieldLink RX11 116 "LineKeeper" "routines" "I") (List.mem_of_getElem? (i := 55) rfl)) (fun _ h9 => h9) rfl dX11_read_77 ?_
  refine lv_icmp_ge (tgt := 94) hx hb dX11_read_80 (by decide) (fun _ => ?_) (fun h => absurd (by decide) h)
  refine lv_aload_n hx hb dX11_read_94 rfl (lv_at hl 2 rfl) ?_
  refine va_get (D := (dC, dI)) (ci := 11) (v := .ref (g 8)) (C := RX11) (T := TX11) (N := 16) hx hb hts in_x_read_11 hown hK hP 0 rfl rfl 8 (by decide) (hts (.fieldLink RX11 83 "LineKeeper" "theRun" "LLineKeeper$Run;") (List.mem_of_getElem? (i := 56) rfl)) (fun _ h9 => h9) rfl dX11_read_95 ?_
  have hPc := hP.sub (ws' := [((g 8), .inr (7, [.ref (g 4), .int 0, .int 0, .int 0, .ref (g904 4), .ref (g904 5), .ref (g904 6), .ref (g904 7), .ref (g904 8), .ref (g904 9), .int 0, .int 0, .int 0, .int 0, .null, .int 0, .int 0]))]) [1] rfl
  have hDc := hD.sub (ws' := [((g 8), .inr (7, [.ref (g 4), .int 0, .int 0, .int 0, .ref (g904 4), .ref (g904 5), .ref (g904 6), .ref (g904 7), .ref (g904 8), .ref (g904 9), .int 0, .int 0, .int 0, .int 0, .null, .int 0, .int 0]))]) [1] (by decide) rfl
  have hKc := hK.sub (tys' := []) [] rfl
  have hFc := va_free (wc := [((g 8), .inr (7, [.ref (g 4), .int 0, .int 0, .int 0, .ref (g904 4), .ref (g904 5), .ref (g904 6), .ref (g904 7), .ref (g904 8), .ref (g904 9), .int 0, .int 0, .int 0, .int 0, .null, .int 0, .int 0]))]) hD hS hA [1] rfl
  refine va_callv (va_runV (As := []) (rest := []) ⟨hx, hb, hml, hown, hts⟩ (k_X7_forget_0 l dC dI g g904 H.size ) (cwV 0 hts g_x_read_k_X7_forget_0_120 rfl rfl rfl (by decide +kernel) ⟨(Nat.le_of_ble_eq_true rfl), (Nat.le_of_ble_eq_true rfl)⟩) (vx_preV (ci := 7) (q0 := 0) hPc hKc hDc hN rfl rfl) rfl rfl hl.1 rfl (lv_room (Nat.le_of_ble_eq_true rfl)) dX11_read_98 ⟨(Nat.le_of_ble_eq_true rfl), (Nat.le_of_ble_eq_true rfl)⟩) hS (fun q _ h => hFc q h) hFc (fun u t H1 locs ht hvm hw hB hz1 hk1 hS => ?_)
  obtain ⟨hP1, hK1, hD1⟩ := hB
  rw [ht] at hP1
  obtain ⟨hP, hD⟩ := va_join (wr := [(h0, .inr (11, fsX g)), ((g 5), .inr (5, [.ref (g902 0), .ref (g902 1), .ref (g902 2), .ref (g902 3), .ref (g902 4), .int 0, .ref (g902 6), .ref (g902 7), .ref (g902 8), .int 0, .int 0, .int (-1), .int 0, .int 0, .int 0, .ref (g902 15), .ref (g902 16), .int 0, .int 0])), ((g902 0), .inr (9, [.ref (g903 0), .ref (g903 1), .ref (g903 2), .int 0, .int 264, .int 0, .int 0])), ((g903 0), .inl (cA902, 1201, .inl (upd (fun _ => 0) (0 : Int32).toNatClampNeg 264))), ((g903 1), .inl (cA903, 1201, .inl (upd (fun _ => 0) (0 : Int32).toNatClampNeg 0))), ((g903 2), .inl (cA904, 1201, .inl (upd (fun _ => 0) (0 : Int32).toNatClampNeg 0))), ((g 0), .inl (cA901, 1200, .inl (fun _ => 0)))]) (w1 := [((g 8), .inr (7, [.ref (g 4), .int 0, .int 0, .int 0, .ref (g904 4), .ref (g904 5), .ref (g904 6), .ref (g904 7), .ref (g904 8), .ref (g904 9), .int 0, .int 0, .int 0, .int 0, .null, .int 0, .int 0]))]) hP hD [1] [0, 2, 3, 4, 5, 6, 7] rfl rfl (by decide) (by decide) hk1 hFc hP1 hD1
  generalize H1 = H at hP hS ⊢
  have hP : va_P (dC, dI) vwCl [(h0, .inr (11, fsX g)), ((g 5), .inr (5, [.ref (g902 0), .ref (g902 1), .ref (g902 2), .ref (g902 3), .ref (g902 4), .int 0, .ref (g902 6), .ref (g902 7), .ref (g902 8), .int 0, .int 0, .int (-1), .int 0, .int 0, .int 0, .ref (g902 15), .ref (g902 16), .int 0, .int 0])), ((g902 0), .inr (9, [.ref (g903 0), .ref (g903 1), .ref (g903 2), .int 0, .int 264, .int 0, .int 0])), ((g903 0), .inl (cA902, 1201, .inl (upd (fun _ => 0) (0 : Int32).toNatClampNeg 264))), ((g903 1), .inl (cA903, 1201, .inl (upd (fun _ => 0) (0 : Int32).toNatClampNeg 0))), ((g903 2), .inl (cA904, 1201, .inl (upd (fun _ => 0) (0 : Int32).toNatClampNeg 0))), ((g 0), .inl (cA901, 1200, .inl (fun _ => 0))), ((g 8), .inr (7, [.ref (g 4), .int 0, .int 0, .int 0, .ref (g904 4), .ref (g904 5), .ref (g904 6), .ref (g904 7), .ref (g904 8), .ref (g904 9), .int 0, .int 0, .int 0, .int 0, .null, .int 0, .int 0]))] H := hP
  have hD : va_D A [(h0, .inr (11, fsX g)), ((g 5), .inr (5, [.ref (g902 0), .ref (g902 1), .ref (g902 2), .ref (g902 3), .ref (g902 4), .int 0, .ref (g902 6), .ref (g902 7), .ref (g902 8), .int 0, .int 0, .int (-1), .int 0, .int 0, .int 0, .ref (g902 15), .ref (g902 16), .int 0, .int 0])), ((g902 0), .inr (9, [.ref (g903 0), .ref (g903 1), .ref (g903 2), .int 0, .int 264, .int 0, .int 0])), ((g903 0), .inl (cA902, 1201, .inl (upd (fun _ => 0) (0 : Int32).toNatClampNeg 264))), ((g903 1), .inl (cA903, 1201, .inl (upd (fun _ => 0) (0 : Int32).toNatClampNeg 0))), ((g903 2), .inl (cA904, 1201, .inl (upd (fun _ => 0) (0 : Int32).toNatClampNeg 0))), ((g 0), .inl (cA901, 1200, .inl (fun _ => 0))), ((g 8), .inr (7, [.ref (g 4), .int 0, .int 0, .int 0, .ref (g904 4), .ref (g904 5), .ref (g904 6), .ref (g904 7), .ref (g904 8), .ref (g904 9), .int 0, .int 0, .int 0, .int 0, .null, .int 0, .int 0]))] := hD
  refine W.widen (k := 0) (n := 0) (by decide) (by decide) ?_
  refine lv_aload_n hx hb dX11_read_101 rfl (lv_at hl 2 rfl) ?_
  refine va_get (D := (dC, dI)) (ci := 11) (v := .int 0) (C := RX11) (T := TX11) (N := 16) hx hb hts in_x_read_11 hown hK hP 0 rfl rfl 2 (by decide) (hts (.fieldLink RX11 116 "LineKeeper" "routines" "I") (List.mem_of_getElem? (i := 55) rfl)) (fun _ h9 => h9) rfl dX11_read_102 ?_
  have hP9 := hP.sub (ws' := []) [] rfl
  have hD9 := hD.sub (ws' := []) [] (by decide) rfl
  have hK9 := hK.sub (tys' := []) [] rfl
  exact W.iret (v := 0) hx hb hr (fun t ht hW => ⟨⟨0, (), rfl, rfl, by rw [ht]; exact hP9, va_K.moved hW.alike hK9, hD9⟩, hS.F ht⟩) hS.2.2 dX11_read_105

def w_x_fault : List Cond := .code yX11_fault cX11_fault 2 (some .int) :: ([.fieldLink RX11 43 "LineKeeper" "readPlace" "I", .fieldLink RX11 101 "LineKeeper" "readFault" "I"] ++ wsX110)
theorem in_x_fault_11 : ∀ w ∈ wsX110, w ∈ w_x_fault := fun _ h => List.mem_cons_of_mem _ (List.mem_append_right _ h)
set_option maxHeartbeats 4000000 in
set_option maxRecDepth 100000 in
theorem x_fault (l : Launch) (dC : Nat → ClassId) (dI : Nat → Nat → Nat) (h0 : Nat) (g : Nat → Nat) (p1 : Int32) (sz : Nat) : Met l yX11_fault w_x_fault { frames := 0, cells := 0, slots := 0, locals := 0 } (va_Pc [.ref h0, .int p1] (vx_pre dC dI [(h0, .inr (11, fsX g))] [] sz)) (va_Qi (fun (r : Int32) (_ : Unit) => r = md_fault p1) (fun _ t => vx_B dC dI (va_A [(h0, .inr (11, fsX g))] sz) [] [] t) (va_A [(h0, .inr (11, fsX g))] sz)) 0 0 (va_A [(h0, .inr (11, fsX g))] sz) := by
  refine Met.ofW (cc := cX11_fault) (maxL := 2) (ret := (some .int)) (by decide) rfl ?_
  intro p e s m args below meth c s₁ B hml hv
  obtain ⟨rfl, hsz, hP, hK, hD0, hN⟩ := hv
  have hx := B.exec
  have hb := B.bytes
  have hr := B.returns
  have hts := atoms_spec (ws := w_x_fault) B.pre
  have hown : s.vm.findClass RX11 = some m.cls := findClass_of_methodNamed B.named
  have hlocks := B.notSynchronized
  subst hsz
  have hD := hD0.self (sz := s.heap.size)
  generalize hAe : va_A [(h0, .inr (11, fsX g))] s.heap.size = A at hD ⊢
  have hA : ∀ q : Nat, s.heap.size ≤ q → A q := fun q h => by rw [← hAe]; exact Or.inr h
  obtain ⟨H, hHe⟩ : ∃ H, H = s.heap := ⟨_, rfl⟩
  rw [← hHe] at hP ⊢
  have hS : va_S A s.heap H [] := by rw [hHe]; exact va_S.rf
  have hl := lv_entry [.ref h0, .int p1] (n := 2) (Nat.le_of_ble_eq_true rfl)
  rw [lg_entry_eq]
  generalize (lg_sl [.ref h0, .int p1] ++ List.replicate (2 - (lg_sl [.ref h0, .int p1]).length) Slot.unset).toArray = ls at hl ⊢
  have hl : lv_has ls 2 [(0, .ref h0), (1, .int p1)] := hl
  refine lv_iload_n hx hb dX11_fault_0 rfl (lv_at hl 1 rfl) ?_
  refine lv_if_ne (tgt := 9) hx hb dX11_fault_1 (by decide) (fun c1 => ?_) (fun c1 => ?_)
  · refine lv_iload_n hx hb dX11_fault_9 rfl (lv_at hl 1 rfl) ?_
    refine lv_iconst (v := 1) hx hb dX11_fault_10 (by decide) ?_
    refine lv_icmp_ne (tgt := 21) hx hb dX11_fault_11 (by decide) (fun c2 => ?_) (fun c2 => ?_)
    · refine lv_iconst (v := (-1)) hx hb dX11_fault_21 (by decide) ?_
      have hP9 := hP.sub (ws' := []) [] rfl
      have hD9 := hD.sub (ws' := []) [] (by decide) rfl
      have hK9 := hK.sub (tys' := []) [] rfl
      exact W.iret (v := (-1)) hx hb hr (fun t ht hW => ⟨⟨(-1), (), rfl, md_fault_b c1, by rw [ht]; exact hP9, va_K.moved hW.alike hK9, hD9⟩, hS.F ht⟩) hS.2.2 dX11_fault_22
    · refine lv_aload_n hx hb dX11_fault_14 rfl (lv_at hl 0 rfl) ?_
      refine va_get (D := (dC, dI)) (ci := 11) (v := .int (-1)) (C := RX11) (T := TX11) (N := 16) hx hb hts in_x_fault_11 hown hK hP 0 rfl rfl 10 (by decide) (hts (.fieldLink RX11 43 "LineKeeper" "readPlace" "I") (List.mem_of_getElem? (i := 1) rfl)) (fun _ h9 => h9) rfl dX11_fault_15 ?_
      refine lv_goto (tgt := 22) hx hb dX11_fault_18 (by decide) ?_
      have hP9 := hP.sub (ws' := []) [] rfl
      have hD9 := hD.sub (ws' := []) [] (by decide) rfl
      have hK9 := hK.sub (tys' := []) [] rfl
      exact W.iret (v := (-1)) hx hb hr (fun t ht hW => ⟨⟨(-1), (), rfl, md_fault_b c1, by rw [ht]; exact hP9, va_K.moved hW.alike hK9, hD9⟩, hS.F ht⟩) hS.2.2 dX11_fault_22
  · refine lv_aload_n hx hb dX11_fault_4 rfl (lv_at hl 0 rfl) ?_
    refine va_get (D := (dC, dI)) (ci := 11) (v := .int 0) (C := RX11) (T := TX11) (N := 16) hx hb hts in_x_fault_11 hown hK hP 0 rfl rfl 9 (by decide) (hts (.fieldLink RX11 101 "LineKeeper" "readFault" "I") (List.mem_of_getElem? (i := 2) rfl)) (fun _ h9 => h9) rfl dX11_fault_5 ?_
    have hP9 := hP.sub (ws' := []) [] rfl
    have hD9 := hD.sub (ws' := []) [] (by decide) rfl
    have hK9 := hK.sub (tys' := []) [] rfl
    exact W.iret (v := 0) hx hb hr (fun t ht hW => ⟨⟨0, (), rfl, md_fault_a c1, by rw [ht]; exact hP9, va_K.moved hW.alike hK9, hD9⟩, hS.F ht⟩) hS.2.2 dX11_fault_8

def w_k_X11_codeOf_0 : List Cond := .code yX11_codeOf cX11_codeOf 2 (some (.object "LineKeeper$Code")) :: ([.fieldLink RX11 116 "LineKeeper" "routines" "I"] ++ wsX110)
theorem in_k_X11_codeOf_0_11 : ∀ w ∈ wsX110, w ∈ w_k_X11_codeOf_0 := fun _ h => List.mem_cons_of_mem _ (List.mem_append_right _ h)
set_option maxHeartbeats 4000000 in
set_option maxRecDepth 100000 in
theorem k_X11_codeOf_0 (l : Launch) (dC : Nat → ClassId) (dI : Nat → Nat → Nat) (h701 : Nat) (x701 : Int32) (g701 : Nat → Nat) (sz : Nat) : Met l yX11_codeOf w_k_X11_codeOf_0 { frames := 0, cells := 0, slots := 0, locals := 0 } (va_Pc [.ref h701, .int x701] (vx_pre dC dI [(h701, .inr (11, fsX g701))] [] sz)) (va_Qq (fun (r : Option Nat) (_ : Unit) => r = none) (fun _ t => vx_B dC dI (va_A [(h701, .inr (11, fsX g701))] sz) [(h701, .inr (11, fsX g701))] [] t) (va_A [(h701, .inr (11, fsX g701))] sz)) 0 0 (va_A [(h701, .inr (11, fsX g701))] sz) := by
  refine Met.ofW (cc := cX11_codeOf) (maxL := 2) (ret := (some (.object "LineKeeper$Code"))) (by decide) rfl ?_
  intro p e s m args below meth c s₁ B hml hv
  obtain ⟨rfl, hsz, hP, hK, hD0, hN⟩ := hv
  have hx := B.exec
  have hb := B.bytes
  have hr := B.returns
  have hts := atoms_spec (ws := w_k_X11_codeOf_0) B.pre
  have hown : s.vm.findClass RX11 = some m.cls := findClass_of_methodNamed B.named
  have hlocks := B.notSynchronized
  subst hsz
  have hD := hD0.self (sz := s.heap.size)
  generalize hAe : va_A [(h701, .inr (11, fsX g701))] s.heap.size = A at hD ⊢
  have hA : ∀ q : Nat, s.heap.size ≤ q → A q := fun q h => by rw [← hAe]; exact Or.inr h
  obtain ⟨H, hHe⟩ : ∃ H, H = s.heap := ⟨_, rfl⟩
  rw [← hHe] at hP ⊢
  have hS : va_S A s.heap H [] := by rw [hHe]; exact va_S.rf
  have hl := lv_entry [.ref h701, .int x701] (n := 2) (Nat.le_of_ble_eq_true rfl)
  rw [lg_entry_eq]
  generalize (lg_sl [.ref h701, .int x701] ++ List.replicate (2 - (lg_sl [.ref h701, .int x701]).length) Slot.unset).toArray = ls at hl ⊢
  have hl : lv_has ls 2 [(0, .ref h701), (1, .int x701)] := hl
  refine lv_iload_n hx hb dX11_codeOf_0 rfl (lv_at hl 1 rfl) ?_
  refine lv_if_lt (tgt := 30) hx hb dX11_codeOf_1 (by decide) (fun c1 => ?_) (fun c1 => ?_)
  · refine lv_null hx hb dX11_codeOf_30 ?_
    have hP9 := hP.sub (ws' := [(h701, .inr (11, fsX g701))]) [0] rfl
    have hD9 := hD.sub (ws' := [(h701, .inr (11, fsX g701))]) [0] (by decide) rfl
    have hK9 := hK.sub (tys' := []) [] rfl
    exact W.aret (v := .null) hx hb hr (Or.inl ⟨_, rfl⟩) (Or.inl rfl) (fun t ht hW => ⟨⟨none, (), rfl, rfl, by rw [ht]; exact hP9, va_K.moved hW.alike hK9, hD9⟩, hS.F ht⟩) hS.2.2 dX11_codeOf_31
  · refine lv_iload_n hx hb dX11_codeOf_4 rfl (lv_at hl 1 rfl) ?_
    refine lv_aload_n hx hb dX11_codeOf_5 rfl (lv_at hl 0 rfl) ?_
    refine va_get (D := (dC, dI)) (ci := 11) (v := .int 0) (C := RX11) (T := TX11) (N := 16) hx hb hts in_k_X11_codeOf_0_11 hown hK hP 0 rfl rfl 2 (by decide) (hts (.fieldLink RX11 116 "LineKeeper" "routines" "I") (List.mem_of_getElem? (i := 1) rfl)) (fun _ h9 => h9) rfl dX11_codeOf_6 ?_
    refine lv_icmp_ge (tgt := 30) hx hb dX11_codeOf_9 (by decide) (fun c2 => ?_) (fun c2 => absurd (vx_nlt c1) c2)
    refine lv_null hx hb dX11_codeOf_30 ?_
    have hP9 := hP.sub (ws' := [(h701, .inr (11, fsX g701))]) [0] rfl
    have hD9 := hD.sub (ws' := [(h701, .inr (11, fsX g701))]) [0] (by decide) rfl
    have hK9 := hK.sub (tys' := []) [] rfl
    exact W.aret (v := .null) hx hb hr (Or.inl ⟨_, rfl⟩) (Or.inl rfl) (fun t ht hW => ⟨⟨none, (), rfl, rfl, by rw [ht]; exact hP9, va_K.moved hW.alike hK9, hD9⟩, hS.F ht⟩) hS.2.2 dX11_codeOf_31

def w_x_routine : List Cond := .code yX11_routine cX11_routine 4 (some .int) :: ([.fieldLink RX11 116 "LineKeeper" "routines" "I", .code yX11_codeOf cX11_codeOf 2 (some (.object "LineKeeper$Code")), .initialized RX11, .methodLink RX11 123 yX11_codeOf, .instanceMethod yX11_codeOf, .selects RX11 yX11_codeOf yX11_codeOf] ++ wsX110)
theorem in_x_routine_11 : ∀ w ∈ wsX110, w ∈ w_x_routine := fun _ h => List.mem_cons_of_mem _ (List.mem_append_right _ h)
set_option maxRecDepth 100000 in
theorem g_x_routine_k_X11_codeOf_0_123 : GoodIn w_x_routine (wsV RX11 123 RX11 yX11_codeOf w_k_X11_codeOf_0) := goodIn_r _ [4, 5, 6, 3, 2, 1, 7, 8, 9, 10, 11, 12, 13, 14, 15, 16, 17, 18, 19, 20, 21, 22] (by decide +kernel) (by decide +kernel)
set_option maxHeartbeats 4000000 in
set_option maxRecDepth 100000 in
theorem x_routine (l : Launch) (dC : Nat → ClassId) (dI : Nat → Nat → Nat) (h0 : Nat) (g : Nat → Nat) (p1 : Int32) (p2 : Int32) (sz : Nat) : Met l yX11_routine w_x_routine { frames := 1, cells := 0, slots := 0, locals := 21 } (va_Pc [.ref h0, .int p1, .int p2] (vx_pre dC dI [(h0, .inr (11, fsX g))] [] sz)) (va_Qi (fun (r : Int32) (_ : Unit) => r = (-1)) (fun _ t => vx_B dC dI (va_A [(h0, .inr (11, fsX g))] sz) [] [] t) (va_A [(h0, .inr (11, fsX g))] sz)) 0 0 (va_A [(h0, .inr (11, fsX g))] sz) := by
  refine Met.ofW (cc := cX11_routine) (maxL := 4) (ret := (some .int)) (by decide) rfl ?_
  intro p e s m args below meth c s₁ B hml hv
  obtain ⟨rfl, hsz, hP, hK, hD0, hN⟩ := hv
  have hx := B.exec
  have hb := B.bytes
  have hr := B.returns
  have hts := atoms_spec (ws := w_x_routine) B.pre
  have hown : s.vm.findClass RX11 = some m.cls := findClass_of_methodNamed B.named
  have hlocks := B.notSynchronized
  subst hsz
  have hD := hD0.self (sz := s.heap.size)
  generalize hAe : va_A [(h0, .inr (11, fsX g))] s.heap.size = A at hD ⊢
  have hA : ∀ q : Nat, s.heap.size ≤ q → A q := fun q h => by rw [← hAe]; exact Or.inr h
  obtain ⟨H, hHe⟩ : ∃ H, H = s.heap := ⟨_, rfl⟩
  rw [← hHe] at hP ⊢
  have hS : va_S A s.heap H [] := by rw [hHe]; exact va_S.rf
  have hl := lv_entry [.ref h0, .int p1, .int p2] (n := 4) (Nat.le_of_ble_eq_true rfl)
  rw [lg_entry_eq]
  generalize (lg_sl [.ref h0, .int p1, .int p2] ++ List.replicate (4 - (lg_sl [.ref h0, .int p1, .int p2]).length) Slot.unset).toArray = ls at hl ⊢
  have hl : lv_has ls 4 [(0, .ref h0), (1, .int p1), (2, .int p2)] := hl
  refine lv_aload_n hx hb dX11_routine_0 rfl (lv_at hl 0 rfl) ?_
  refine lv_iload_n hx hb dX11_routine_1 rfl (lv_at hl 1 rfl) ?_
  have hPc := hP.sub (ws' := [(h0, .inr (11, fsX g))]) [0] rfl
  have hDc := hD.sub (ws' := [(h0, .inr (11, fsX g))]) [0] (by decide) rfl
  have hKc := hK.sub (tys' := []) [] rfl
  have hFc := va_free (wc := [(h0, .inr (11, fsX g))]) hD hS hA [0] rfl
  refine va_callq (va_runV (As := [.int p1]) (rest := []) ⟨hx, hb, hml, hown, hts⟩ (k_X11_codeOf_0 l dC dI h0 p1 g H.size ) (cwV 1 hts g_x_routine_k_X11_codeOf_0_123 rfl rfl rfl (by decide +kernel) ⟨(Nat.le_of_ble_eq_true rfl), (Nat.le_of_ble_eq_true rfl)⟩) (vx_preV (ci := 11) (q0 := 0) hPc hKc hDc hN rfl rfl) rfl rfl hl.1 rfl (lv_room (Nat.le_of_ble_eq_true rfl)) dX11_routine_2 ⟨(Nat.le_of_ble_eq_true rfl), (Nat.le_of_ble_eq_true rfl)⟩) hS (fun q _ h => hFc q h) hFc (fun r1 u t H1 locs ht hvm hw hB hz1 hk1 hS => ?_)
  obtain ⟨hP1, hK1, hD1⟩ := hB
  rw [ht] at hP1
  obtain ⟨hP, hD⟩ := va_join (wr := []) (w1 := [(h0, .inr (11, fsX g))]) hP hD [0] [] rfl rfl (by decide) (by decide) hk1 hFc hP1 hD1
  generalize H1 = H at hP hS ⊢
  have hP : va_P (dC, dI) vwCl [(h0, .inr (11, fsX g))] H := hP
  have hD : va_D A [(h0, .inr (11, fsX g))] := hD
  refine W.widen (k := 0) (n := 0) (by decide) (by decide) ?_
  try dsimp only at hw
  subst hw
  refine vx_topv (v := .null) rfl ?_
  refine lv_astore_nN (lv' := [(3, .null), (0, .ref h0), (1, .int p1), (2, .int p2)]) hx hb dX11_routine_5 rfl hl (by decide) rfl (fun ls hl => ?_)
  refine lv_aload_nN hx hb dX11_routine_6 rfl (lv_at hl 0 rfl) ?_
  refine lv_ifnullN (tgt := 14) hx hb dX11_routine_7 (by decide) ?_
  refine lv_iconst (v := (-1)) hx hb dX11_routine_14 (by decide) ?_
  have hP9 := hP.sub (ws' := []) [] rfl
  have hD9 := hD.sub (ws' := []) [] (by decide) rfl
  have hK9 := hK.sub (tys' := []) [] rfl
  exact W.iret (v := (-1)) hx hb hr (fun t ht hW => ⟨⟨(-1), (), rfl, rfl, by rw [ht]; exact hP9, va_K.moved hW.alike hK9, hD9⟩, hS.F ht⟩) hS.2.2 dX11_routine_15

def w_x_item : List Cond := .code yX11_item cX11_item 5 (some .int) :: ([.fieldLink RX11 116 "LineKeeper" "routines" "I", .code yX11_codeOf cX11_codeOf 2 (some (.object "LineKeeper$Code")), .initialized RX11, .methodLink RX11 123 yX11_codeOf, .instanceMethod yX11_codeOf, .selects RX11 yX11_codeOf yX11_codeOf] ++ wsX110)
theorem in_x_item_11 : ∀ w ∈ wsX110, w ∈ w_x_item := fun _ h => List.mem_cons_of_mem _ (List.mem_append_right _ h)
set_option maxRecDepth 100000 in
theorem g_x_item_k_X11_codeOf_0_123 : GoodIn w_x_item (wsV RX11 123 RX11 yX11_codeOf w_k_X11_codeOf_0) := goodIn_r _ [4, 5, 6, 3, 2, 1, 7, 8, 9, 10, 11, 12, 13, 14, 15, 16, 17, 18, 19, 20, 21, 22] (by decide +kernel) (by decide +kernel)
set_option maxHeartbeats 4000000 in
set_option maxRecDepth 100000 in
theorem x_item (l : Launch) (dC : Nat → ClassId) (dI : Nat → Nat → Nat) (h0 : Nat) (g : Nat → Nat) (p1 : Int32) (p2 : Int32) (p3 : Int32) (sz : Nat) : Met l yX11_item w_x_item { frames := 1, cells := 0, slots := 0, locals := 21 } (va_Pc [.ref h0, .int p1, .int p2, .int p3] (vx_pre dC dI [(h0, .inr (11, fsX g))] [] sz)) (va_Qi (fun (r : Int32) (_ : Unit) => r = (-1)) (fun _ t => vx_B dC dI (va_A [(h0, .inr (11, fsX g))] sz) [] [] t) (va_A [(h0, .inr (11, fsX g))] sz)) 0 0 (va_A [(h0, .inr (11, fsX g))] sz) := by
  refine Met.ofW (cc := cX11_item) (maxL := 5) (ret := (some .int)) (by decide) rfl ?_
  intro p e s m args below meth c s₁ B hml hv
  obtain ⟨rfl, hsz, hP, hK, hD0, hN⟩ := hv
  have hx := B.exec
  have hb := B.bytes
  have hr := B.returns
  have hts := atoms_spec (ws := w_x_item) B.pre
  have hown : s.vm.findClass RX11 = some m.cls := findClass_of_methodNamed B.named
  have hlocks := B.notSynchronized
  subst hsz
  have hD := hD0.self (sz := s.heap.size)
  generalize hAe : va_A [(h0, .inr (11, fsX g))] s.heap.size = A at hD ⊢
  have hA : ∀ q : Nat, s.heap.size ≤ q → A q := fun q h => by rw [← hAe]; exact Or.inr h
  obtain ⟨H, hHe⟩ : ∃ H, H = s.heap := ⟨_, rfl⟩
  rw [← hHe] at hP ⊢
  have hS : va_S A s.heap H [] := by rw [hHe]; exact va_S.rf
  have hl := lv_entry [.ref h0, .int p1, .int p2, .int p3] (n := 5) (Nat.le_of_ble_eq_true rfl)
  rw [lg_entry_eq]
  generalize (lg_sl [.ref h0, .int p1, .int p2, .int p3] ++ List.replicate (5 - (lg_sl [.ref h0, .int p1, .int p2, .int p3]).length) Slot.unset).toArray = ls at hl ⊢
  have hl : lv_has ls 5 [(0, .ref h0), (1, .int p1), (2, .int p2), (3, .int p3)] := hl
  refine lv_aload_n hx hb dX11_item_0 rfl (lv_at hl 0 rfl) ?_
  refine lv_iload_n hx hb dX11_item_1 rfl (lv_at hl 1 rfl) ?_
  have hPc := hP.sub (ws' := [(h0, .inr (11, fsX g))]) [0] rfl
  have hDc := hD.sub (ws' := [(h0, .inr (11, fsX g))]) [0] (by decide) rfl
  have hKc := hK.sub (tys' := []) [] rfl
  have hFc := va_free (wc := [(h0, .inr (11, fsX g))]) hD hS hA [0] rfl
  refine va_callq (va_runV (As := [.int p1]) (rest := []) ⟨hx, hb, hml, hown, hts⟩ (k_X11_codeOf_0 l dC dI h0 p1 g H.size ) (cwV 1 hts g_x_item_k_X11_codeOf_0_123 rfl rfl rfl (by decide +kernel) ⟨(Nat.le_of_ble_eq_true rfl), (Nat.le_of_ble_eq_true rfl)⟩) (vx_preV (ci := 11) (q0 := 0) hPc hKc hDc hN rfl rfl) rfl rfl hl.1 rfl (lv_room (Nat.le_of_ble_eq_true rfl)) dX11_item_2 ⟨(Nat.le_of_ble_eq_true rfl), (Nat.le_of_ble_eq_true rfl)⟩) hS (fun q _ h => hFc q h) hFc (fun r1 u t H1 locs ht hvm hw hB hz1 hk1 hS => ?_)
  obtain ⟨hP1, hK1, hD1⟩ := hB
  rw [ht] at hP1
  obtain ⟨hP, hD⟩ := va_join (wr := []) (w1 := [(h0, .inr (11, fsX g))]) hP hD [0] [] rfl rfl (by decide) (by decide) hk1 hFc hP1 hD1
  generalize H1 = H at hP hS ⊢
  have hP : va_P (dC, dI) vwCl [(h0, .inr (11, fsX g))] H := hP
  have hD : va_D A [(h0, .inr (11, fsX g))] := hD
  refine W.widen (k := 0) (n := 0) (by decide) (by decide) ?_
  try dsimp only at hw
  subst hw
  refine vx_topv (v := .null) rfl ?_
  refine lv_astoreN (lv' := [(4, .null), (0, .ref h0), (1, .int p1), (2, .int p2), (3, .int p3)]) hx hb dX11_item_5 hl (by decide) rfl (fun ls hl => ?_)
  refine lv_aloadN hx hb dX11_item_7 (lv_at hl 0 rfl) ?_
  refine lv_ifnullN (tgt := 37) hx hb dX11_item_9 (by decide) ?_
  refine lv_iconst (v := (-1)) hx hb dX11_item_37 (by decide) ?_
  have hP9 := hP.sub (ws' := []) [] rfl
  have hD9 := hD.sub (ws' := []) [] (by decide) rfl
  have hK9 := hK.sub (tys' := []) [] rfl
  exact W.iret (v := (-1)) hx hb hr (fun t ht hW => ⟨⟨(-1), (), rfl, rfl, by rw [ht]; exact hP9, va_K.moved hW.alike hK9, hD9⟩, hS.F ht⟩) hS.2.2 dX11_item_38

def w_x_frame : List Cond := .code yX11_frame cX11_frame 5 (some .int) :: ([.fieldLink RX11 116 "LineKeeper" "routines" "I", .code yX11_codeOf cX11_codeOf 2 (some (.object "LineKeeper$Code")), .initialized RX11, .methodLink RX11 123 yX11_codeOf, .instanceMethod yX11_codeOf, .selects RX11 yX11_codeOf yX11_codeOf] ++ wsX110)
theorem in_x_frame_11 : ∀ w ∈ wsX110, w ∈ w_x_frame := fun _ h => List.mem_cons_of_mem _ (List.mem_append_right _ h)
set_option maxRecDepth 100000 in
theorem g_x_frame_k_X11_codeOf_0_123 : GoodIn w_x_frame (wsV RX11 123 RX11 yX11_codeOf w_k_X11_codeOf_0) := goodIn_r _ [4, 5, 6, 3, 2, 1, 7, 8, 9, 10, 11, 12, 13, 14, 15, 16, 17, 18, 19, 20, 21, 22] (by decide +kernel) (by decide +kernel)
set_option maxHeartbeats 4000000 in
set_option maxRecDepth 100000 in
theorem x_frame (l : Launch) (dC : Nat → ClassId) (dI : Nat → Nat → Nat) (h0 : Nat) (g : Nat → Nat) (p1 : Int32) (p2 : Int32) (p3 : Int32) (sz : Nat) : Met l yX11_frame w_x_frame { frames := 1, cells := 0, slots := 0, locals := 21 } (va_Pc [.ref h0, .int p1, .int p2, .int p3] (vx_pre dC dI [(h0, .inr (11, fsX g))] [] sz)) (va_Qi (fun (r : Int32) (_ : Unit) => r = (-1)) (fun _ t => vx_B dC dI (va_A [(h0, .inr (11, fsX g))] sz) [] [] t) (va_A [(h0, .inr (11, fsX g))] sz)) 0 0 (va_A [(h0, .inr (11, fsX g))] sz) := by
  refine Met.ofW (cc := cX11_frame) (maxL := 5) (ret := (some .int)) (by decide) rfl ?_
  intro p e s m args below meth c s₁ B hml hv
  obtain ⟨rfl, hsz, hP, hK, hD0, hN⟩ := hv
  have hx := B.exec
  have hb := B.bytes
  have hr := B.returns
  have hts := atoms_spec (ws := w_x_frame) B.pre
  have hown : s.vm.findClass RX11 = some m.cls := findClass_of_methodNamed B.named
  have hlocks := B.notSynchronized
  subst hsz
  have hD := hD0.self (sz := s.heap.size)
  generalize hAe : va_A [(h0, .inr (11, fsX g))] s.heap.size = A at hD ⊢
  have hA : ∀ q : Nat, s.heap.size ≤ q → A q := fun q h => by rw [← hAe]; exact Or.inr h
  obtain ⟨H, hHe⟩ : ∃ H, H = s.heap := ⟨_, rfl⟩
  rw [← hHe] at hP ⊢
  have hS : va_S A s.heap H [] := by rw [hHe]; exact va_S.rf
  have hl := lv_entry [.ref h0, .int p1, .int p2, .int p3] (n := 5) (Nat.le_of_ble_eq_true rfl)
  rw [lg_entry_eq]
  generalize (lg_sl [.ref h0, .int p1, .int p2, .int p3] ++ List.replicate (5 - (lg_sl [.ref h0, .int p1, .int p2, .int p3]).length) Slot.unset).toArray = ls at hl ⊢
  have hl : lv_has ls 5 [(0, .ref h0), (1, .int p1), (2, .int p2), (3, .int p3)] := hl
  refine lv_aload_n hx hb dX11_frame_0 rfl (lv_at hl 0 rfl) ?_
  refine lv_iload_n hx hb dX11_frame_1 rfl (lv_at hl 1 rfl) ?_
  have hPc := hP.sub (ws' := [(h0, .inr (11, fsX g))]) [0] rfl
  have hDc := hD.sub (ws' := [(h0, .inr (11, fsX g))]) [0] (by decide) rfl
  have hKc := hK.sub (tys' := []) [] rfl
  have hFc := va_free (wc := [(h0, .inr (11, fsX g))]) hD hS hA [0] rfl
  refine va_callq (va_runV (As := [.int p1]) (rest := []) ⟨hx, hb, hml, hown, hts⟩ (k_X11_codeOf_0 l dC dI h0 p1 g H.size ) (cwV 1 hts g_x_frame_k_X11_codeOf_0_123 rfl rfl rfl (by decide +kernel) ⟨(Nat.le_of_ble_eq_true rfl), (Nat.le_of_ble_eq_true rfl)⟩) (vx_preV (ci := 11) (q0 := 0) hPc hKc hDc hN rfl rfl) rfl rfl hl.1 rfl (lv_room (Nat.le_of_ble_eq_true rfl)) dX11_frame_2 ⟨(Nat.le_of_ble_eq_true rfl), (Nat.le_of_ble_eq_true rfl)⟩) hS (fun q _ h => hFc q h) hFc (fun r1 u t H1 locs ht hvm hw hB hz1 hk1 hS => ?_)
  obtain ⟨hP1, hK1, hD1⟩ := hB
  rw [ht] at hP1
  obtain ⟨hP, hD⟩ := va_join (wr := []) (w1 := [(h0, .inr (11, fsX g))]) hP hD [0] [] rfl rfl (by decide) (by decide) hk1 hFc hP1 hD1
  generalize H1 = H at hP hS ⊢
  have hP : va_P (dC, dI) vwCl [(h0, .inr (11, fsX g))] H := hP
  have hD : va_D A [(h0, .inr (11, fsX g))] := hD
  refine W.widen (k := 0) (n := 0) (by decide) (by decide) ?_
  try dsimp only at hw
  subst hw
  refine vx_topv (v := .null) rfl ?_
  refine lv_astoreN (lv' := [(4, .null), (0, .ref h0), (1, .int p1), (2, .int p2), (3, .int p3)]) hx hb dX11_frame_5 hl (by decide) rfl (fun ls hl => ?_)
  refine lv_aloadN hx hb dX11_frame_7 (lv_at hl 0 rfl) ?_
  refine lv_ifnullN (tgt := 25) hx hb dX11_frame_9 (by decide) ?_
  refine lv_iconst (v := (-1)) hx hb dX11_frame_25 (by decide) ?_
  have hP9 := hP.sub (ws' := []) [] rfl
  have hD9 := hD.sub (ws' := []) [] (by decide) rfl
  have hK9 := hK.sub (tys' := []) [] rfl
  exact W.iret (v := (-1)) hx hb hr (fun t ht hW => ⟨⟨(-1), (), rfl, rfl, by rw [ht]; exact hP9, va_K.moved hW.alike hK9, hD9⟩, hS.F ht⟩) hS.2.2 dX11_frame_26

def w_x_told : List Cond := .code yX11_told cX11_told 8 (some .int) :: ([.fieldLink RX11 116 "LineKeeper" "routines" "I", .code yX11_codeOf cX11_codeOf 2 (some (.object "LineKeeper$Code")), .initialized RX11, .methodLink RX11 123 yX11_codeOf, .instanceMethod yX11_codeOf, .selects RX11 yX11_codeOf yX11_codeOf] ++ wsX110)
theorem in_x_told_11 : ∀ w ∈ wsX110, w ∈ w_x_told := fun _ h => List.mem_cons_of_mem _ (List.mem_append_right _ h)
set_option maxRecDepth 100000 in
theorem g_x_told_k_X11_codeOf_0_123 : GoodIn w_x_told (wsV RX11 123 RX11 yX11_codeOf w_k_X11_codeOf_0) := goodIn_r _ [4, 5, 6, 3, 2, 1, 7, 8, 9, 10, 11, 12, 13, 14, 15, 16, 17, 18, 19, 20, 21, 22] (by decide +kernel) (by decide +kernel)
set_option maxHeartbeats 4000000 in
set_option maxRecDepth 100000 in
theorem x_told (l : Launch) (dC : Nat → ClassId) (dI : Nat → Nat → Nat) (h0 : Nat) (g : Nat → Nat) (p1 : Int32) (p2 : Int32) (p3 : Int32) (p4 : Int32) (p5 : Int32) (sz : Nat) : Met l yX11_told w_x_told { frames := 1, cells := 0, slots := 0, locals := 21 } (va_Pc [.ref h0, .int p1, .int p2, .int p3, .int p4, .int p5] (vx_pre dC dI [(h0, .inr (11, fsX g))] [] sz)) (va_Qi (fun (r : Int32) (_ : Unit) => r = (-1)) (fun _ t => vx_B dC dI (va_A [(h0, .inr (11, fsX g))] sz) [] [] t) (va_A [(h0, .inr (11, fsX g))] sz)) 0 0 (va_A [(h0, .inr (11, fsX g))] sz) := by
  refine Met.ofW (cc := cX11_told) (maxL := 8) (ret := (some .int)) (by decide) rfl ?_
  intro p e s m args below meth c s₁ B hml hv
  obtain ⟨rfl, hsz, hP, hK, hD0, hN⟩ := hv
  have hx := B.exec
  have hb := B.bytes
  have hr := B.returns
  have hts := atoms_spec (ws := w_x_told) B.pre
  have hown : s.vm.findClass RX11 = some m.cls := findClass_of_methodNamed B.named
  have hlocks := B.notSynchronized
  subst hsz
  have hD := hD0.self (sz := s.heap.size)
  generalize hAe : va_A [(h0, .inr (11, fsX g))] s.heap.size = A at hD ⊢
  have hA : ∀ q : Nat, s.heap.size ≤ q → A q := fun q h => by rw [← hAe]; exact Or.inr h
  obtain ⟨H, hHe⟩ : ∃ H, H = s.heap := ⟨_, rfl⟩
  rw [← hHe] at hP ⊢
  have hS : va_S A s.heap H [] := by rw [hHe]; exact va_S.rf
  have hl := lv_entry [.ref h0, .int p1, .int p2, .int p3, .int p4, .int p5] (n := 8) (Nat.le_of_ble_eq_true rfl)
  rw [lg_entry_eq]
  generalize (lg_sl [.ref h0, .int p1, .int p2, .int p3, .int p4, .int p5] ++ List.replicate (8 - (lg_sl [.ref h0, .int p1, .int p2, .int p3, .int p4, .int p5]).length) Slot.unset).toArray = ls at hl ⊢
  have hl : lv_has ls 8 [(0, .ref h0), (1, .int p1), (2, .int p2), (3, .int p3), (4, .int p4), (5, .int p5)] := hl
  refine lv_aload_n hx hb dX11_told_0 rfl (lv_at hl 0 rfl) ?_
  refine lv_iload_n hx hb dX11_told_1 rfl (lv_at hl 1 rfl) ?_
  have hPc := hP.sub (ws' := [(h0, .inr (11, fsX g))]) [0] rfl
  have hDc := hD.sub (ws' := [(h0, .inr (11, fsX g))]) [0] (by decide) rfl
  have hKc := hK.sub (tys' := []) [] rfl
  have hFc := va_free (wc := [(h0, .inr (11, fsX g))]) hD hS hA [0] rfl
  refine va_callq (va_runV (As := [.int p1]) (rest := []) ⟨hx, hb, hml, hown, hts⟩ (k_X11_codeOf_0 l dC dI h0 p1 g H.size ) (cwV 1 hts g_x_told_k_X11_codeOf_0_123 rfl rfl rfl (by decide +kernel) ⟨(Nat.le_of_ble_eq_true rfl), (Nat.le_of_ble_eq_true rfl)⟩) (vx_preV (ci := 11) (q0 := 0) hPc hKc hDc hN rfl rfl) rfl rfl hl.1 rfl (lv_room (Nat.le_of_ble_eq_true rfl)) dX11_told_2 ⟨(Nat.le_of_ble_eq_true rfl), (Nat.le_of_ble_eq_true rfl)⟩) hS (fun q _ h => hFc q h) hFc (fun r1 u t H1 locs ht hvm hw hB hz1 hk1 hS => ?_)
  obtain ⟨hP1, hK1, hD1⟩ := hB
  rw [ht] at hP1
  obtain ⟨hP, hD⟩ := va_join (wr := []) (w1 := [(h0, .inr (11, fsX g))]) hP hD [0] [] rfl rfl (by decide) (by decide) hk1 hFc hP1 hD1
  generalize H1 = H at hP hS ⊢
  have hP : va_P (dC, dI) vwCl [(h0, .inr (11, fsX g))] H := hP
  have hD : va_D A [(h0, .inr (11, fsX g))] := hD
  refine W.widen (k := 0) (n := 0) (by decide) (by decide) ?_
  try dsimp only at hw
  subst hw
  refine vx_topv (v := .null) rfl ?_
  refine lv_astoreN (lv' := [(6, .null), (0, .ref h0), (1, .int p1), (2, .int p2), (3, .int p3), (4, .int p4), (5, .int p5)]) hx hb dX11_told_5 hl (by decide) rfl (fun ls hl => ?_)
  refine lv_aloadN hx hb dX11_told_7 (lv_at hl 0 rfl) ?_
  refine lv_ifnullN (tgt := 47) hx hb dX11_told_9 (by decide) ?_
  refine lv_iconst (v := (-1)) hx hb dX11_told_47 (by decide) ?_
  have hP9 := hP.sub (ws' := []) [] rfl
  have hD9 := hD.sub (ws' := []) [] (by decide) rfl
  have hK9 := hK.sub (tys' := []) [] rfl
  exact W.iret (v := (-1)) hx hb hr (fun t ht hW => ⟨⟨(-1), (), rfl, rfl, by rw [ht]; exact hP9, va_K.moved hW.alike hK9, hD9⟩, hS.F ht⟩) hS.2.2 dX11_told_48

def w_x_pass : List Cond := .code yX11_pass cX11_pass 5 (some .int) :: ([.fieldLink RX11 116 "LineKeeper" "routines" "I", .code yX11_codeOf cX11_codeOf 2 (some (.object "LineKeeper$Code")), .initialized RX11, .methodLink RX11 123 yX11_codeOf, .instanceMethod yX11_codeOf, .selects RX11 yX11_codeOf yX11_codeOf] ++ wsX110)
theorem in_x_pass_11 : ∀ w ∈ wsX110, w ∈ w_x_pass := fun _ h => List.mem_cons_of_mem _ (List.mem_append_right _ h)
set_option maxRecDepth 100000 in
theorem g_x_pass_k_X11_codeOf_0_123 : GoodIn w_x_pass (wsV RX11 123 RX11 yX11_codeOf w_k_X11_codeOf_0) := goodIn_r _ [4, 5, 6, 3, 2, 1, 7, 8, 9, 10, 11, 12, 13, 14, 15, 16, 17, 18, 19, 20, 21, 22] (by decide +kernel) (by decide +kernel)
set_option maxHeartbeats 4000000 in
set_option maxRecDepth 100000 in
theorem x_pass (l : Launch) (dC : Nat → ClassId) (dI : Nat → Nat → Nat) (h0 : Nat) (g : Nat → Nat) (p1 : Int32) (p2 : Int32) (sz : Nat) : Met l yX11_pass w_x_pass { frames := 1, cells := 0, slots := 0, locals := 21 } (va_Pc [.ref h0, .int p1, .int p2] (vx_pre dC dI [(h0, .inr (11, fsX g))] [] sz)) (va_Qi (fun (r : Int32) (_ : Unit) => r = (-1)) (fun _ t => vx_B dC dI (va_A [(h0, .inr (11, fsX g))] sz) [] [] t) (va_A [(h0, .inr (11, fsX g))] sz)) 0 0 (va_A [(h0, .inr (11, fsX g))] sz) := by
  refine Met.ofW (cc := cX11_pass) (maxL := 5) (ret := (some .int)) (by decide) rfl ?_
  intro p e s m args below meth c s₁ B hml hv
  obtain ⟨rfl, hsz, hP, hK, hD0, hN⟩ := hv
  have hx := B.exec
  have hb := B.bytes
  have hr := B.returns
  have hts := atoms_spec (ws := w_x_pass) B.pre
  have hown : s.vm.findClass RX11 = some m.cls := findClass_of_methodNamed B.named
  have hlocks := B.notSynchronized
  subst hsz
  have hD := hD0.self (sz := s.heap.size)
  generalize hAe : va_A [(h0, .inr (11, fsX g))] s.heap.size = A at hD ⊢
  have hA : ∀ q : Nat, s.heap.size ≤ q → A q := fun q h => by rw [← hAe]; exact Or.inr h
  obtain ⟨H, hHe⟩ : ∃ H, H = s.heap := ⟨_, rfl⟩
  rw [← hHe] at hP ⊢
  have hS : va_S A s.heap H [] := by rw [hHe]; exact va_S.rf
  have hl := lv_entry [.ref h0, .int p1, .int p2] (n := 5) (Nat.le_of_ble_eq_true rfl)
  rw [lg_entry_eq]
  generalize (lg_sl [.ref h0, .int p1, .int p2] ++ List.replicate (5 - (lg_sl [.ref h0, .int p1, .int p2]).length) Slot.unset).toArray = ls at hl ⊢
  have hl : lv_has ls 5 [(0, .ref h0), (1, .int p1), (2, .int p2)] := hl
  refine lv_aload_n hx hb dX11_pass_0 rfl (lv_at hl 0 rfl) ?_
  refine lv_iload_n hx hb dX11_pass_1 rfl (lv_at hl 2 rfl) ?_
  have hPc := hP.sub (ws' := [(h0, .inr (11, fsX g))]) [0] rfl
  have hDc := hD.sub (ws' := [(h0, .inr (11, fsX g))]) [0] (by decide) rfl
  have hKc := hK.sub (tys' := []) [] rfl
  have hFc := va_free (wc := [(h0, .inr (11, fsX g))]) hD hS hA [0] rfl
  refine va_callq (va_runV (As := [.int p2]) (rest := []) ⟨hx, hb, hml, hown, hts⟩ (k_X11_codeOf_0 l dC dI h0 p2 g H.size ) (cwV 1 hts g_x_pass_k_X11_codeOf_0_123 rfl rfl rfl (by decide +kernel) ⟨(Nat.le_of_ble_eq_true rfl), (Nat.le_of_ble_eq_true rfl)⟩) (vx_preV (ci := 11) (q0 := 0) hPc hKc hDc hN rfl rfl) rfl rfl hl.1 rfl (lv_room (Nat.le_of_ble_eq_true rfl)) dX11_pass_2 ⟨(Nat.le_of_ble_eq_true rfl), (Nat.le_of_ble_eq_true rfl)⟩) hS (fun q _ h => hFc q h) hFc (fun r1 u t H1 locs ht hvm hw hB hz1 hk1 hS => ?_)
  obtain ⟨hP1, hK1, hD1⟩ := hB
  rw [ht] at hP1
  obtain ⟨hP, hD⟩ := va_join (wr := []) (w1 := [(h0, .inr (11, fsX g))]) hP hD [0] [] rfl rfl (by decide) (by decide) hk1 hFc hP1 hD1
  generalize H1 = H at hP hS ⊢
  have hP : va_P (dC, dI) vwCl [(h0, .inr (11, fsX g))] H := hP
  have hD : va_D A [(h0, .inr (11, fsX g))] := hD
  refine W.widen (k := 0) (n := 0) (by decide) (by decide) ?_
  try dsimp only at hw
  subst hw
  refine vx_topv (v := .null) rfl ?_
  refine lv_astore_nN (lv' := [(3, .null), (0, .ref h0), (1, .int p1), (2, .int p2)]) hx hb dX11_pass_5 rfl hl (by decide) rfl (fun ls hl => ?_)
  refine lv_aload_nN hx hb dX11_pass_6 rfl (lv_at hl 0 rfl) ?_
  refine lv_ifnullN (tgt := 19) hx hb dX11_pass_7 (by decide) ?_
  refine lv_iconst (v := (-1)) hx hb dX11_pass_19 (by decide) ?_
  have hP9 := hP.sub (ws' := []) [] rfl
  have hD9 := hD.sub (ws' := []) [] (by decide) rfl
  have hK9 := hK.sub (tys' := []) [] rfl
  exact W.iret (v := (-1)) hx hb hr (fun t ht hW => ⟨⟨(-1), (), rfl, rfl, by rw [ht]; exact hP9, va_K.moved hW.alike hK9, hD9⟩, hS.F ht⟩) hS.2.2 dX11_pass_20

def w_x_start : List Cond := .code yX11_start cX11_start 6 (some .boolean) :: ([.fieldLink RX11 116 "LineKeeper" "routines" "I", .code yX11_codeOf cX11_codeOf 2 (some (.object "LineKeeper$Code")), .initialized RX11, .methodLink RX11 123 yX11_codeOf, .instanceMethod yX11_codeOf, .selects RX11 yX11_codeOf yX11_codeOf] ++ wsX110)
theorem in_x_start_11 : ∀ w ∈ wsX110, w ∈ w_x_start := fun _ h => List.mem_cons_of_mem _ (List.mem_append_right _ h)
set_option maxRecDepth 100000 in
theorem g_x_start_k_X11_codeOf_0_123 : GoodIn w_x_start (wsV RX11 123 RX11 yX11_codeOf w_k_X11_codeOf_0) := goodIn_r _ [4, 5, 6, 3, 2, 1, 7, 8, 9, 10, 11, 12, 13, 14, 15, 16, 17, 18, 19, 20, 21, 22] (by decide +kernel) (by decide +kernel)
set_option maxHeartbeats 4000000 in
set_option maxRecDepth 100000 in
theorem x_start (l : Launch) (dC : Nat → ClassId) (dI : Nat → Nat → Nat) (h0 : Nat) (g : Nat → Nat) (p1 : Int32) (p2 : Int32) (p3 : Int32) (p4 : Int32) (p5 : Int32) (sz : Nat) : Met l yX11_start w_x_start { frames := 1, cells := 0, slots := 0, locals := 21 } (va_Pc [.ref h0, .int p1, .int p2, .int p3, .int p4, .int p5] (vx_pre dC dI [(h0, .inr (11, fsX g))] [] sz)) (va_Qi (fun (r : Int32) (_ : Unit) => r = 0) (fun _ t => vx_B dC dI (va_A [(h0, .inr (11, fsX g))] sz) [] [] t) (va_A [(h0, .inr (11, fsX g))] sz)) 0 0 (va_A [(h0, .inr (11, fsX g))] sz) := by
  refine Met.ofW (cc := cX11_start) (maxL := 6) (ret := (some .boolean)) (by decide) rfl ?_
  intro p e s m args below meth c s₁ B hml hv
  obtain ⟨rfl, hsz, hP, hK, hD0, hN⟩ := hv
  have hx := B.exec
  have hb := B.bytes
  have hr := B.returns
  have hts := atoms_spec (ws := w_x_start) B.pre
  have hown : s.vm.findClass RX11 = some m.cls := findClass_of_methodNamed B.named
  have hlocks := B.notSynchronized
  subst hsz
  have hD := hD0.self (sz := s.heap.size)
  generalize hAe : va_A [(h0, .inr (11, fsX g))] s.heap.size = A at hD ⊢
  have hA : ∀ q : Nat, s.heap.size ≤ q → A q := fun q h => by rw [← hAe]; exact Or.inr h
  obtain ⟨H, hHe⟩ : ∃ H, H = s.heap := ⟨_, rfl⟩
  rw [← hHe] at hP ⊢
  have hS : va_S A s.heap H [] := by rw [hHe]; exact va_S.rf
  have hl := lv_entry [.ref h0, .int p1, .int p2, .int p3, .int p4, .int p5] (n := 6) (Nat.le_of_ble_eq_true rfl)
  rw [lg_entry_eq]
  generalize (lg_sl [.ref h0, .int p1, .int p2, .int p3, .int p4, .int p5] ++ List.replicate (6 - (lg_sl [.ref h0, .int p1, .int p2, .int p3, .int p4, .int p5]).length) Slot.unset).toArray = ls at hl ⊢
  have hl : lv_has ls 6 [(0, .ref h0), (1, .int p1), (2, .int p2), (3, .int p3), (4, .int p4), (5, .int p5)] := hl
  refine lv_aload_n hx hb dX11_start_0 rfl (lv_at hl 0 rfl) ?_
  refine lv_iload_n hx hb dX11_start_1 rfl (lv_at hl 1 rfl) ?_
  have hPc := hP.sub (ws' := [(h0, .inr (11, fsX g))]) [0] rfl
  have hDc := hD.sub (ws' := [(h0, .inr (11, fsX g))]) [0] (by decide) rfl
  have hKc := hK.sub (tys' := []) [] rfl
  have hFc := va_free (wc := [(h0, .inr (11, fsX g))]) hD hS hA [0] rfl
  refine va_callq (va_runV (As := [.int p1]) (rest := []) ⟨hx, hb, hml, hown, hts⟩ (k_X11_codeOf_0 l dC dI h0 p1 g H.size ) (cwV 1 hts g_x_start_k_X11_codeOf_0_123 rfl rfl rfl (by decide +kernel) ⟨(Nat.le_of_ble_eq_true rfl), (Nat.le_of_ble_eq_true rfl)⟩) (vx_preV (ci := 11) (q0 := 0) hPc hKc hDc hN rfl rfl) rfl rfl hl.1 rfl (lv_room (Nat.le_of_ble_eq_true rfl)) dX11_start_2 ⟨(Nat.le_of_ble_eq_true rfl), (Nat.le_of_ble_eq_true rfl)⟩) hS (fun q _ h => hFc q h) hFc (fun r1 u t H1 locs ht hvm hw hB hz1 hk1 hS => ?_)
  obtain ⟨hP1, hK1, hD1⟩ := hB
  rw [ht] at hP1
  obtain ⟨hP, hD⟩ := va_join (wr := []) (w1 := [(h0, .inr (11, fsX g))]) hP hD [0] [] rfl rfl (by decide) (by decide) hk1 hFc hP1 hD1
  generalize H1 = H at hP hS ⊢
  have hP : va_P (dC, dI) vwCl [(h0, .inr (11, fsX g))] H := hP
  have hD : va_D A [(h0, .inr (11, fsX g))] := hD
  refine W.widen (k := 0) (n := 0) (by decide) (by decide) ?_
  try dsimp only at hw
  subst hw
  refine vx_topv (v := .null) rfl ?_
  refine lv_ifnonnullN hx hb dX11_start_5 ?_
  refine lv_iconst (v := 0) hx hb dX11_start_8 (by decide) ?_
  have hP9 := hP.sub (ws' := []) [] rfl
  have hD9 := hD.sub (ws' := []) [] (by decide) rfl
  have hK9 := hK.sub (tys' := []) [] rfl
  exact W.zret (ty := .boolean) (v := 0) hx hb hr rfl (fun t ht hW => ⟨⟨0, (), rfl, rfl, by rw [ht]; exact hP9, va_K.moved hW.alike hK9, hD9⟩, hS.F ht⟩) hS.2.2 dX11_start_9

def w_x_beside : List Cond := .code yX11_beside cX11_beside 8 (some .int) :: ([.fieldLink RX11 116 "LineKeeper" "routines" "I", .code yX11_codeOf cX11_codeOf 2 (some (.object "LineKeeper$Code")), .initialized RX11, .methodLink RX11 123 yX11_codeOf, .instanceMethod yX11_codeOf, .selects RX11 yX11_codeOf yX11_codeOf] ++ wsX110)
theorem in_x_beside_11 : ∀ w ∈ wsX110, w ∈ w_x_beside := fun _ h => List.mem_cons_of_mem _ (List.mem_append_right _ h)
set_option maxRecDepth 100000 in
theorem g_x_beside_k_X11_codeOf_0_123 : GoodIn w_x_beside (wsV RX11 123 RX11 yX11_codeOf w_k_X11_codeOf_0) := goodIn_r _ [4, 5, 6, 3, 2, 1, 7, 8, 9, 10, 11, 12, 13, 14, 15, 16, 17, 18, 19, 20, 21, 22] (by decide +kernel) (by decide +kernel)
set_option maxHeartbeats 4000000 in
set_option maxRecDepth 100000 in
theorem x_beside (l : Launch) (dC : Nat → ClassId) (dI : Nat → Nat → Nat) (h0 : Nat) (g : Nat → Nat) (p1 : Int32) (p2 : Int32) (p3 : Int32) (p4 : Int32) (p5 : Int32) (p6 : Int32) (sz : Nat) : Met l yX11_beside w_x_beside { frames := 1, cells := 0, slots := 0, locals := 21 } (va_Pc [.ref h0, .int p1, .int p2, .int p3, .int p4, .int p5, .int p6] (vx_pre dC dI [(h0, .inr (11, fsX g))] [] sz)) (va_Qi (fun (r : Int32) (_ : Unit) => r = (-1)) (fun _ t => vx_B dC dI (va_A [(h0, .inr (11, fsX g))] sz) [] [] t) (va_A [(h0, .inr (11, fsX g))] sz)) 0 0 (va_A [(h0, .inr (11, fsX g))] sz) := by
  refine Met.ofW (cc := cX11_beside) (maxL := 8) (ret := (some .int)) (by decide) rfl ?_
  intro p e s m args below meth c s₁ B hml hv
  obtain ⟨rfl, hsz, hP, hK, hD0, hN⟩ := hv
  have hx := B.exec
  have hb := B.bytes
  have hr := B.returns
  have hts := atoms_spec (ws := w_x_beside) B.pre
  have hown : s.vm.findClass RX11 = some m.cls := findClass_of_methodNamed B.named
  have hlocks := B.notSynchronized
  subst hsz
  have hD := hD0.self (sz := s.heap.size)
  generalize hAe : va_A [(h0, .inr (11, fsX g))] s.heap.size = A at hD ⊢
  have hA : ∀ q : Nat, s.heap.size ≤ q → A q := fun q h => by rw [← hAe]; exact Or.inr h
  obtain ⟨H, hHe⟩ : ∃ H, H = s.heap := ⟨_, rfl⟩
  rw [← hHe] at hP ⊢
  have hS : va_S A s.heap H [] := by rw [hHe]; exact va_S.rf
  have hl := lv_entry [.ref h0, .int p1, .int p2, .int p3, .int p4, .int p5, .int p6] (n := 8) (Nat.le_of_ble_eq_true rfl)
  rw [lg_entry_eq]
  generalize (lg_sl [.ref h0, .int p1, .int p2, .int p3, .int p4, .int p5, .int p6] ++ List.replicate (8 - (lg_sl [.ref h0, .int p1, .int p2, .int p3, .int p4, .int p5, .int p6]).length) Slot.unset).toArray = ls at hl ⊢
  have hl : lv_has ls 8 [(0, .ref h0), (1, .int p1), (2, .int p2), (3, .int p3), (4, .int p4), (5, .int p5), (6, .int p6)] := hl
  refine lv_aload_n hx hb dX11_beside_0 rfl (lv_at hl 0 rfl) ?_
  refine lv_iload_n hx hb dX11_beside_1 rfl (lv_at hl 1 rfl) ?_
  have hPc := hP.sub (ws' := [(h0, .inr (11, fsX g))]) [0] rfl
  have hDc := hD.sub (ws' := [(h0, .inr (11, fsX g))]) [0] (by decide) rfl
  have hKc := hK.sub (tys' := []) [] rfl
  have hFc := va_free (wc := [(h0, .inr (11, fsX g))]) hD hS hA [0] rfl
  refine va_callq (va_runV (As := [.int p1]) (rest := []) ⟨hx, hb, hml, hown, hts⟩ (k_X11_codeOf_0 l dC dI h0 p1 g H.size ) (cwV 1 hts g_x_beside_k_X11_codeOf_0_123 rfl rfl rfl (by decide +kernel) ⟨(Nat.le_of_ble_eq_true rfl), (Nat.le_of_ble_eq_true rfl)⟩) (vx_preV (ci := 11) (q0 := 0) hPc hKc hDc hN rfl rfl) rfl rfl hl.1 rfl (lv_room (Nat.le_of_ble_eq_true rfl)) dX11_beside_2 ⟨(Nat.le_of_ble_eq_true rfl), (Nat.le_of_ble_eq_true rfl)⟩) hS (fun q _ h => hFc q h) hFc (fun r1 u t H1 locs ht hvm hw hB hz1 hk1 hS => ?_)
  obtain ⟨hP1, hK1, hD1⟩ := hB
  rw [ht] at hP1
  obtain ⟨hP, hD⟩ := va_join (wr := []) (w1 := [(h0, .inr (11, fsX g))]) hP hD [0] [] rfl rfl (by decide) (by decide) hk1 hFc hP1 hD1
  generalize H1 = H at hP hS ⊢
  have hP : va_P (dC, dI) vwCl [(h0, .inr (11, fsX g))] H := hP
  have hD : va_D A [(h0, .inr (11, fsX g))] := hD
  refine W.widen (k := 0) (n := 0) (by decide) (by decide) ?_
  try dsimp only at hw
  subst hw
  refine vx_topv (v := .null) rfl ?_
  refine lv_ifnullN (tgt := 22) hx hb dX11_beside_5 (by decide) ?_
  refine lv_iconst (v := (-1)) hx hb dX11_beside_22 (by decide) ?_
  have hP9 := hP.sub (ws' := []) [] rfl
  have hD9 := hD.sub (ws' := []) [] (by decide) rfl
  have hK9 := hK.sub (tys' := []) [] rfl
  exact W.iret (v := (-1)) hx hb hr (fun t ht hW => ⟨⟨(-1), (), rfl, rfl, by rw [ht]; exact hP9, va_K.moved hW.alike hK9, hD9⟩, hS.F ht⟩) hS.2.2 dX11_beside_23

def w_x_compared : List Cond := .code yX11_compared cX11_compared 2 (some .int) :: ([.fieldLink RX11 258 "LineKeeper" "pair" "LLineKeeper$Beside;"] ++ wsX110)
theorem in_x_compared_11 : ∀ w ∈ wsX110, w ∈ w_x_compared := fun _ h => List.mem_cons_of_mem _ (List.mem_append_right _ h)
set_option maxHeartbeats 4000000 in
set_option maxRecDepth 100000 in
theorem x_compared (l : Launch) (dC : Nat → ClassId) (dI : Nat → Nat → Nat) (h0 : Nat) (g : Nat → Nat) (p1 : Int32) (sz : Nat) : Met l yX11_compared w_x_compared { frames := 0, cells := 0, slots := 0, locals := 0 } (va_Pc [.ref h0, .int p1] (vx_pre dC dI [(h0, .inr (11, fsX g))] [] sz)) (va_Qi (fun (r : Int32) (_ : Unit) => r = (-1)) (fun _ t => vx_B dC dI (va_A [(h0, .inr (11, fsX g))] sz) [] [] t) (va_A [(h0, .inr (11, fsX g))] sz)) 0 0 (va_A [(h0, .inr (11, fsX g))] sz) := by
  refine Met.ofW (cc := cX11_compared) (maxL := 2) (ret := (some .int)) (by decide) rfl ?_
  intro p e s m args below meth c s₁ B hml hv
  obtain ⟨rfl, hsz, hP, hK, hD0, hN⟩ := hv
  have hx := B.exec
  have hb := B.bytes
  have hr := B.returns
  have hts := atoms_spec (ws := w_x_compared) B.pre
  have hown : s.vm.findClass RX11 = some m.cls := findClass_of_methodNamed B.named
  have hlocks := B.notSynchronized
  subst hsz
  have hD := hD0.self (sz := s.heap.size)
  generalize hAe : va_A [(h0, .inr (11, fsX g))] s.heap.size = A at hD ⊢
  have hA : ∀ q : Nat, s.heap.size ≤ q → A q := fun q h => by rw [← hAe]; exact Or.inr h
  obtain ⟨H, hHe⟩ : ∃ H, H = s.heap := ⟨_, rfl⟩
  rw [← hHe] at hP ⊢
  have hS : va_S A s.heap H [] := by rw [hHe]; exact va_S.rf
  have hl := lv_entry [.ref h0, .int p1] (n := 2) (Nat.le_of_ble_eq_true rfl)
  rw [lg_entry_eq]
  generalize (lg_sl [.ref h0, .int p1] ++ List.replicate (2 - (lg_sl [.ref h0, .int p1]).length) Slot.unset).toArray = ls at hl ⊢
  have hl : lv_has ls 2 [(0, .ref h0), (1, .int p1)] := hl
  refine lv_aload_n hx hb dX11_compared_0 rfl (lv_at hl 0 rfl) ?_
  refine va_get (D := (dC, dI)) (ci := 11) (v := .null) (C := RX11) (T := TX11) (N := 16) hx hb hts in_x_compared_11 hown hK hP 0 rfl rfl 15 (by decide) (hts (.fieldLink RX11 258 "LineKeeper" "pair" "LLineKeeper$Beside;") (List.mem_of_getElem? (i := 1) rfl)) (fun _ h9 => h9) rfl dX11_compared_1 ?_
  refine lv_ifnonnullN hx hb dX11_compared_4 ?_
  refine lv_iconst (v := (-1)) hx hb dX11_compared_7 (by decide) ?_
  have hP9 := hP.sub (ws' := []) [] rfl
  have hD9 := hD.sub (ws' := []) [] (by decide) rfl
  have hK9 := hK.sub (tys' := []) [] rfl
  exact W.iret (v := (-1)) hx hb hr (fun t ht hW => ⟨⟨(-1), (), rfl, rfl, by rw [ht]; exact hP9, va_K.moved hW.alike hK9, hD9⟩, hS.F ht⟩) hS.2.2 dX11_compared_8

def w_x_go : List Cond := .code yX11_go cX11_go 3 (some .int) :: ([.fieldLink RX11 83 "LineKeeper" "theRun" "LLineKeeper$Run;", .fieldLink RX11 208 "LineKeeper$Run" "state" "I"] ++ (wsX110 ++ wsX70))
theorem in_x_go_11 : ∀ w ∈ wsX110, w ∈ w_x_go := fun _ h => List.mem_cons_of_mem _ (List.mem_append_right _ (List.mem_append_left _ h))
theorem in_x_go_7 : ∀ w ∈ wsX70, w ∈ w_x_go := fun _ h => List.mem_cons_of_mem _ (List.mem_append_right _ (List.mem_append_right _ h))
set_option maxHeartbeats 4000000 in
set_option maxRecDepth 100000 in
theorem x_go (l : Launch) (dC : Nat → ClassId) (dI : Nat → Nat → Nat) (h0 : Nat) (g : Nat → Nat) (g904 : Nat → Nat) (p1 : Int32) (p2 : Int32) (sz : Nat) : Met l yX11_go w_x_go { frames := 0, cells := 0, slots := 0, locals := 0 } (va_Pc [.ref h0, .int p1, .int p2] (vx_pre dC dI [(h0, .inr (11, fsX g)), ((g 8), .inr (7, [.ref (g 4), .int 0, .int 0, .int 0, .ref (g904 4), .ref (g904 5), .ref (g904 6), .ref (g904 7), .ref (g904 8), .ref (g904 9), .int 0, .int 0, .int 0, .int 0, .null, .int 0, .int 0]))] [] sz)) (va_Qi (fun (r : Int32) (_ : Unit) => r = (-1)) (fun _ t => vx_B dC dI (va_A [(h0, .inr (11, fsX g)), ((g 8), .inr (7, [.ref (g 4), .int 0, .int 0, .int 0, .ref (g904 4), .ref (g904 5), .ref (g904 6), .ref (g904 7), .ref (g904 8), .ref (g904 9), .int 0, .int 0, .int 0, .int 0, .null, .int 0, .int 0]))] sz) [] [] t) (va_A [(h0, .inr (11, fsX g)), ((g 8), .inr (7, [.ref (g 4), .int 0, .int 0, .int 0, .ref (g904 4), .ref (g904 5), .ref (g904 6), .ref (g904 7), .ref (g904 8), .ref (g904 9), .int 0, .int 0, .int 0, .int 0, .null, .int 0, .int 0]))] sz)) 0 0 (va_A [(h0, .inr (11, fsX g)), ((g 8), .inr (7, [.ref (g 4), .int 0, .int 0, .int 0, .ref (g904 4), .ref (g904 5), .ref (g904 6), .ref (g904 7), .ref (g904 8), .ref (g904 9), .int 0, .int 0, .int 0, .int 0, .null, .int 0, .int 0]))] sz) := by
  refine Met.ofW (cc := cX11_go) (maxL := 3) (ret := (some .int)) (by decide) rfl ?_
  intro p e s m args below meth c s₁ B hml hv
  obtain ⟨rfl, hsz, hP, hK, hD0, hN⟩ := hv
  have hx := B.exec
  have hb := B.bytes
  have hr := B.returns
  have hts := atoms_spec (ws := w_x_go) B.pre
  have hown : s.vm.findClass RX11 = some m.cls := findClass_of_methodNamed B.named
  have hlocks := B.notSynchronized
  subst hsz
  have hD := hD0.self (sz := s.heap.size)
  generalize hAe : va_A [(h0, .inr (11, fsX g)), ((g 8), .inr (7, [.ref (g 4), .int 0, .int 0, .int 0, .ref (g904 4), .ref (g904 5), .ref (g904 6), .ref (g904 7), .ref (g904 8), .ref (g904 9), .int 0, .int 0, .int 0, .int 0, .null, .int 0, .int 0]))] s.heap.size = A at hD ⊢
  have hA : ∀ q : Nat, s.heap.size ≤ q → A q := fun q h => by rw [← hAe]; exact Or.inr h
  obtain ⟨H, hHe⟩ : ∃ H, H = s.heap := ⟨_, rfl⟩
  rw [← hHe] at hP ⊢
  have hS : va_S A s.heap H [] := by rw [hHe]; exact va_S.rf
  have hl := lv_entry [.ref h0, .int p1, .int p2] (n := 3) (Nat.le_of_ble_eq_true rfl)
  rw [lg_entry_eq]
  generalize (lg_sl [.ref h0, .int p1, .int p2] ++ List.replicate (3 - (lg_sl [.ref h0, .int p1, .int p2]).length) Slot.unset).toArray = ls at hl ⊢
  have hl : lv_has ls 3 [(0, .ref h0), (1, .int p1), (2, .int p2)] := hl
  refine lv_iload_n hx hb dX11_go_0 rfl (lv_at hl 1 rfl) ?_
  refine lv_if_lt (tgt := 31) hx hb dX11_go_1 (by decide) (fun c1 => ?_) (fun c1 => ?_)
  · refine lv_iconst (v := (-1)) hx hb dX11_go_31 (by decide) ?_
    have hP9 := hP.sub (ws' := []) [] rfl
    have hD9 := hD.sub (ws' := []) [] (by decide) rfl
    have hK9 := hK.sub (tys' := []) [] rfl
    exact W.iret (v := (-1)) hx hb hr (fun t ht hW => ⟨⟨(-1), (), rfl, rfl, by rw [ht]; exact hP9, va_K.moved hW.alike hK9, hD9⟩, hS.F ht⟩) hS.2.2 dX11_go_32
  · refine lv_iload_n hx hb dX11_go_4 rfl (lv_at hl 1 rfl) ?_
    refine lv_iconst (v := 2) hx hb dX11_go_5 (by decide) ?_
    refine lv_icmp_gt (tgt := 31) hx hb dX11_go_6 (by decide) (fun c2 => ?_) (fun c2 => ?_)
    · refine lv_iconst (v := (-1)) hx hb dX11_go_31 (by decide) ?_
      have hP9 := hP.sub (ws' := []) [] rfl
      have hD9 := hD.sub (ws' := []) [] (by decide) rfl
      have hK9 := hK.sub (tys' := []) [] rfl
      exact W.iret (v := (-1)) hx hb hr (fun t ht hW => ⟨⟨(-1), (), rfl, rfl, by rw [ht]; exact hP9, va_K.moved hW.alike hK9, hD9⟩, hS.F ht⟩) hS.2.2 dX11_go_32
    · refine lv_iload_n hx hb dX11_go_9 rfl (lv_at hl 2 rfl) ?_
      refine lv_iconst (v := 1) hx hb dX11_go_10 (by decide) ?_
      refine lv_icmp_lt (tgt := 31) hx hb dX11_go_11 (by decide) (fun c3 => ?_) (fun c3 => ?_)
      · refine lv_iconst (v := (-1)) hx hb dX11_go_31 (by decide) ?_
        have hP9 := hP.sub (ws' := []) [] rfl
        have hD9 := hD.sub (ws' := []) [] (by decide) rfl
        have hK9 := hK.sub (tys' := []) [] rfl
        exact W.iret (v := (-1)) hx hb hr (fun t ht hW => ⟨⟨(-1), (), rfl, rfl, by rw [ht]; exact hP9, va_K.moved hW.alike hK9, hD9⟩, hS.F ht⟩) hS.2.2 dX11_go_32
      · refine lv_iload_n hx hb dX11_go_14 rfl (lv_at hl 2 rfl) ?_
        refine lv_sipush (v := 20000) hx hb dX11_go_15 (by decide) ?_
        refine lv_icmp_gt (tgt := 31) hx hb dX11_go_18 (by decide) (fun c4 => ?_) (fun c4 => ?_)
        · refine lv_iconst (v := (-1)) hx hb dX11_go_31 (by decide) ?_
          have hP9 := hP.sub (ws' := []) [] rfl
          have hD9 := hD.sub (ws' := []) [] (by decide) rfl
          have hK9 := hK.sub (tys' := []) [] rfl
          exact W.iret (v := (-1)) hx hb hr (fun t ht hW => ⟨⟨(-1), (), rfl, rfl, by rw [ht]; exact hP9, va_K.moved hW.alike hK9, hD9⟩, hS.F ht⟩) hS.2.2 dX11_go_32
        · refine lv_aload_n hx hb dX11_go_21 rfl (lv_at hl 0 rfl) ?_
          refine va_get (D := (dC, dI)) (ci := 11) (v := .ref (g 8)) (C := RX11) (T := TX11) (N := 16) hx hb hts in_x_go_11 hown hK hP 0 rfl rfl 8 (by decide) (hts (.fieldLink RX11 83 "LineKeeper" "theRun" "LLineKeeper$Run;") (List.mem_of_getElem? (i := 1) rfl)) (fun _ h9 => h9) rfl dX11_go_22 ?_
          refine va_get (D := (dC, dI)) (ci := 7) (v := .int 0) (C := RX7) (T := TX7) (N := 17) hx hb hts in_x_go_7 hown hK hP 1 rfl rfl 1 (by decide) (hts (.fieldLink RX11 208 "LineKeeper$Run" "state" "I") (List.mem_of_getElem? (i := 2) rfl)) (fun _ h9 => h9) rfl dX11_go_25 ?_
          refine lv_if_ne (tgt := 33) hx hb dX11_go_28 (by decide) (fun h => absurd (by decide) h) (fun _ => ?_)
          refine lv_iconst (v := (-1)) hx hb dX11_go_31 (by decide) ?_
          have hP9 := hP.sub (ws' := []) [] rfl
          have hD9 := hD.sub (ws' := []) [] (by decide) rfl
          have hK9 := hK.sub (tys' := []) [] rfl
          exact W.iret (v := (-1)) hx hb hr (fun t ht hW => ⟨⟨(-1), (), rfl, rfl, by rw [ht]; exact hP9, va_K.moved hW.alike hK9, hD9⟩, hS.F ht⟩) hS.2.2 dX11_go_32

def w_k_X7_find_0 : List Cond := .code yX7_find cX7_find 5 (some .boolean) :: ([.fieldLink RX7 38 "LineKeeper$Run" "depth" "I"] ++ wsX70)
theorem in_k_X7_find_0_7 : ∀ w ∈ wsX70, w ∈ w_k_X7_find_0 := fun _ h => List.mem_cons_of_mem _ (List.mem_append_right _ h)
set_option maxHeartbeats 4000000 in
set_option maxRecDepth 100000 in
theorem k_X7_find_0 (l : Launch) (dC : Nat → ClassId) (dI : Nat → Nat → Nat) (g701 : Nat → Nat) (x701 : Int32) (g702 : Nat → Nat) (sz : Nat) : Met l yX7_find w_k_X7_find_0 { frames := 0, cells := 0, slots := 0, locals := 0 } (va_Pc [.ref (g701 8), .int x701] (vx_pre dC dI [((g701 8), .inr (7, [.ref (g701 4), .int 0, .int 0, .int 0, .ref (g702 4), .ref (g702 5), .ref (g702 6), .ref (g702 7), .ref (g702 8), .ref (g702 9), .int 0, .int 0, .int 0, .int 0, .null, .int 0, .int 0]))] [] sz)) (va_Qi (fun (r : Int32) (_ : Unit) => r = 0) (fun _ t => vx_B dC dI (va_A [((g701 8), .inr (7, [.ref (g701 4), .int 0, .int 0, .int 0, .ref (g702 4), .ref (g702 5), .ref (g702 6), .ref (g702 7), .ref (g702 8), .ref (g702 9), .int 0, .int 0, .int 0, .int 0, .null, .int 0, .int 0]))] sz) [((g701 8), .inr (7, [.ref (g701 4), .int 0, .int 0, .int 0, .ref (g702 4), .ref (g702 5), .ref (g702 6), .ref (g702 7), .ref (g702 8), .ref (g702 9), .int 0, .int 0, .int 0, .int 0, .null, .int 0, .int 0]))] [] t) (va_A [((g701 8), .inr (7, [.ref (g701 4), .int 0, .int 0, .int 0, .ref (g702 4), .ref (g702 5), .ref (g702 6), .ref (g702 7), .ref (g702 8), .ref (g702 9), .int 0, .int 0, .int 0, .int 0, .null, .int 0, .int 0]))] sz)) 0 0 (va_A [((g701 8), .inr (7, [.ref (g701 4), .int 0, .int 0, .int 0, .ref (g702 4), .ref (g702 5), .ref (g702 6), .ref (g702 7), .ref (g702 8), .ref (g702 9), .int 0, .int 0, .int 0, .int 0, .null, .int 0, .int 0]))] sz) := by
  refine Met.ofW (cc := cX7_find) (maxL := 5) (ret := (some .boolean)) (by decide) rfl ?_
  intro p e s m args below meth c s₁ B hml hv
  obtain ⟨rfl, hsz, hP, hK, hD0, hN⟩ := hv
  have hx := B.exec
  have hb := B.bytes
  have hr := B.returns
  have hts := atoms_spec (ws := w_k_X7_find_0) B.pre
  have hown : s.vm.findClass RX7 = some m.cls := findClass_of_methodNamed B.named
  have hlocks := B.notSynchronized
  subst hsz
  have hD := hD0.self (sz := s.heap.size)
  generalize hAe : va_A [((g701 8), .inr (7, [.ref (g701 4), .int 0, .int 0, .int 0, .ref (g702 4), .ref (g702 5), .ref (g702 6), .ref (g702 7), .ref (g702 8), .ref (g702 9), .int 0, .int 0, .int 0, .int 0, .null, .int 0, .int 0]))] s.heap.size = A at hD ⊢
  have hA : ∀ q : Nat, s.heap.size ≤ q → A q := fun q h => by rw [← hAe]; exact Or.inr h
  obtain ⟨H, hHe⟩ : ∃ H, H = s.heap := ⟨_, rfl⟩
  rw [← hHe] at hP ⊢
  have hS : va_S A s.heap H [] := by rw [hHe]; exact va_S.rf
  have hl := lv_entry [.ref (g701 8), .int x701] (n := 5) (Nat.le_of_ble_eq_true rfl)
  rw [lg_entry_eq]
  generalize (lg_sl [.ref (g701 8), .int x701] ++ List.replicate (5 - (lg_sl [.ref (g701 8), .int x701]).length) Slot.unset).toArray = ls at hl ⊢
  have hl : lv_has ls 5 [(0, .ref (g701 8)), (1, .int x701)] := hl
  refine lv_iload_n hx hb dX7_find_0 rfl (lv_at hl 1 rfl) ?_
  refine lv_if_lt (tgt := 28) hx hb dX7_find_1 (by decide) (fun c1 => ?_) (fun c1 => ?_)
  · refine lv_iconst (v := 0) hx hb dX7_find_28 (by decide) ?_
    have hP9 := hP.sub (ws' := [((g701 8), .inr (7, [.ref (g701 4), .int 0, .int 0, .int 0, .ref (g702 4), .ref (g702 5), .ref (g702 6), .ref (g702 7), .ref (g702 8), .ref (g702 9), .int 0, .int 0, .int 0, .int 0, .null, .int 0, .int 0]))]) [0] rfl
    have hD9 := hD.sub (ws' := [((g701 8), .inr (7, [.ref (g701 4), .int 0, .int 0, .int 0, .ref (g702 4), .ref (g702 5), .ref (g702 6), .ref (g702 7), .ref (g702 8), .ref (g702 9), .int 0, .int 0, .int 0, .int 0, .null, .int 0, .int 0]))]) [0] (by decide) rfl
    have hK9 := hK.sub (tys' := []) [] rfl
    exact W.zret (ty := .boolean) (v := 0) hx hb hr rfl (fun t ht hW => ⟨⟨0, (), rfl, rfl, by rw [ht]; exact hP9, va_K.moved hW.alike hK9, hD9⟩, hS.F ht⟩) hS.2.2 dX7_find_29
  · refine lv_iload_n hx hb dX7_find_4 rfl (lv_at hl 1 rfl) ?_
    refine lv_aload_n hx hb dX7_find_5 rfl (lv_at hl 0 rfl) ?_
    refine va_get (D := (dC, dI)) (ci := 7) (v := .int 0) (C := RX7) (T := TX7) (N := 17) hx hb hts in_k_X7_find_0_7 hown hK hP 0 rfl rfl 3 (by decide) (hts (.fieldLink RX7 38 "LineKeeper$Run" "depth" "I") (List.mem_of_getElem? (i := 1) rfl)) (fun _ h9 => h9) rfl dX7_find_6 ?_
    refine lv_icmp_ge (tgt := 28) hx hb dX7_find_9 (by decide) (fun c2 => ?_) (fun c2 => absurd (vx_nlt c1) c2)
    refine lv_iconst (v := 0) hx hb dX7_find_28 (by decide) ?_
    have hP9 := hP.sub (ws' := [((g701 8), .inr (7, [.ref (g701 4), .int 0, .int 0, .int 0, .ref (g702 4), .ref (g702 5), .ref (g702 6), .ref (g702 7), .ref (g702 8), .ref (g702 9), .int 0, .int 0, .int 0, .int 0, .null, .int 0, .int 0]))]) [0] rfl
    have hD9 := hD.sub (ws' := [((g701 8), .inr (7, [.ref (g701 4), .int 0, .int 0, .int 0, .ref (g702 4), .ref (g702 5), .ref (g702 6), .ref (g702 7), .ref (g702 8), .ref (g702 9), .int 0, .int 0, .int 0, .int 0, .null, .int 0, .int 0]))]) [0] (by decide) rfl
    have hK9 := hK.sub (tys' := []) [] rfl
    exact W.zret (ty := .boolean) (v := 0) hx hb hr rfl (fun t ht hW => ⟨⟨0, (), rfl, rfl, by rw [ht]; exact hP9, va_K.moved hW.alike hK9, hD9⟩, hS.F ht⟩) hS.2.2 dX7_find_29

def w_x_stack : List Cond := .code yX11_stack cX11_stack 3 (some .int) :: ([.fieldLink RX11 83 "LineKeeper" "theRun" "LLineKeeper$Run;", .fieldLink RX7 38 "LineKeeper$Run" "depth" "I", .code yX7_find cX7_find 5 (some .boolean), .initialized RX7, .methodLink RX11 214 yX7_find, .instanceMethod yX7_find, .selects RX7 yX7_find yX7_find] ++ (wsX110 ++ wsX70))
theorem in_x_stack_11 : ∀ w ∈ wsX110, w ∈ w_x_stack := fun _ h => List.mem_cons_of_mem _ (List.mem_append_right _ (List.mem_append_left _ h))
theorem in_x_stack_7 : ∀ w ∈ wsX70, w ∈ w_x_stack := fun _ h => List.mem_cons_of_mem _ (List.mem_append_right _ (List.mem_append_right _ h))
set_option maxRecDepth 100000 in
theorem g_x_stack_k_X7_find_0_214 : GoodIn w_x_stack (wsV RX11 214 RX7 yX7_find w_k_X7_find_0) := goodIn_r _ [5, 6, 7, 4, 3, 2, 24, 25, 26, 27, 28, 29, 30, 31, 32, 33, 34, 35, 36, 37, 38, 39, 40] (by decide +kernel) (by decide +kernel)
set_option maxHeartbeats 4000000 in
set_option maxRecDepth 100000 in
theorem x_stack (l : Launch) (dC : Nat → ClassId) (dI : Nat → Nat → Nat) (h0 : Nat) (g : Nat → Nat) (g904 : Nat → Nat) (p1 : Int32) (p2 : Int32) (sz : Nat) : Met l yX11_stack w_x_stack { frames := 1, cells := 0, slots := 0, locals := 24 } (va_Pc [.ref h0, .int p1, .int p2] (vx_pre dC dI [(h0, .inr (11, fsX g)), ((g 8), .inr (7, [.ref (g 4), .int 0, .int 0, .int 0, .ref (g904 4), .ref (g904 5), .ref (g904 6), .ref (g904 7), .ref (g904 8), .ref (g904 9), .int 0, .int 0, .int 0, .int 0, .null, .int 0, .int 0]))] [] sz)) (va_Qi (fun (r : Int32) (_ : Unit) => r = (-1)) (fun _ t => vx_B dC dI (va_A [(h0, .inr (11, fsX g)), ((g 8), .inr (7, [.ref (g 4), .int 0, .int 0, .int 0, .ref (g904 4), .ref (g904 5), .ref (g904 6), .ref (g904 7), .ref (g904 8), .ref (g904 9), .int 0, .int 0, .int 0, .int 0, .null, .int 0, .int 0]))] sz) [] [] t) (va_A [(h0, .inr (11, fsX g)), ((g 8), .inr (7, [.ref (g 4), .int 0, .int 0, .int 0, .ref (g904 4), .ref (g904 5), .ref (g904 6), .ref (g904 7), .ref (g904 8), .ref (g904 9), .int 0, .int 0, .int 0, .int 0, .null, .int 0, .int 0]))] sz)) 0 0 (va_A [(h0, .inr (11, fsX g)), ((g 8), .inr (7, [.ref (g 4), .int 0, .int 0, .int 0, .ref (g904 4), .ref (g904 5), .ref (g904 6), .ref (g904 7), .ref (g904 8), .ref (g904 9), .int 0, .int 0, .int 0, .int 0, .null, .int 0, .int 0]))] sz) := by
  refine Met.ofW (cc := cX11_stack) (maxL := 3) (ret := (some .int)) (by decide) rfl ?_
  intro p e s m args below meth c s₁ B hml hv
  obtain ⟨rfl, hsz, hP, hK, hD0, hN⟩ := hv
  have hx := B.exec
  have hb := B.bytes
  have hr := B.returns
  have hts := atoms_spec (ws := w_x_stack) B.pre
  have hown : s.vm.findClass RX11 = some m.cls := findClass_of_methodNamed B.named
  have hlocks := B.notSynchronized
  subst hsz
  have hD := hD0.self (sz := s.heap.size)
  generalize hAe : va_A [(h0, .inr (11, fsX g)), ((g 8), .inr (7, [.ref (g 4), .int 0, .int 0, .int 0, .ref (g904 4), .ref (g904 5), .ref (g904 6), .ref (g904 7), .ref (g904 8), .ref (g904 9), .int 0, .int 0, .int 0, .int 0, .null, .int 0, .int 0]))] s.heap.size = A at hD ⊢
  have hA : ∀ q : Nat, s.heap.size ≤ q → A q := fun q h => by rw [← hAe]; exact Or.inr h
  obtain ⟨H, hHe⟩ : ∃ H, H = s.heap := ⟨_, rfl⟩
  rw [← hHe] at hP ⊢
  have hS : va_S A s.heap H [] := by rw [hHe]; exact va_S.rf
  have hl := lv_entry [.ref h0, .int p1, .int p2] (n := 3) (Nat.le_of_ble_eq_true rfl)
  rw [lg_entry_eq]
  generalize (lg_sl [.ref h0, .int p1, .int p2] ++ List.replicate (3 - (lg_sl [.ref h0, .int p1, .int p2]).length) Slot.unset).toArray = ls at hl ⊢
  have hl : lv_has ls 3 [(0, .ref h0), (1, .int p1), (2, .int p2)] := hl
  refine lv_iload_n hx hb dX11_stack_0 rfl (lv_at hl 2 rfl) ?_
  refine lv_if_lt (tgt := 20) hx hb dX11_stack_1 (by decide) (fun c1 => ?_) (fun c1 => ?_)
  · refine lv_iconst (v := (-1)) hx hb dX11_stack_20 (by decide) ?_
    have hP9 := hP.sub (ws' := []) [] rfl
    have hD9 := hD.sub (ws' := []) [] (by decide) rfl
    have hK9 := hK.sub (tys' := []) [] rfl
    exact W.iret (v := (-1)) hx hb hr (fun t ht hW => ⟨⟨(-1), (), rfl, rfl, by rw [ht]; exact hP9, va_K.moved hW.alike hK9, hD9⟩, hS.F ht⟩) hS.2.2 dX11_stack_21
  · refine lv_iload_n hx hb dX11_stack_4 rfl (lv_at hl 2 rfl) ?_
    refine lv_iconst (v := 2) hx hb dX11_stack_5 (by decide) ?_
    refine lv_icmp_gt (tgt := 20) hx hb dX11_stack_6 (by decide) (fun c2 => ?_) (fun c2 => ?_)
    · refine lv_iconst (v := (-1)) hx hb dX11_stack_20 (by decide) ?_
      have hP9 := hP.sub (ws' := []) [] rfl
      have hD9 := hD.sub (ws' := []) [] (by decide) rfl
      have hK9 := hK.sub (tys' := []) [] rfl
      exact W.iret (v := (-1)) hx hb hr (fun t ht hW => ⟨⟨(-1), (), rfl, rfl, by rw [ht]; exact hP9, va_K.moved hW.alike hK9, hD9⟩, hS.F ht⟩) hS.2.2 dX11_stack_21
    · refine lv_aload_n hx hb dX11_stack_9 rfl (lv_at hl 0 rfl) ?_
      refine va_get (D := (dC, dI)) (ci := 11) (v := .ref (g 8)) (C := RX11) (T := TX11) (N := 16) hx hb hts in_x_stack_11 hown hK hP 0 rfl rfl 8 (by decide) (hts (.fieldLink RX11 83 "LineKeeper" "theRun" "LLineKeeper$Run;") (List.mem_of_getElem? (i := 1) rfl)) (fun _ h9 => h9) rfl dX11_stack_10 ?_
      refine lv_iload_n hx hb dX11_stack_13 rfl (lv_at hl 1 rfl) ?_
      have hPc := hP.sub (ws' := [((g 8), .inr (7, [.ref (g 4), .int 0, .int 0, .int 0, .ref (g904 4), .ref (g904 5), .ref (g904 6), .ref (g904 7), .ref (g904 8), .ref (g904 9), .int 0, .int 0, .int 0, .int 0, .null, .int 0, .int 0]))]) [1] rfl
      have hDc := hD.sub (ws' := [((g 8), .inr (7, [.ref (g 4), .int 0, .int 0, .int 0, .ref (g904 4), .ref (g904 5), .ref (g904 6), .ref (g904 7), .ref (g904 8), .ref (g904 9), .int 0, .int 0, .int 0, .int 0, .null, .int 0, .int 0]))]) [1] (by decide) rfl
      have hKc := hK.sub (tys' := []) [] rfl
      have hFc := va_free (wc := [((g 8), .inr (7, [.ref (g 4), .int 0, .int 0, .int 0, .ref (g904 4), .ref (g904 5), .ref (g904 6), .ref (g904 7), .ref (g904 8), .ref (g904 9), .int 0, .int 0, .int 0, .int 0, .null, .int 0, .int 0]))]) hD hS hA [1] rfl
      refine va_calli (va_runV (As := [.int p1]) (rest := []) ⟨hx, hb, hml, hown, hts⟩ (k_X7_find_0 l dC dI g p1 g904 H.size ) (cwV 1 hts g_x_stack_k_X7_find_0_214 rfl rfl rfl (by decide +kernel) ⟨(Nat.le_of_ble_eq_true rfl), (Nat.le_of_ble_eq_true rfl)⟩) (vx_preV (ci := 7) (q0 := 0) hPc hKc hDc hN rfl rfl) rfl rfl hl.1 rfl (lv_room (Nat.le_of_ble_eq_true rfl)) dX11_stack_14 ⟨(Nat.le_of_ble_eq_true rfl), (Nat.le_of_ble_eq_true rfl)⟩) hS (fun q _ h => hFc q h) hFc (fun r3 u t H1 locs ht hvm hw hB hz1 hk1 hS => ?_)
      obtain ⟨hP1, hK1, hD1⟩ := hB
      rw [ht] at hP1
      obtain ⟨hP, hD⟩ := va_join (wr := [(h0, .inr (11, fsX g))]) (w1 := [((g 8), .inr (7, [.ref (g 4), .int 0, .int 0, .int 0, .ref (g904 4), .ref (g904 5), .ref (g904 6), .ref (g904 7), .ref (g904 8), .ref (g904 9), .int 0, .int 0, .int 0, .int 0, .null, .int 0, .int 0]))]) hP hD [1] [0] rfl rfl (by decide) (by decide) hk1 hFc hP1 hD1
      generalize H1 = H at hP hS ⊢
      have hP : va_P (dC, dI) vwCl [(h0, .inr (11, fsX g)), ((g 8), .inr (7, [.ref (g 4), .int 0, .int 0, .int 0, .ref (g904 4), .ref (g904 5), .ref (g904 6), .ref (g904 7), .ref (g904 8), .ref (g904 9), .int 0, .int 0, .int 0, .int 0, .null, .int 0, .int 0]))] H := hP
      have hD : va_D A [(h0, .inr (11, fsX g)), ((g 8), .inr (7, [.ref (g 4), .int 0, .int 0, .int 0, .ref (g904 4), .ref (g904 5), .ref (g904 6), .ref (g904 7), .ref (g904 8), .ref (g904 9), .int 0, .int 0, .int 0, .int 0, .null, .int 0, .int 0]))] := hD
      refine W.widen (k := 0) (n := 0) (by decide) (by decide) ?_
      try dsimp only at hw
      subst hw
      refine lv_if_ne (tgt := 22) hx hb dX11_stack_17 (by decide) (fun h => absurd (by decide) h) (fun _ => ?_)
      refine lv_iconst (v := (-1)) hx hb dX11_stack_20 (by decide) ?_
      have hP9 := hP.sub (ws' := []) [] rfl
      have hD9 := hD.sub (ws' := []) [] (by decide) rfl
      have hK9 := hK.sub (tys' := []) [] rfl
      exact W.iret (v := (-1)) hx hb hr (fun t ht hW => ⟨⟨(-1), (), rfl, rfl, by rw [ht]; exact hP9, va_K.moved hW.alike hK9, hD9⟩, hS.F ht⟩) hS.2.2 dX11_stack_21

def w_x_known : List Cond := .code yX11_known cX11_known 4 (some .int) :: ([.fieldLink RX11 83 "LineKeeper" "theRun" "LLineKeeper$Run;", .fieldLink RX7 38 "LineKeeper$Run" "depth" "I", .code yX7_find cX7_find 5 (some .boolean), .initialized RX7, .methodLink RX11 214 yX7_find, .instanceMethod yX7_find, .selects RX7 yX7_find yX7_find] ++ (wsX110 ++ wsX70))
theorem in_x_known_11 : ∀ w ∈ wsX110, w ∈ w_x_known := fun _ h => List.mem_cons_of_mem _ (List.mem_append_right _ (List.mem_append_left _ h))
theorem in_x_known_7 : ∀ w ∈ wsX70, w ∈ w_x_known := fun _ h => List.mem_cons_of_mem _ (List.mem_append_right _ (List.mem_append_right _ h))
set_option maxRecDepth 100000 in
theorem g_x_known_k_X7_find_0_214 : GoodIn w_x_known (wsV RX11 214 RX7 yX7_find w_k_X7_find_0) := goodIn_r _ [5, 6, 7, 4, 3, 2, 24, 25, 26, 27, 28, 29, 30, 31, 32, 33, 34, 35, 36, 37, 38, 39, 40] (by decide +kernel) (by decide +kernel)
set_option maxHeartbeats 4000000 in
set_option maxRecDepth 100000 in
theorem x_known (l : Launch) (dC : Nat → ClassId) (dI : Nat → Nat → Nat) (h0 : Nat) (g : Nat → Nat) (g904 : Nat → Nat) (p1 : Int32) (p2 : Int32) (sz : Nat) : Met l yX11_known w_x_known { frames := 1, cells := 0, slots := 0, locals := 24 } (va_Pc [.ref h0, .int p1, .int p2] (vx_pre dC dI [(h0, .inr (11, fsX g)), ((g 8), .inr (7, [.ref (g 4), .int 0, .int 0, .int 0, .ref (g904 4), .ref (g904 5), .ref (g904 6), .ref (g904 7), .ref (g904 8), .ref (g904 9), .int 0, .int 0, .int 0, .int 0, .null, .int 0, .int 0]))] [] sz)) (va_Qi (fun (r : Int32) (_ : Unit) => r = (-1)) (fun _ t => vx_B dC dI (va_A [(h0, .inr (11, fsX g)), ((g 8), .inr (7, [.ref (g 4), .int 0, .int 0, .int 0, .ref (g904 4), .ref (g904 5), .ref (g904 6), .ref (g904 7), .ref (g904 8), .ref (g904 9), .int 0, .int 0, .int 0, .int 0, .null, .int 0, .int 0]))] sz) [] [] t) (va_A [(h0, .inr (11, fsX g)), ((g 8), .inr (7, [.ref (g 4), .int 0, .int 0, .int 0, .ref (g904 4), .ref (g904 5), .ref (g904 6), .ref (g904 7), .ref (g904 8), .ref (g904 9), .int 0, .int 0, .int 0, .int 0, .null, .int 0, .int 0]))] sz)) 0 0 (va_A [(h0, .inr (11, fsX g)), ((g 8), .inr (7, [.ref (g 4), .int 0, .int 0, .int 0, .ref (g904 4), .ref (g904 5), .ref (g904 6), .ref (g904 7), .ref (g904 8), .ref (g904 9), .int 0, .int 0, .int 0, .int 0, .null, .int 0, .int 0]))] sz) := by
  refine Met.ofW (cc := cX11_known) (maxL := 4) (ret := (some .int)) (by decide) rfl ?_
  intro p e s m args below meth c s₁ B hml hv
  obtain ⟨rfl, hsz, hP, hK, hD0, hN⟩ := hv
  have hx := B.exec
  have hb := B.bytes
  have hr := B.returns
  have hts := atoms_spec (ws := w_x_known) B.pre
  have hown : s.vm.findClass RX11 = some m.cls := findClass_of_methodNamed B.named
  have hlocks := B.notSynchronized
  subst hsz
  have hD := hD0.self (sz := s.heap.size)
  generalize hAe : va_A [(h0, .inr (11, fsX g)), ((g 8), .inr (7, [.ref (g 4), .int 0, .int 0, .int 0, .ref (g904 4), .ref (g904 5), .ref (g904 6), .ref (g904 7), .ref (g904 8), .ref (g904 9), .int 0, .int 0, .int 0, .int 0, .null, .int 0, .int 0]))] s.heap.size = A at hD ⊢
  have hA : ∀ q : Nat, s.heap.size ≤ q → A q := fun q h => by rw [← hAe]; exact Or.inr h
  obtain ⟨H, hHe⟩ : ∃ H, H = s.heap := ⟨_, rfl⟩
  rw [← hHe] at hP ⊢
  have hS : va_S A s.heap H [] := by rw [hHe]; exact va_S.rf
  have hl := lv_entry [.ref h0, .int p1, .int p2] (n := 4) (Nat.le_of_ble_eq_true rfl)
  rw [lg_entry_eq]
  generalize (lg_sl [.ref h0, .int p1, .int p2] ++ List.replicate (4 - (lg_sl [.ref h0, .int p1, .int p2]).length) Slot.unset).toArray = ls at hl ⊢
  have hl : lv_has ls 4 [(0, .ref h0), (1, .int p1), (2, .int p2)] := hl
  refine lv_aload_n hx hb dX11_known_0 rfl (lv_at hl 0 rfl) ?_
  refine va_get (D := (dC, dI)) (ci := 11) (v := .ref (g 8)) (C := RX11) (T := TX11) (N := 16) hx hb hts in_x_known_11 hown hK hP 0 rfl rfl 8 (by decide) (hts (.fieldLink RX11 83 "LineKeeper" "theRun" "LLineKeeper$Run;") (List.mem_of_getElem? (i := 1) rfl)) (fun _ h9 => h9) rfl dX11_known_1 ?_
  refine lv_iload_n hx hb dX11_known_4 rfl (lv_at hl 1 rfl) ?_
  have hPc := hP.sub (ws' := [((g 8), .inr (7, [.ref (g 4), .int 0, .int 0, .int 0, .ref (g904 4), .ref (g904 5), .ref (g904 6), .ref (g904 7), .ref (g904 8), .ref (g904 9), .int 0, .int 0, .int 0, .int 0, .null, .int 0, .int 0]))]) [1] rfl
  have hDc := hD.sub (ws' := [((g 8), .inr (7, [.ref (g 4), .int 0, .int 0, .int 0, .ref (g904 4), .ref (g904 5), .ref (g904 6), .ref (g904 7), .ref (g904 8), .ref (g904 9), .int 0, .int 0, .int 0, .int 0, .null, .int 0, .int 0]))]) [1] (by decide) rfl
  have hKc := hK.sub (tys' := []) [] rfl
  have hFc := va_free (wc := [((g 8), .inr (7, [.ref (g 4), .int 0, .int 0, .int 0, .ref (g904 4), .ref (g904 5), .ref (g904 6), .ref (g904 7), .ref (g904 8), .ref (g904 9), .int 0, .int 0, .int 0, .int 0, .null, .int 0, .int 0]))]) hD hS hA [1] rfl
  refine va_calli (va_runV (As := [.int p1]) (rest := []) ⟨hx, hb, hml, hown, hts⟩ (k_X7_find_0 l dC dI g p1 g904 H.size ) (cwV 1 hts g_x_known_k_X7_find_0_214 rfl rfl rfl (by decide +kernel) ⟨(Nat.le_of_ble_eq_true rfl), (Nat.le_of_ble_eq_true rfl)⟩) (vx_preV (ci := 7) (q0 := 0) hPc hKc hDc hN rfl rfl) rfl rfl hl.1 rfl (lv_room (Nat.le_of_ble_eq_true rfl)) dX11_known_5 ⟨(Nat.le_of_ble_eq_true rfl), (Nat.le_of_ble_eq_true rfl)⟩) hS (fun q _ h => hFc q h) hFc (fun r1 u t H1 locs ht hvm hw hB hz1 hk1 hS => ?_)
  obtain ⟨hP1, hK1, hD1⟩ := hB
  rw [ht] at hP1
  obtain ⟨hP, hD⟩ := va_join (wr := [(h0, .inr (11, fsX g))]) (w1 := [((g 8), .inr (7, [.ref (g 4), .int 0, .int 0, .int 0, .ref (g904 4), .ref (g904 5), .ref (g904 6), .ref (g904 7), .ref (g904 8), .ref (g904 9), .int 0, .int 0, .int 0, .int 0, .null, .int 0, .int 0]))]) hP hD [1] [0] rfl rfl (by decide) (by decide) hk1 hFc hP1 hD1
  generalize H1 = H at hP hS ⊢
  have hP : va_P (dC, dI) vwCl [(h0, .inr (11, fsX g)), ((g 8), .inr (7, [.ref (g 4), .int 0, .int 0, .int 0, .ref (g904 4), .ref (g904 5), .ref (g904 6), .ref (g904 7), .ref (g904 8), .ref (g904 9), .int 0, .int 0, .int 0, .int 0, .null, .int 0, .int 0]))] H := hP
  have hD : va_D A [(h0, .inr (11, fsX g)), ((g 8), .inr (7, [.ref (g 4), .int 0, .int 0, .int 0, .ref (g904 4), .ref (g904 5), .ref (g904 6), .ref (g904 7), .ref (g904 8), .ref (g904 9), .int 0, .int 0, .int 0, .int 0, .null, .int 0, .int 0]))] := hD
  refine W.widen (k := 0) (n := 0) (by decide) (by decide) ?_
  try dsimp only at hw
  subst hw
  refine lv_if_eq (tgt := 26) hx hb dX11_known_8 (by decide) (fun _ => ?_) (fun h => absurd (by decide) h)
  refine lv_iconst (v := (-1)) hx hb dX11_known_26 (by decide) ?_
  have hP9 := hP.sub (ws' := []) [] rfl
  have hD9 := hD.sub (ws' := []) [] (by decide) rfl
  have hK9 := hK.sub (tys' := []) [] rfl
  exact W.iret (v := (-1)) hx hb hr (fun t ht hW => ⟨⟨(-1), (), rfl, rfl, by rw [ht]; exact hP9, va_K.moved hW.alike hK9, hD9⟩, hS.F ht⟩) hS.2.2 dX11_known_27

def w_x_value : List Cond := .code yX11_value cX11_value 3 (some .int) :: ([.fieldLink RX11 83 "LineKeeper" "theRun" "LLineKeeper$Run;", .fieldLink RX7 38 "LineKeeper$Run" "depth" "I", .code yX7_find cX7_find 5 (some .boolean), .initialized RX7, .methodLink RX11 214 yX7_find, .instanceMethod yX7_find, .selects RX7 yX7_find yX7_find] ++ (wsX110 ++ wsX70))
theorem in_x_value_11 : ∀ w ∈ wsX110, w ∈ w_x_value := fun _ h => List.mem_cons_of_mem _ (List.mem_append_right _ (List.mem_append_left _ h))
theorem in_x_value_7 : ∀ w ∈ wsX70, w ∈ w_x_value := fun _ h => List.mem_cons_of_mem _ (List.mem_append_right _ (List.mem_append_right _ h))
set_option maxRecDepth 100000 in
theorem g_x_value_k_X7_find_0_214 : GoodIn w_x_value (wsV RX11 214 RX7 yX7_find w_k_X7_find_0) := goodIn_r _ [5, 6, 7, 4, 3, 2, 24, 25, 26, 27, 28, 29, 30, 31, 32, 33, 34, 35, 36, 37, 38, 39, 40] (by decide +kernel) (by decide +kernel)
set_option maxHeartbeats 4000000 in
set_option maxRecDepth 100000 in
theorem x_value (l : Launch) (dC : Nat → ClassId) (dI : Nat → Nat → Nat) (h0 : Nat) (g : Nat → Nat) (g904 : Nat → Nat) (p1 : Int32) (p2 : Int32) (sz : Nat) : Met l yX11_value w_x_value { frames := 1, cells := 0, slots := 0, locals := 24 } (va_Pc [.ref h0, .int p1, .int p2] (vx_pre dC dI [(h0, .inr (11, fsX g)), ((g 8), .inr (7, [.ref (g 4), .int 0, .int 0, .int 0, .ref (g904 4), .ref (g904 5), .ref (g904 6), .ref (g904 7), .ref (g904 8), .ref (g904 9), .int 0, .int 0, .int 0, .int 0, .null, .int 0, .int 0]))] [] sz)) (va_Qi (fun (r : Int32) (_ : Unit) => r = 0) (fun _ t => vx_B dC dI (va_A [(h0, .inr (11, fsX g)), ((g 8), .inr (7, [.ref (g 4), .int 0, .int 0, .int 0, .ref (g904 4), .ref (g904 5), .ref (g904 6), .ref (g904 7), .ref (g904 8), .ref (g904 9), .int 0, .int 0, .int 0, .int 0, .null, .int 0, .int 0]))] sz) [] [] t) (va_A [(h0, .inr (11, fsX g)), ((g 8), .inr (7, [.ref (g 4), .int 0, .int 0, .int 0, .ref (g904 4), .ref (g904 5), .ref (g904 6), .ref (g904 7), .ref (g904 8), .ref (g904 9), .int 0, .int 0, .int 0, .int 0, .null, .int 0, .int 0]))] sz)) 0 0 (va_A [(h0, .inr (11, fsX g)), ((g 8), .inr (7, [.ref (g 4), .int 0, .int 0, .int 0, .ref (g904 4), .ref (g904 5), .ref (g904 6), .ref (g904 7), .ref (g904 8), .ref (g904 9), .int 0, .int 0, .int 0, .int 0, .null, .int 0, .int 0]))] sz) := by
  refine Met.ofW (cc := cX11_value) (maxL := 3) (ret := (some .int)) (by decide) rfl ?_
  intro p e s m args below meth c s₁ B hml hv
  obtain ⟨rfl, hsz, hP, hK, hD0, hN⟩ := hv
  have hx := B.exec
  have hb := B.bytes
  have hr := B.returns
  have hts := atoms_spec (ws := w_x_value) B.pre
  have hown : s.vm.findClass RX11 = some m.cls := findClass_of_methodNamed B.named
  have hlocks := B.notSynchronized
  subst hsz
  have hD := hD0.self (sz := s.heap.size)
  generalize hAe : va_A [(h0, .inr (11, fsX g)), ((g 8), .inr (7, [.ref (g 4), .int 0, .int 0, .int 0, .ref (g904 4), .ref (g904 5), .ref (g904 6), .ref (g904 7), .ref (g904 8), .ref (g904 9), .int 0, .int 0, .int 0, .int 0, .null, .int 0, .int 0]))] s.heap.size = A at hD ⊢
  have hA : ∀ q : Nat, s.heap.size ≤ q → A q := fun q h => by rw [← hAe]; exact Or.inr h
  obtain ⟨H, hHe⟩ : ∃ H, H = s.heap := ⟨_, rfl⟩
  rw [← hHe] at hP ⊢
  have hS : va_S A s.heap H [] := by rw [hHe]; exact va_S.rf
  have hl := lv_entry [.ref h0, .int p1, .int p2] (n := 3) (Nat.le_of_ble_eq_true rfl)
  rw [lg_entry_eq]
  generalize (lg_sl [.ref h0, .int p1, .int p2] ++ List.replicate (3 - (lg_sl [.ref h0, .int p1, .int p2]).length) Slot.unset).toArray = ls at hl ⊢
  have hl : lv_has ls 3 [(0, .ref h0), (1, .int p1), (2, .int p2)] := hl
  refine lv_aload_n hx hb dX11_value_0 rfl (lv_at hl 0 rfl) ?_
  refine va_get (D := (dC, dI)) (ci := 11) (v := .ref (g 8)) (C := RX11) (T := TX11) (N := 16) hx hb hts in_x_value_11 hown hK hP 0 rfl rfl 8 (by decide) (hts (.fieldLink RX11 83 "LineKeeper" "theRun" "LLineKeeper$Run;") (List.mem_of_getElem? (i := 1) rfl)) (fun _ h9 => h9) rfl dX11_value_1 ?_
  refine lv_iload_n hx hb dX11_value_4 rfl (lv_at hl 1 rfl) ?_
  have hPc := hP.sub (ws' := [((g 8), .inr (7, [.ref (g 4), .int 0, .int 0, .int 0, .ref (g904 4), .ref (g904 5), .ref (g904 6), .ref (g904 7), .ref (g904 8), .ref (g904 9), .int 0, .int 0, .int 0, .int 0, .null, .int 0, .int 0]))]) [1] rfl
  have hDc := hD.sub (ws' := [((g 8), .inr (7, [.ref (g 4), .int 0, .int 0, .int 0, .ref (g904 4), .ref (g904 5), .ref (g904 6), .ref (g904 7), .ref (g904 8), .ref (g904 9), .int 0, .int 0, .int 0, .int 0, .null, .int 0, .int 0]))]) [1] (by decide) rfl
  have hKc := hK.sub (tys' := []) [] rfl
  have hFc := va_free (wc := [((g 8), .inr (7, [.ref (g 4), .int 0, .int 0, .int 0, .ref (g904 4), .ref (g904 5), .ref (g904 6), .ref (g904 7), .ref (g904 8), .ref (g904 9), .int 0, .int 0, .int 0, .int 0, .null, .int 0, .int 0]))]) hD hS hA [1] rfl
  refine va_calli (va_runV (As := [.int p1]) (rest := []) ⟨hx, hb, hml, hown, hts⟩ (k_X7_find_0 l dC dI g p1 g904 H.size ) (cwV 1 hts g_x_value_k_X7_find_0_214 rfl rfl rfl (by decide +kernel) ⟨(Nat.le_of_ble_eq_true rfl), (Nat.le_of_ble_eq_true rfl)⟩) (vx_preV (ci := 7) (q0 := 0) hPc hKc hDc hN rfl rfl) rfl rfl hl.1 rfl (lv_room (Nat.le_of_ble_eq_true rfl)) dX11_value_5 ⟨(Nat.le_of_ble_eq_true rfl), (Nat.le_of_ble_eq_true rfl)⟩) hS (fun q _ h => hFc q h) hFc (fun r1 u t H1 locs ht hvm hw hB hz1 hk1 hS => ?_)
  obtain ⟨hP1, hK1, hD1⟩ := hB
  rw [ht] at hP1
  obtain ⟨hP, hD⟩ := va_join (wr := [(h0, .inr (11, fsX g))]) (w1 := [((g 8), .inr (7, [.ref (g 4), .int 0, .int 0, .int 0, .ref (g904 4), .ref (g904 5), .ref (g904 6), .ref (g904 7), .ref (g904 8), .ref (g904 9), .int 0, .int 0, .int 0, .int 0, .null, .int 0, .int 0]))]) hP hD [1] [0] rfl rfl (by decide) (by decide) hk1 hFc hP1 hD1
  generalize H1 = H at hP hS ⊢
  have hP : va_P (dC, dI) vwCl [(h0, .inr (11, fsX g)), ((g 8), .inr (7, [.ref (g 4), .int 0, .int 0, .int 0, .ref (g904 4), .ref (g904 5), .ref (g904 6), .ref (g904 7), .ref (g904 8), .ref (g904 9), .int 0, .int 0, .int 0, .int 0, .null, .int 0, .int 0]))] H := hP
  have hD : va_D A [(h0, .inr (11, fsX g)), ((g 8), .inr (7, [.ref (g 4), .int 0, .int 0, .int 0, .ref (g904 4), .ref (g904 5), .ref (g904 6), .ref (g904 7), .ref (g904 8), .ref (g904 9), .int 0, .int 0, .int 0, .int 0, .null, .int 0, .int 0]))] := hD
  refine W.widen (k := 0) (n := 0) (by decide) (by decide) ?_
  try dsimp only at hw
  subst hw
  refine lv_if_eq (tgt := 26) hx hb dX11_value_8 (by decide) (fun _ => ?_) (fun h => absurd (by decide) h)
  refine lv_iconst (v := 0) hx hb dX11_value_26 (by decide) ?_
  have hP9 := hP.sub (ws' := []) [] rfl
  have hD9 := hD.sub (ws' := []) [] (by decide) rfl
  have hK9 := hK.sub (tys' := []) [] rfl
  exact W.iret (v := 0) hx hb hr (fun t ht hW => ⟨⟨0, (), rfl, rfl, by rw [ht]; exact hP9, va_K.moved hW.alike hK9, hD9⟩, hS.F ht⟩) hS.2.2 dX11_value_27

def w_x_run : List Cond := .code yX11_run cX11_run 2 (some .int) :: ([.fieldLink RX11 83 "LineKeeper" "theRun" "LLineKeeper$Run;", .fieldLink RX11 208 "LineKeeper$Run" "state" "I"] ++ (wsX110 ++ wsX70))
theorem in_x_run_11 : ∀ w ∈ wsX110, w ∈ w_x_run := fun _ h => List.mem_cons_of_mem _ (List.mem_append_right _ (List.mem_append_left _ h))
theorem in_x_run_7 : ∀ w ∈ wsX70, w ∈ w_x_run := fun _ h => List.mem_cons_of_mem _ (List.mem_append_right _ (List.mem_append_right _ h))
set_option maxHeartbeats 4000000 in
set_option maxRecDepth 100000 in
theorem x_run (l : Launch) (dC : Nat → ClassId) (dI : Nat → Nat → Nat) (h0 : Nat) (g : Nat → Nat) (g904 : Nat → Nat) (p1 : Int32) (sz : Nat) : Met l yX11_run w_x_run { frames := 0, cells := 0, slots := 0, locals := 0 } (va_Pc [.ref h0, .int p1] (vx_pre dC dI [(h0, .inr (11, fsX g)), ((g 8), .inr (7, [.ref (g 4), .int 0, .int 0, .int 0, .ref (g904 4), .ref (g904 5), .ref (g904 6), .ref (g904 7), .ref (g904 8), .ref (g904 9), .int 0, .int 0, .int 0, .int 0, .null, .int 0, .int 0]))] [] sz)) (va_Qi (fun (r : Int32) (_ : Unit) => r = (-1)) (fun _ t => vx_B dC dI (va_A [(h0, .inr (11, fsX g)), ((g 8), .inr (7, [.ref (g 4), .int 0, .int 0, .int 0, .ref (g904 4), .ref (g904 5), .ref (g904 6), .ref (g904 7), .ref (g904 8), .ref (g904 9), .int 0, .int 0, .int 0, .int 0, .null, .int 0, .int 0]))] sz) [] [] t) (va_A [(h0, .inr (11, fsX g)), ((g 8), .inr (7, [.ref (g 4), .int 0, .int 0, .int 0, .ref (g904 4), .ref (g904 5), .ref (g904 6), .ref (g904 7), .ref (g904 8), .ref (g904 9), .int 0, .int 0, .int 0, .int 0, .null, .int 0, .int 0]))] sz)) 0 0 (va_A [(h0, .inr (11, fsX g)), ((g 8), .inr (7, [.ref (g 4), .int 0, .int 0, .int 0, .ref (g904 4), .ref (g904 5), .ref (g904 6), .ref (g904 7), .ref (g904 8), .ref (g904 9), .int 0, .int 0, .int 0, .int 0, .null, .int 0, .int 0]))] sz) := by
  refine Met.ofW (cc := cX11_run) (maxL := 2) (ret := (some .int)) (by decide) rfl ?_
  intro p e s m args below meth c s₁ B hml hv
  obtain ⟨rfl, hsz, hP, hK, hD0, hN⟩ := hv
  have hx := B.exec
  have hb := B.bytes
  have hr := B.returns
  have hts := atoms_spec (ws := w_x_run) B.pre
  have hown : s.vm.findClass RX11 = some m.cls := findClass_of_methodNamed B.named
  have hlocks := B.notSynchronized
  subst hsz
  have hD := hD0.self (sz := s.heap.size)
  generalize hAe : va_A [(h0, .inr (11, fsX g)), ((g 8), .inr (7, [.ref (g 4), .int 0, .int 0, .int 0, .ref (g904 4), .ref (g904 5), .ref (g904 6), .ref (g904 7), .ref (g904 8), .ref (g904 9), .int 0, .int 0, .int 0, .int 0, .null, .int 0, .int 0]))] s.heap.size = A at hD ⊢
  have hA : ∀ q : Nat, s.heap.size ≤ q → A q := fun q h => by rw [← hAe]; exact Or.inr h
  obtain ⟨H, hHe⟩ : ∃ H, H = s.heap := ⟨_, rfl⟩
  rw [← hHe] at hP ⊢
  have hS : va_S A s.heap H [] := by rw [hHe]; exact va_S.rf
  have hl := lv_entry [.ref h0, .int p1] (n := 2) (Nat.le_of_ble_eq_true rfl)
  rw [lg_entry_eq]
  generalize (lg_sl [.ref h0, .int p1] ++ List.replicate (2 - (lg_sl [.ref h0, .int p1]).length) Slot.unset).toArray = ls at hl ⊢
  have hl : lv_has ls 2 [(0, .ref h0), (1, .int p1)] := hl
  refine lv_aload_n hx hb dX11_run_0 rfl (lv_at hl 0 rfl) ?_
  refine va_get (D := (dC, dI)) (ci := 11) (v := .ref (g 8)) (C := RX11) (T := TX11) (N := 16) hx hb hts in_x_run_11 hown hK hP 0 rfl rfl 8 (by decide) (hts (.fieldLink RX11 83 "LineKeeper" "theRun" "LLineKeeper$Run;") (List.mem_of_getElem? (i := 1) rfl)) (fun _ h9 => h9) rfl dX11_run_1 ?_
  refine va_get (D := (dC, dI)) (ci := 7) (v := .int 0) (C := RX7) (T := TX7) (N := 17) hx hb hts in_x_run_7 hown hK hP 1 rfl rfl 1 (by decide) (hts (.fieldLink RX11 208 "LineKeeper$Run" "state" "I") (List.mem_of_getElem? (i := 2) rfl)) (fun _ h9 => h9) rfl dX11_run_4 ?_
  refine lv_if_ne (tgt := 12) hx hb dX11_run_7 (by decide) (fun h => absurd (by decide) h) (fun _ => ?_)
  refine lv_iconst (v := (-1)) hx hb dX11_run_10 (by decide) ?_
  have hP9 := hP.sub (ws' := []) [] rfl
  have hD9 := hD.sub (ws' := []) [] (by decide) rfl
  have hK9 := hK.sub (tys' := []) [] rfl
  exact W.iret (v := (-1)) hx hb hr (fun t ht hW => ⟨⟨(-1), (), rfl, rfl, by rw [ht]; exact hP9, va_K.moved hW.alike hK9, hD9⟩, hS.F ht⟩) hS.2.2 dX11_run_11

def w_x_printed : List Cond := .code yX11_printed cX11_printed 2 (some .int) :: ([.fieldLink RX11 83 "LineKeeper" "theRun" "LLineKeeper$Run;", .fieldLink RX11 208 "LineKeeper$Run" "state" "I"] ++ (wsX110 ++ wsX70))
theorem in_x_printed_11 : ∀ w ∈ wsX110, w ∈ w_x_printed := fun _ h => List.mem_cons_of_mem _ (List.mem_append_right _ (List.mem_append_left _ h))
theorem in_x_printed_7 : ∀ w ∈ wsX70, w ∈ w_x_printed := fun _ h => List.mem_cons_of_mem _ (List.mem_append_right _ (List.mem_append_right _ h))
set_option maxHeartbeats 4000000 in
set_option maxRecDepth 100000 in
theorem x_printed (l : Launch) (dC : Nat → ClassId) (dI : Nat → Nat → Nat) (h0 : Nat) (g : Nat → Nat) (g904 : Nat → Nat) (p1 : Int32) (sz : Nat) : Met l yX11_printed w_x_printed { frames := 0, cells := 0, slots := 0, locals := 0 } (va_Pc [.ref h0, .int p1] (vx_pre dC dI [(h0, .inr (11, fsX g)), ((g 8), .inr (7, [.ref (g 4), .int 0, .int 0, .int 0, .ref (g904 4), .ref (g904 5), .ref (g904 6), .ref (g904 7), .ref (g904 8), .ref (g904 9), .int 0, .int 0, .int 0, .int 0, .null, .int 0, .int 0]))] [] sz)) (va_Qi (fun (r : Int32) (_ : Unit) => r = 0) (fun _ t => vx_B dC dI (va_A [(h0, .inr (11, fsX g)), ((g 8), .inr (7, [.ref (g 4), .int 0, .int 0, .int 0, .ref (g904 4), .ref (g904 5), .ref (g904 6), .ref (g904 7), .ref (g904 8), .ref (g904 9), .int 0, .int 0, .int 0, .int 0, .null, .int 0, .int 0]))] sz) [] [] t) (va_A [(h0, .inr (11, fsX g)), ((g 8), .inr (7, [.ref (g 4), .int 0, .int 0, .int 0, .ref (g904 4), .ref (g904 5), .ref (g904 6), .ref (g904 7), .ref (g904 8), .ref (g904 9), .int 0, .int 0, .int 0, .int 0, .null, .int 0, .int 0]))] sz)) 0 0 (va_A [(h0, .inr (11, fsX g)), ((g 8), .inr (7, [.ref (g 4), .int 0, .int 0, .int 0, .ref (g904 4), .ref (g904 5), .ref (g904 6), .ref (g904 7), .ref (g904 8), .ref (g904 9), .int 0, .int 0, .int 0, .int 0, .null, .int 0, .int 0]))] sz) := by
  refine Met.ofW (cc := cX11_printed) (maxL := 2) (ret := (some .int)) (by decide) rfl ?_
  intro p e s m args below meth c s₁ B hml hv
  obtain ⟨rfl, hsz, hP, hK, hD0, hN⟩ := hv
  have hx := B.exec
  have hb := B.bytes
  have hr := B.returns
  have hts := atoms_spec (ws := w_x_printed) B.pre
  have hown : s.vm.findClass RX11 = some m.cls := findClass_of_methodNamed B.named
  have hlocks := B.notSynchronized
  subst hsz
  have hD := hD0.self (sz := s.heap.size)
  generalize hAe : va_A [(h0, .inr (11, fsX g)), ((g 8), .inr (7, [.ref (g 4), .int 0, .int 0, .int 0, .ref (g904 4), .ref (g904 5), .ref (g904 6), .ref (g904 7), .ref (g904 8), .ref (g904 9), .int 0, .int 0, .int 0, .int 0, .null, .int 0, .int 0]))] s.heap.size = A at hD ⊢
  have hA : ∀ q : Nat, s.heap.size ≤ q → A q := fun q h => by rw [← hAe]; exact Or.inr h
  obtain ⟨H, hHe⟩ : ∃ H, H = s.heap := ⟨_, rfl⟩
  rw [← hHe] at hP ⊢
  have hS : va_S A s.heap H [] := by rw [hHe]; exact va_S.rf
  have hl := lv_entry [.ref h0, .int p1] (n := 2) (Nat.le_of_ble_eq_true rfl)
  rw [lg_entry_eq]
  generalize (lg_sl [.ref h0, .int p1] ++ List.replicate (2 - (lg_sl [.ref h0, .int p1]).length) Slot.unset).toArray = ls at hl ⊢
  have hl : lv_has ls 2 [(0, .ref h0), (1, .int p1)] := hl
  refine lv_aload_n hx hb dX11_printed_0 rfl (lv_at hl 0 rfl) ?_
  refine va_get (D := (dC, dI)) (ci := 11) (v := .ref (g 8)) (C := RX11) (T := TX11) (N := 16) hx hb hts in_x_printed_11 hown hK hP 0 rfl rfl 8 (by decide) (hts (.fieldLink RX11 83 "LineKeeper" "theRun" "LLineKeeper$Run;") (List.mem_of_getElem? (i := 1) rfl)) (fun _ h9 => h9) rfl dX11_printed_1 ?_
  refine va_get (D := (dC, dI)) (ci := 7) (v := .int 0) (C := RX7) (T := TX7) (N := 17) hx hb hts in_x_printed_7 hown hK hP 1 rfl rfl 1 (by decide) (hts (.fieldLink RX11 208 "LineKeeper$Run" "state" "I") (List.mem_of_getElem? (i := 2) rfl)) (fun _ h9 => h9) rfl dX11_printed_4 ?_
  refine lv_if_eq (tgt := 25) hx hb dX11_printed_7 (by decide) (fun _ => ?_) (fun h => absurd (by decide) h)
  refine lv_iconst (v := 0) hx hb dX11_printed_25 (by decide) ?_
  have hP9 := hP.sub (ws' := []) [] rfl
  have hD9 := hD.sub (ws' := []) [] (by decide) rfl
  have hK9 := hK.sub (tys' := []) [] rfl
  exact W.iret (v := 0) hx hb hr (fun t ht hW => ⟨⟨0, (), rfl, rfl, by rw [ht]; exact hP9, va_K.moved hW.alike hK9, hD9⟩, hS.F ht⟩) hS.2.2 dX11_printed_26
