set_option maxHeartbeats 4000000 in
set_option maxRecDepth 100000 in
theorem whole_start {p : Program} {e : Env} {s : State} {m : MethodId} {below : List Frame} {meth : Method} {c : Code} (l : Launch) {b L : Nat} {xs : Nat → Int32} (hL : L ≤ 7) (C0 : lw_At p s m meth c b L xs) : W p l e room_1 s m #[Value.ref b] below meth c s.heap [] 0 0 (lw_Z below #[Value.ref b] s) (entryFrame m ([Value.ref b] : List Value).toArray 4) := by
  obtain ⟨hx, hb, hr, hml, hown, hts0, hX, hbl, hlocks, hgv⟩ := id C0
  have hts : ∀ w ∈ w_law, w.before #[Value.ref b] s = true := fun w h => hts0 w (w_law_in w h)
  have hown : s.vm.findClass RL = some m.cls := hown
  have hN : nst s := ⟨fun q hq => va_Nw.of rfl (hts0 _ (nst_in q hq)), va_AO.of (hts0 _ nst_inC), hts0 _ nst_inI⟩
  obtain ⟨c0, iS0, hKn0⟩ := u_known (C := RX0) (T := TX0) (N := 5) (n := 5) hts in_law_0 (hts (.instantiable RX0 5) (List.mem_of_getElem? (i := 461) rfl))
  obtain ⟨c1, iS1, hKn1⟩ := u_known (C := RX1) (T := TX1) (N := 12) (n := 12) hts in_law_1 (hts (.instantiable RX1 12) (List.mem_of_getElem? (i := 35) rfl))
  obtain ⟨c2, iS2, hKn2⟩ := u_known (C := RX2) (T := TX2) (N := 1) (n := 1) hts in_law_2 (hts (.instantiable RX2 1) (List.mem_of_getElem? (i := 88) rfl))
  obtain ⟨c3, iS3, hKn3⟩ := u_known (C := RX3) (T := TX3) (N := 5) (n := 5) hts in_law_3 (hts (.instantiable RX3 5) (List.mem_of_getElem? (i := 53) rfl))
  obtain ⟨c4, iS4, hKn4⟩ := u_known (C := RX4) (T := TX4) (N := 10) (n := 10) hts in_law_4 (hts (.instantiable RX4 10) (List.mem_of_getElem? (i := 97) rfl))
  obtain ⟨c5, iS5, hKn5⟩ := u_known (C := RX5) (T := TX5) (N := 19) (n := 19) hts in_law_5 (hts (.instantiable RX5 19) (List.mem_of_getElem? (i := 12) rfl))
  obtain ⟨c6, iS6, hKn6⟩ := u_known (C := RX6) (T := TX6) (N := 3) (n := 3) hts in_law_6 (hts (.instantiable RX6 3) (List.mem_of_getElem? (i := 78) rfl))
  obtain ⟨c7, iS7, hKn7⟩ := u_known (C := RX7) (T := TX7) (N := 17) (n := 17) hts in_law_7 (hts (.instantiable RX7 17) (List.mem_of_getElem? (i := 123) rfl))
  obtain ⟨c8, iS8, hKn8⟩ := u_known (C := RX8) (T := TX8) (N := 9) (n := 9) hts in_law_8 (hts (.instantiable RX8 9) (List.mem_of_getElem? (i := 107) rfl))
  obtain ⟨c9, iS9, hKn9⟩ := u_known (C := RX9) (T := TX9) (N := 7) (n := 7) hts in_law_9 (hts (.instantiable RX9 7) (List.mem_of_getElem? (i := 16) rfl))
  obtain ⟨c10, iS10, hKn10⟩ := u_known (C := RX10) (T := TX10) (N := 7) (n := 7) hts in_law_10 (hts (.instantiable RX10 7) (List.mem_of_getElem? (i := 65) rfl))
  obtain ⟨c11, iS11, hKn11⟩ := u_known (C := RX11) (T := TX11) (N := 16) (n := 16) hts in_law_11 (hts (.instantiable RX11 16) (List.mem_of_getElem? (i := 1) rfl))
  obtain ⟨c12, iS12, hKn12⟩ := u_known (C := RX12) (T := TX12) (N := 87) (n := 87) hts in_law_12 (hts (.instantiable RX12 87) (List.mem_of_getElem? (i := 141) rfl))
  obtain ⟨dC, dI, hKc⟩ : ∃ (dC : Nat → ClassId) (dI : Nat → Nat → Nat), ∀ (k : Nat) (q : vw_C), vwCl[k]? = some q → u_Kn s q.1 q.2.1 q.2.2 (dC k) (dI k) := by
    refine ⟨fun k => [c0, c1, c2, c3, c4, c5, c6, c7, c8, c9, c10, c11, c12].getD k c0, fun k => [iS0, iS1, iS2, iS3, iS4, iS5, iS6, iS7, iS8, iS9, iS10, iS11, iS12].getD k iS0, ?_⟩
    intro k q hq
    match k, hq with
    | 0, hq => cases hq; exact hKn0
    | 1, hq => cases hq; exact hKn1
    | 2, hq => cases hq; exact hKn2
    | 3, hq => cases hq; exact hKn3
    | 4, hq => cases hq; exact hKn4
    | 5, hq => cases hq; exact hKn5
    | 6, hq => cases hq; exact hKn6
    | 7, hq => cases hq; exact hKn7
    | 8, hq => cases hq; exact hKn8
    | 9, hq => cases hq; exact hKn9
    | 10, hq => cases hq; exact hKn10
    | 11, hq => cases hq; exact hKn11
    | 12, hq => cases hq; exact hKn12
    | k + 13, hq => simp [vwCl] at hq
  obtain ⟨A, hAe⟩ : ∃ A : Nat → Prop, A = (fun q => s.heap.size ≤ q) := ⟨_, rfl⟩
  have hA : ∀ q : Nat, s.heap.size ≤ q → A q := fun q h => by rw [hAe]; exact h
  have hbA : ¬ A b := by rw [hAe]; exact Nat.not_le.mpr hbl
  obtain ⟨H, hHe⟩ : ∃ H, H = s.heap := ⟨_, rfl⟩
  have hS : va_S A s.heap H [] := by rw [hHe]; exact va_S.rf
  have hK : va_K (dC, dI) vwCl [] s := ⟨hKc, fun k q h => by simp at h⟩
  have hP : va_P (dC, dI) vwCl [] H := fun k q h => by simp at h
  have hD : va_D A [] := ⟨fun i j p q h => by simp at h, fun k q h => by simp at h⟩
  refine (show W p l e room_1 s m #[Value.ref b] below meth c H [] 0 0 (lw_Z below #[Value.ref b] s) (entryFrame m ([Value.ref b] : List Value).toArray 4) → W p l e room_1 s m #[Value.ref b] below meth c s.heap [] 0 0 (lw_Z below #[Value.ref b] s) (entryFrame m ([Value.ref b] : List Value).toArray 4) from fun h => by rw [← hHe]; exact h) ?_
  have hl := lv_entry ([.ref b]) (n := 4) (Nat.le_of_ble_eq_true rfl)
  rw [lg_entry_eq]
  generalize (lg_sl ([.ref b]) ++ List.replicate (4 - (lg_sl ([.ref b])).length) Slot.unset).toArray = ls at hl ⊢
  have hl : lv_has ls 4 [(0, .ref b)] := hl
  refine va_new (ci := 11) (fs := [.null, .int 0, .int 0, .null, .null, .null, .null, .null, .null, .int 0, .int 0, .null, .null, .null, .null, .null]) (C := RX11) (T := TX11) (N := 16) hx hb hts in_law_11 tyX11 tyX11_ok hown (hts (.classLink RL 7 RX11) (List.mem_of_getElem? (i := 0) rfl)) (hts (.instantiable RX11 16) (List.mem_of_getElem? (i := 1) rfl)) (hts (.initialized RX11) (List.mem_of_getElem? (i := 2) rfl)) hK hP hD hS hA rfl df_11 (Nat.le_of_ble_eq_true rfl) (Nat.le_of_ble_eq_true rfl) dL_law_0 (fun q1 H hP hD hS => ?_)
  have hP : va_P (dC, dI) vwCl [(q1, .inr (11, [.null, .int 0, .int 0, .null, .null, .null, .null, .null, .null, .int 0, .int 0, .null, .null, .null, .null, .null]))] H := hP
  have hD : va_D A [(q1, .inr (11, [.null, .int 0, .int 0, .null, .null, .null, .null, .null, .null, .int 0, .int 0, .null, .null, .null, .null, .null]))] := hD
  refine W.widen (k := 1) (n := 16) (by decide) (by decide) ?_
  refine lv_dup hx hb dL_law_3 rfl ?_
  have hPc := hP.sub (ws' := [(q1, .inr (11, [.null, .int 0, .int 0, .null, .null, .null, .null, .null, .null, .int 0, .int 0, .null, .null, .null, .null, .null]))]) [0] rfl
  have hDc := hD.sub (ws' := [(q1, .inr (11, [.null, .int 0, .int 0, .null, .null, .null, .null, .null, .null, .int 0, .int 0, .null, .null, .null, .null, .null]))]) [0] (by decide) rfl
  have hKc := hK.sub (tys' := []) [] rfl
  have hFc := va_free (wc := [(q1, .inr (11, [.null, .int 0, .int 0, .null, .null, .null, .null, .null, .null, .int 0, .int 0, .null, .null, .null, .null, .null]))]) hD hS hA [0] rfl
  refine va_callv (va_runI (As := []) (rest := [.ref q1]) ⟨hx, hb, hml, hown, hts⟩ (k_X_init l dC dI q1 H.size ) (cwI 0 hts g_law_k_X_init_9 rfl rfl rfl (hts (.initialized RX11) (List.mem_of_getElem? (i := 2) rfl)) (hts (.methodLink RL 9 yX11_init) (List.mem_of_getElem? (i := 138) rfl)) (hts (.instanceMethod yX11_init) (List.mem_of_getElem? (i := 139) rfl)) rfl (by decide +kernel) ⟨(Nat.le_of_ble_eq_true rfl), (Nat.le_of_ble_eq_true rfl)⟩) (vx_preS hPc hKc hDc hN) rfl rfl hl.1 rfl (lv_room (Nat.le_of_ble_eq_true rfl)) dL_law_4 ⟨(Nat.le_of_ble_eq_true rfl), (Nat.le_of_ble_eq_true rfl)⟩) hS (fun q _ h => hFc q h) hFc (fun u t H1 locs ht hvm hw hB hz1 hk1 hS => ?_)
  obtain ⟨g3, cA4, g5, g6, cA7, cA8, cA9, g10, hP1, hK1, hD1⟩ := hB
  rw [ht] at hP1
  have hK1 := va_K.moved hvm.symm hK1
  have hK := hK.app hK1
  have hK : va_K (dC, dI) vwCl [(cA4, .byte), (cA7, .int), (cA8, .int), (cA9, .int)] s := hK
  obtain ⟨hP, hD⟩ := va_join (wr := []) (w1 := [(q1, .inr (11, fsX g3)), ((g3 0), .inl (cA4, 1200, .inl (fun _ => 0))), ((g3 5), .inr (5, [.ref (g5 0), .ref (g5 1), .ref (g5 2), .ref (g5 3), .ref (g5 4), .int 0, .ref (g5 6), .ref (g5 7), .ref (g5 8), .int 0, .int 0, .int 0, .int 0, .int 0, .int 0, .ref (g5 15), .ref (g5 16), .int 0, .int 0])), ((g5 0), .inr (9, [.ref (g6 0), .ref (g6 1), .ref (g6 2), .int 0, .int 0, .int 0, .int 0])), ((g6 0), .inl (cA7, 1201, .inl (fun _ => 0))), ((g6 1), .inl (cA8, 1201, .inl (fun _ => 0))), ((g6 2), .inl (cA9, 1201, .inl (fun _ => 0))), ((g3 8), .inr (7, [.ref (g3 4), .int 0, .int 0, .int 0, .ref (g10 4), .ref (g10 5), .ref (g10 6), .ref (g10 7), .ref (g10 8), .ref (g10 9), .int 0, .int 0, .int 0, .int 0, .null, .int 0, .int 0]))]) hP hD [0] [] rfl rfl (by decide) (by decide) hk1 hFc hP1 hD1
  generalize H1 = H at hP hS ⊢
  have hP : va_P (dC, dI) vwCl [(q1, .inr (11, fsX g3)), ((g3 0), .inl (cA4, 1200, .inl (fun _ => 0))), ((g3 5), .inr (5, [.ref (g5 0), .ref (g5 1), .ref (g5 2), .ref (g5 3), .ref (g5 4), .int 0, .ref (g5 6), .ref (g5 7), .ref (g5 8), .int 0, .int 0, .int 0, .int 0, .int 0, .int 0, .ref (g5 15), .ref (g5 16), .int 0, .int 0])), ((g5 0), .inr (9, [.ref (g6 0), .ref (g6 1), .ref (g6 2), .int 0, .int 0, .int 0, .int 0])), ((g6 0), .inl (cA7, 1201, .inl (fun _ => 0))), ((g6 1), .inl (cA8, 1201, .inl (fun _ => 0))), ((g6 2), .inl (cA9, 1201, .inl (fun _ => 0))), ((g3 8), .inr (7, [.ref (g3 4), .int 0, .int 0, .int 0, .ref (g10 4), .ref (g10 5), .ref (g10 6), .ref (g10 7), .ref (g10 8), .ref (g10 9), .int 0, .int 0, .int 0, .int 0, .null, .int 0, .int 0]))] H := hP
  have hD : va_D A [(q1, .inr (11, fsX g3)), ((g3 0), .inl (cA4, 1200, .inl (fun _ => 0))), ((g3 5), .inr (5, [.ref (g5 0), .ref (g5 1), .ref (g5 2), .ref (g5 3), .ref (g5 4), .int 0, .ref (g5 6), .ref (g5 7), .ref (g5 8), .int 0, .int 0, .int 0, .int 0, .int 0, .int 0, .ref (g5 15), .ref (g5 16), .int 0, .int 0])), ((g5 0), .inr (9, [.ref (g6 0), .ref (g6 1), .ref (g6 2), .int 0, .int 0, .int 0, .int 0])), ((g6 0), .inl (cA7, 1201, .inl (fun _ => 0))), ((g6 1), .inl (cA8, 1201, .inl (fun _ => 0))), ((g6 2), .inl (cA9, 1201, .inl (fun _ => 0))), ((g3 8), .inr (7, [.ref (g3 4), .int 0, .int 0, .int 0, .ref (g10 4), .ref (g10 5), .ref (g10 6), .ref (g10 7), .ref (g10 8), .ref (g10 9), .int 0, .int 0, .int 0, .int 0, .null, .int 0, .int 0]))] := hD
  refine W.widen (k := 201) (n := 20268) (by decide) (by decide) ?_
  refine lv_astore_n (lv' := [(1, .ref q1), (0, .ref b)]) hx hb dL_law_7 rfl hl (by decide) rfl (fun ls hl => ?_)
  refine va_new (ci := 12) (fs := [.int 0, .null, .int 0, .null, .null, .null, .null, .null, .null, .null, .int 0, .null, .null, .null, .null, .null, .null, .null, .null, .int 0, .int 0, .int 0, .int 0, .int 0, .long 0, .int 0, .int 0, .int 0, .int 0, .int 0, .int 0, .int 0, .int 0, .int 0, .int 0, .null, .null, .null, .null, .int 0, .int 0, .null, .null, .int 0, .null, .null, .null, .null, .null, .null, .null, .null, .null, .null, .null, .null, .null, .null, .null, .null, .null, .null, .int 0, .null, .null, .null, .null, .int 0, .int 0, .int 0, .int 0, .int 0, .int 0, .null, .null, .null, .null, .null, .null, .null, .null, .null, .null, .int 0, .int 0, .int 0, .null]) (C := RX12) (T := TX12) (N := 87) hx hb hts in_law_12 tyX12 tyX12_ok hown (hts (.classLink RL 10 RX12) (List.mem_of_getElem? (i := 140) rfl)) (hts (.instantiable RX12 87) (List.mem_of_getElem? (i := 141) rfl)) (hts (.initialized RX12) (List.mem_of_getElem? (i := 142) rfl)) hK hP hD hS hA rfl df_12 (Nat.le_of_ble_eq_true rfl) (Nat.le_of_ble_eq_true rfl) dL_law_8 (fun q11 H hP hD hS => ?_)
  have hP : va_P (dC, dI) vwCl [(q1, .inr (11, fsX g3)), ((g3 0), .inl (cA4, 1200, .inl (fun _ => 0))), ((g3 5), .inr (5, [.ref (g5 0), .ref (g5 1), .ref (g5 2), .ref (g5 3), .ref (g5 4), .int 0, .ref (g5 6), .ref (g5 7), .ref (g5 8), .int 0, .int 0, .int 0, .int 0, .int 0, .int 0, .ref (g5 15), .ref (g5 16), .int 0, .int 0])), ((g5 0), .inr (9, [.ref (g6 0), .ref (g6 1), .ref (g6 2), .int 0, .int 0, .int 0, .int 0])), ((g6 0), .inl (cA7, 1201, .inl (fun _ => 0))), ((g6 1), .inl (cA8, 1201, .inl (fun _ => 0))), ((g6 2), .inl (cA9, 1201, .inl (fun _ => 0))), ((g3 8), .inr (7, [.ref (g3 4), .int 0, .int 0, .int 0, .ref (g10 4), .ref (g10 5), .ref (g10 6), .ref (g10 7), .ref (g10 8), .ref (g10 9), .int 0, .int 0, .int 0, .int 0, .null, .int 0, .int 0])), (q11, .inr (12, [.int 0, .null, .int 0, .null, .null, .null, .null, .null, .null, .null, .int 0, .null, .null, .null, .null, .null, .null, .null, .null, .int 0, .int 0, .int 0, .int 0, .int 0, .long 0, .int 0, .int 0, .int 0, .int 0, .int 0, .int 0, .int 0, .int 0, .int 0, .int 0, .null, .null, .null, .null, .int 0, .int 0, .null, .null, .int 0, .null, .null, .null, .null, .null, .null, .null, .null, .null, .null, .null, .null, .null, .null, .null, .null, .null, .null, .int 0, .null, .null, .null, .null, .int 0, .int 0, .int 0, .int 0, .int 0, .int 0, .null, .null, .null, .null, .null, .null, .null, .null, .null, .null, .int 0, .int 0, .int 0, .null]))] H := hP
  have hD : va_D A [(q1, .inr (11, fsX g3)), ((g3 0), .inl (cA4, 1200, .inl (fun _ => 0))), ((g3 5), .inr (5, [.ref (g5 0), .ref (g5 1), .ref (g5 2), .ref (g5 3), .ref (g5 4), .int 0, .ref (g5 6), .ref (g5 7), .ref (g5 8), .int 0, .int 0, .int 0, .int 0, .int 0, .int 0, .ref (g5 15), .ref (g5 16), .int 0, .int 0])), ((g5 0), .inr (9, [.ref (g6 0), .ref (g6 1), .ref (g6 2), .int 0, .int 0, .int 0, .int 0])), ((g6 0), .inl (cA7, 1201, .inl (fun _ => 0))), ((g6 1), .inl (cA8, 1201, .inl (fun _ => 0))), ((g6 2), .inl (cA9, 1201, .inl (fun _ => 0))), ((g3 8), .inr (7, [.ref (g3 4), .int 0, .int 0, .int 0, .ref (g10 4), .ref (g10 5), .ref (g10 6), .ref (g10 7), .ref (g10 8), .ref (g10 9), .int 0, .int 0, .int 0, .int 0, .null, .int 0, .int 0])), (q11, .inr (12, [.int 0, .null, .int 0, .null, .null, .null, .null, .null, .null, .null, .int 0, .null, .null, .null, .null, .null, .null, .null, .null, .int 0, .int 0, .int 0, .int 0, .int 0, .long 0, .int 0, .int 0, .int 0, .int 0, .int 0, .int 0, .int 0, .int 0, .int 0, .int 0, .null, .null, .null, .null, .int 0, .int 0, .null, .null, .int 0, .null, .null, .null, .null, .null, .null, .null, .null, .null, .null, .null, .null, .null, .null, .null, .null, .null, .null, .int 0, .null, .null, .null, .null, .int 0, .int 0, .int 0, .int 0, .int 0, .int 0, .null, .null, .null, .null, .null, .null, .null, .null, .null, .null, .int 0, .int 0, .int 0, .null]))] := hD
  refine W.widen (k := 202) (n := 20355) (by decide) (by decide) ?_
  refine lv_dup hx hb dL_law_11 rfl ?_
  have hPc := hP.sub (ws' := [(q11, .inr (12, [.int 0, .null, .int 0, .null, .null, .null, .null, .null, .null, .null, .int 0, .null, .null, .null, .null, .null, .null, .null, .null, .int 0, .int 0, .int 0, .int 0, .int 0, .long 0, .int 0, .int 0, .int 0, .int 0, .int 0, .int 0, .int 0, .int 0, .int 0, .int 0, .null, .null, .null, .null, .int 0, .int 0, .null, .null, .int 0, .null, .null, .null, .null, .null, .null, .null, .null, .null, .null, .null, .null, .null, .null, .null, .null, .null, .null, .int 0, .null, .null, .null, .null, .int 0, .int 0, .int 0, .int 0, .int 0, .int 0, .null, .null, .null, .null, .null, .null, .null, .null, .null, .null, .int 0, .int 0, .int 0, .null]))]) [8] rfl
  have hDc := hD.sub (ws' := [(q11, .inr (12, [.int 0, .null, .int 0, .null, .null, .null, .null, .null, .null, .null, .int 0, .null, .null, .null, .null, .null, .null, .null, .null, .int 0, .int 0, .int 0, .int 0, .int 0, .long 0, .int 0, .int 0, .int 0, .int 0, .int 0, .int 0, .int 0, .int 0, .int 0, .int 0, .null, .null, .null, .null, .int 0, .int 0, .null, .null, .int 0, .null, .null, .null, .null, .null, .null, .null, .null, .null, .null, .null, .null, .null, .null, .null, .null, .null, .null, .int 0, .null, .null, .null, .null, .int 0, .int 0, .int 0, .int 0, .int 0, .int 0, .null, .null, .null, .null, .null, .null, .null, .null, .null, .null, .int 0, .int 0, .int 0, .null]))]) [8] (by decide) rfl
  have hKc := hK.sub (tys' := []) [] rfl
  have hFc := va_free (wc := [(q11, .inr (12, [.int 0, .null, .int 0, .null, .null, .null, .null, .null, .null, .null, .int 0, .null, .null, .null, .null, .null, .null, .null, .null, .int 0, .int 0, .int 0, .int 0, .int 0, .long 0, .int 0, .int 0, .int 0, .int 0, .int 0, .int 0, .int 0, .int 0, .int 0, .int 0, .null, .null, .null, .null, .int 0, .int 0, .null, .null, .int 0, .null, .null, .null, .null, .null, .null, .null, .null, .null, .null, .null, .null, .null, .null, .null, .null, .null, .null, .int 0, .null, .null, .null, .null, .int 0, .int 0, .int 0, .int 0, .int 0, .int 0, .null, .null, .null, .null, .null, .null, .null, .null, .null, .null, .int 0, .int 0, .int 0, .null]))]) hD hS hA [8] rfl
  refine va_callv (va_runI (As := []) (rest := [.ref q11]) ⟨hx, hb, hml, hown, hts⟩ (k_M_init l dC dI q11 H.size ) (cwI 0 hts g_law_k_M_init_12 rfl rfl rfl (hts (.initialized RX12) (List.mem_of_getElem? (i := 142) rfl)) (hts (.methodLink RL 12 yX12_init) (List.mem_of_getElem? (i := 205) rfl)) (hts (.instanceMethod yX12_init) (List.mem_of_getElem? (i := 206) rfl)) rfl (by decide +kernel) ⟨(Nat.le_of_ble_eq_true rfl), (Nat.le_of_ble_eq_true rfl)⟩) (vx_preS hPc hKc hDc hN) rfl rfl hl.1 rfl (lv_room (Nat.le_of_ble_eq_true rfl)) dL_law_12 ⟨(Nat.le_of_ble_eq_true rfl), (Nat.le_of_ble_eq_true rfl)⟩) hS (fun q _ h => hFc q h) hFc (fun u t H1 locs ht hvm hw hB hz1 hk1 hS => ?_)
  obtain ⟨g13, cA14, cA15, cA16, cA17, cA18, hP1, hK1, hD1⟩ := hB
  rw [ht] at hP1
  have hK1 := va_K.moved hvm.symm hK1
  have hK := hK.app hK1
  have hK : va_K (dC, dI) vwCl [(cA4, .byte), (cA7, .int), (cA8, .int), (cA9, .int), (cA14, .byte), (cA15, .int), (cA16, .int), (cA17, .int), (cA18, .boolean)] s := hK
  obtain ⟨hP, hD⟩ := va_join (wr := [(q1, .inr (11, fsX g3)), ((g3 0), .inl (cA4, 1200, .inl (fun _ => 0))), ((g3 5), .inr (5, [.ref (g5 0), .ref (g5 1), .ref (g5 2), .ref (g5 3), .ref (g5 4), .int 0, .ref (g5 6), .ref (g5 7), .ref (g5 8), .int 0, .int 0, .int 0, .int 0, .int 0, .int 0, .ref (g5 15), .ref (g5 16), .int 0, .int 0])), ((g5 0), .inr (9, [.ref (g6 0), .ref (g6 1), .ref (g6 2), .int 0, .int 0, .int 0, .int 0])), ((g6 0), .inl (cA7, 1201, .inl (fun _ => 0))), ((g6 1), .inl (cA8, 1201, .inl (fun _ => 0))), ((g6 2), .inl (cA9, 1201, .inl (fun _ => 0))), ((g3 8), .inr (7, [.ref (g3 4), .int 0, .int 0, .int 0, .ref (g10 4), .ref (g10 5), .ref (g10 6), .ref (g10 7), .ref (g10 8), .ref (g10 9), .int 0, .int 0, .int 0, .int 0, .null, .int 0, .int 0]))]) (w1 := [(q11, .inr (12, fsM g13)), ((g13 1), .inl (cA14, 1200, .inl (fun _ => 0))), ((g13 35), .inl (cA15, 6, .inl (fun _ => 0))), ((g13 36), .inl (cA16, 6, .inl (fun _ => 0))), ((g13 37), .inl (cA17, 6, .inl (fun _ => 0))), ((g13 48), .inl (cA18, 6, .inl (fun _ => 0)))]) hP hD [8] [0, 1, 2, 3, 4, 5, 6, 7] rfl rfl (by decide) (by decide) hk1 hFc hP1 hD1
  generalize H1 = H at hP hS ⊢
  have hP : va_P (dC, dI) vwCl [(q1, .inr (11, fsX g3)), ((g3 0), .inl (cA4, 1200, .inl (fun _ => 0))), ((g3 5), .inr (5, [.ref (g5 0), .ref (g5 1), .ref (g5 2), .ref (g5 3), .ref (g5 4), .int 0, .ref (g5 6), .ref (g5 7), .ref (g5 8), .int 0, .int 0, .int 0, .int 0, .int 0, .int 0, .ref (g5 15), .ref (g5 16), .int 0, .int 0])), ((g5 0), .inr (9, [.ref (g6 0), .ref (g6 1), .ref (g6 2), .int 0, .int 0, .int 0, .int 0])), ((g6 0), .inl (cA7, 1201, .inl (fun _ => 0))), ((g6 1), .inl (cA8, 1201, .inl (fun _ => 0))), ((g6 2), .inl (cA9, 1201, .inl (fun _ => 0))), ((g3 8), .inr (7, [.ref (g3 4), .int 0, .int 0, .int 0, .ref (g10 4), .ref (g10 5), .ref (g10 6), .ref (g10 7), .ref (g10 8), .ref (g10 9), .int 0, .int 0, .int 0, .int 0, .null, .int 0, .int 0])), (q11, .inr (12, fsM g13)), ((g13 1), .inl (cA14, 1200, .inl (fun _ => 0))), ((g13 35), .inl (cA15, 6, .inl (fun _ => 0))), ((g13 36), .inl (cA16, 6, .inl (fun _ => 0))), ((g13 37), .inl (cA17, 6, .inl (fun _ => 0))), ((g13 48), .inl (cA18, 6, .inl (fun _ => 0)))] H := hP
  have hD : va_D A [(q1, .inr (11, fsX g3)), ((g3 0), .inl (cA4, 1200, .inl (fun _ => 0))), ((g3 5), .inr (5, [.ref (g5 0), .ref (g5 1), .ref (g5 2), .ref (g5 3), .ref (g5 4), .int 0, .ref (g5 6), .ref (g5 7), .ref (g5 8), .int 0, .int 0, .int 0, .int 0, .int 0, .int 0, .ref (g5 15), .ref (g5 16), .int 0, .int 0])), ((g5 0), .inr (9, [.ref (g6 0), .ref (g6 1), .ref (g6 2), .int 0, .int 0, .int 0, .int 0])), ((g6 0), .inl (cA7, 1201, .inl (fun _ => 0))), ((g6 1), .inl (cA8, 1201, .inl (fun _ => 0))), ((g6 2), .inl (cA9, 1201, .inl (fun _ => 0))), ((g3 8), .inr (7, [.ref (g3 4), .int 0, .int 0, .int 0, .ref (g10 4), .ref (g10 5), .ref (g10 6), .ref (g10 7), .ref (g10 8), .ref (g10 9), .int 0, .int 0, .int 0, .int 0, .null, .int 0, .int 0])), (q11, .inr (12, fsM g13)), ((g13 1), .inl (cA14, 1200, .inl (fun _ => 0))), ((g13 35), .inl (cA15, 6, .inl (fun _ => 0))), ((g13 36), .inl (cA16, 6, .inl (fun _ => 0))), ((g13 37), .inl (cA17, 6, .inl (fun _ => 0))), ((g13 48), .inl (cA18, 6, .inl (fun _ => 0)))] := hD
  refine W.widen (k := 257) (n := 1146073) (by decide) (by decide) ?_
  refine lv_astore_n (lv' := [(2, .ref q11), (1, .ref q1), (0, .ref b)]) hx hb dL_law_15 rfl hl (by decide) rfl (fun ls hl => ?_)
  refine lv_iconst (v := 0) hx hb dL_law_16 (by decide) ?_
  refine lv_istore_n (lv' := [(3, .int 0), (2, .ref q11), (1, .ref q1), (0, .ref b)]) hx hb dL_law_17 rfl hl (by decide) rfl (fun ls hl => ?_)
  rcases Nat.lt_or_ge L 7 with hL7 | hL7
  · refine lv_iload_n hx hb dL_law_18 rfl (lv_at hl 0 rfl) ?_
    refine lv_aload_n hx hb dL_law_19 rfl (lv_at hl 3 rfl) ?_
    refine va_slen hx hb hX hbl hbA hS dL_law_20 ?_
    refine lv_bipush (v := 7) hx hb dL_law_21 (by decide) ?_
    refine lv_isub hx hb dL_law_23 ?_
    refine lv_topi (fun x19 ex19 => ?_)
    refine lv_icmp_gt (tgt := 802) hx hb dL_law_24 (by decide) (fun c20 => ?_) (fun c20 => absurd (by rw [ex19]; exact pk_sneg (b := 7) (by decide) hL7) c20)
    refine lv_iconst (v := 1) hx hb dL_law_802 (by decide) ?_
    refine va_forget (fun q hq => by have h9 := hS.2.2 q hq; rw [hAe] at h9; exact h9) ?_
    refine W.widen (k := 589393) (n := 7334070) (Nat.le_of_ble_eq_true rfl) (Nat.le_of_ble_eq_true rfl) ?_
    exact lw_ret hx hb hr hlocks dL_law_803
  · obtain rfl : L = 7 := by omega
    refine lv_iload_n hx hb dL_law_18 rfl (lv_at hl 0 rfl) ?_
    refine lv_aload_n hx hb dL_law_19 rfl (lv_at hl 3 rfl) ?_
    refine va_slen hx hb hX hbl hbA hS dL_law_20 ?_
    refine vx_topc (v := 7) rfl ?_
    refine lv_bipush (v := 7) hx hb dL_law_21 (by decide) ?_
    refine lv_isub hx hb dL_law_23 ?_
    refine vx_topc (v := 0) (by decide) ?_
    refine lv_icmp_gt (tgt := 802) hx hb dL_law_24 (by decide) (fun h => absurd h (by decide)) (fun _ => ?_)
    refine lv_aload_n hx hb dL_law_27 rfl (lv_at hl 3 rfl) ?_
    refine lv_iload_n hx hb dL_law_28 rfl (lv_at hl 0 rfl) ?_
    refine va_sld hx hb hX hbl hbA hS (vx_in (by decide)) dL_law_29 ?_
    refine lv_bipush (v := 31) hx hb dL_law_30 (by decide) ?_
    refine lv_iand hx hb dL_law_32 ?_
    obtain ⟨j, hj, ej⟩ := pk_andE (xs (0 : Int32).toNatClampNeg) (m := 31) 5 (by decide)
    refine vx_topc (v := nI j) ej ?_
    rcases vx_18 hj with rfl | rfl | rfl | rfl | rfl | rfl | rfl | rfl | rfl | rfl | rfl | rfl | rfl | rfl | rfl | rfl | rfl | rfl | hj2
    · refine lv_tableIn (x := nI 0) (off := 87) (tgt := 120) hx hb dL_law_33 (by decide) (by decide) rfl (by decide) ?_
      exact law_0 C0 hAe hN hK hP hD hS ls hl
    · refine lv_tableIn (x := nI 1) (off := 150) (tgt := 183) hx hb dL_law_33 (by decide) (by decide) rfl (by decide) ?_
      exact law_1 C0 hAe hN hK hP hD hS ls hl
    · refine lv_tableIn (x := nI 2) (off := 173) (tgt := 206) hx hb dL_law_33 (by decide) (by decide) rfl (by decide) ?_
      exact law_2 C0 hAe hN hK hP hD hS ls hl
    · refine lv_tableIn (x := nI 3) (off := 186) (tgt := 219) hx hb dL_law_33 (by decide) (by decide) rfl (by decide) ?_
      exact law_3 C0 hAe hN hK hP hD hS ls hl
    · refine lv_tableIn (x := nI 4) (off := 209) (tgt := 242) hx hb dL_law_33 (by decide) (by decide) rfl (by decide) ?_
      exact law_4 C0 hAe hN hK hP hD hS ls hl
    · refine lv_tableIn (x := nI 5) (off := 242) (tgt := 275) hx hb dL_law_33 (by decide) (by decide) rfl (by decide) ?_
      exact law_5 C0 hAe hN hK hP hD hS ls hl
    · refine lv_tableIn (x := nI 6) (off := 285) (tgt := 318) hx hb dL_law_33 (by decide) (by decide) rfl (by decide) ?_
      exact law_6 C0 hAe hN hK hP hD hS ls hl
    · refine lv_tableIn (x := nI 7) (off := 328) (tgt := 361) hx hb dL_law_33 (by decide) (by decide) rfl (by decide) ?_
      exact law_7 C0 hAe hN hK hP hD hS ls hl
    · refine lv_tableIn (x := nI 8) (off := 391) (tgt := 424) hx hb dL_law_33 (by decide) (by decide) rfl (by decide) ?_
      exact law_8 C0 hAe hN hK hP hD hS ls hl
    · refine lv_tableIn (x := nI 9) (off := 424) (tgt := 457) hx hb dL_law_33 (by decide) (by decide) rfl (by decide) ?_
      exact law_9 C0 hAe hN hK hP hD hS ls hl
    · refine lv_tableIn (x := nI 10) (off := 487) (tgt := 520) hx hb dL_law_33 (by decide) (by decide) rfl (by decide) ?_
      exact law_10 C0 hAe hN hK hP hD hS ls hl
    · refine lv_tableIn (x := nI 11) (off := 520) (tgt := 553) hx hb dL_law_33 (by decide) (by decide) rfl (by decide) ?_
      exact law_11 C0 hAe hN hK hP hD hS ls hl
    · refine lv_tableIn (x := nI 12) (off := 553) (tgt := 586) hx hb dL_law_33 (by decide) (by decide) rfl (by decide) ?_
      exact law_12 C0 hAe hN hK hP hD hS ls hl
    · refine lv_tableIn (x := nI 13) (off := 586) (tgt := 619) hx hb dL_law_33 (by decide) (by decide) rfl (by decide) ?_
      exact law_13 C0 hAe hN hK hP hD hS ls hl
    · refine lv_tableIn (x := nI 14) (off := 619) (tgt := 652) hx hb dL_law_33 (by decide) (by decide) rfl (by decide) ?_
      exact law_14 C0 hAe hN hK hP hD hS ls hl
    · refine lv_tableIn (x := nI 15) (off := 642) (tgt := 675) hx hb dL_law_33 (by decide) (by decide) rfl (by decide) ?_
      exact law_15 C0 hAe hN hK hP hD hS ls hl
    · refine lv_tableIn (x := nI 16) (off := 665) (tgt := 698) hx hb dL_law_33 (by decide) (by decide) rfl (by decide) ?_
      exact law_16 C0 hAe hN hK hP hD hS ls hl
    · refine lv_tableIn (x := nI 17) (off := 740) (tgt := 773) hx hb dL_law_33 (by decide) (by decide) rfl (by decide) ?_
      exact law_17 C0 hAe hN hK hP hD hS ls hl
    · refine lv_tableOut (x := nI j) (tgt := 796) hx hb dL_law_33 (Or.inr (by rw [nI_toInt (by omega)]; omega)) (by decide) ?_
      exact law_tail C0 hAe (Nat.le_of_ble_eq_true rfl) (Nat.le_of_ble_eq_true rfl) hS ls (lv_sub hl [0, 3] rfl)
