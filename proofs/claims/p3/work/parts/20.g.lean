theorem dX1_slotOf_7 : decode cX1_slotOf 7 = .ok (.iload 4, 2) := by decide +kernel
theorem dX1_slotOf_9 : decode cX1_slotOf 9 = .ok (.iload_n 1, 1) := by decide +kernel
theorem dX1_slotOf_10 : decode cX1_slotOf 10 = .ok (.if_icmp .ge 29, 3) := by decide +kernel
theorem dX1_slotOf_13 : decode cX1_slotOf 13 = .ok (.iload 4, 2) := by decide +kernel
theorem dX1_slotOf_15 : decode cX1_slotOf 15 = .ok (.aload_n 0, 1) := by decide +kernel
theorem dX1_slotOf_16 : decode cX1_slotOf 16 = .ok (.getfield 24, 3) := by decide +kernel
theorem dX1_slotOf_19 : decode cX1_slotOf 19 = .ok (.arraylength, 1) := by decide +kernel
theorem dX1_slotOf_20 : decode cX1_slotOf 20 = .ok (.if_icmp .ge 19, 3) := by decide +kernel
theorem dX1_slotOf_23 : decode cX1_slotOf 23 = .ok (.iload_n 3, 1) := by decide +kernel
theorem dX1_slotOf_24 : decode cX1_slotOf 24 = .ok (.aload_n 0, 1) := by decide +kernel
theorem dX1_slotOf_25 : decode cX1_slotOf 25 = .ok (.getfield 24, 3) := by decide +kernel
theorem dX1_slotOf_28 : decode cX1_slotOf 28 = .ok (.iload 4, 2) := by decide +kernel
theorem dX1_slotOf_30 : decode cX1_slotOf 30 = .ok (.iaload, 1) := by decide +kernel
theorem dX1_slotOf_31 : decode cX1_slotOf 31 = .ok (.iadd, 1) := by decide +kernel
theorem dX1_slotOf_32 : decode cX1_slotOf 32 = .ok (.istore_n 3, 1) := by decide +kernel
theorem dX1_slotOf_33 : decode cX1_slotOf 33 = .ok (.iinc 4 1, 3) := by decide +kernel
theorem dX1_slotOf_36 : decode cX1_slotOf 36 = .ok (.goto (-29), 3) := by decide +kernel
set_option maxHeartbeats 4000000 in
set_option maxRecDepth 20000 in
theorem l_slotOf (d : Nat) {T : CT} {σ : MS} {a : Nat} {f : Int} {m : Int} {post : Option Value → MS → Prop} (h_a : OB T a 1) (r_f : -2147483648 ≤ f ∧ f ≤ 2147483647) (r_m : -2147483648 ≤ m ∧ m ≤ 2147483647) (hw : WT T σ) (hm : -2147483000 ≤ m ∧ m ≤ 2147483000) (hx_39 : ∀ (s3 : Int) (i : Int) , (-2147483648 ≤ s3 ∧ s3 ≤ 2147483647) → (-2147483648 ≤ i ∧ i ≤ 2147483647) → (1 + m ≤ s3 ∧ s3 ≤ 145 + m) → Tn (d + 1) m_X1_slotOf 39 T σ [(4, .int (iI i)), (3, .int (iI s3)), (0, .ref a), (1, .int (iI f)), (2, .int (iI m))] [] post) : ∀ (n : Nat) (s3 : Int) (i : Int) , (-2147483648 ≤ s3 ∧ s3 ≤ 2147483647) → (-2147483648 ≤ i ∧ i ≤ 2147483647) → (0 ≤ i ∧ i ≤ 12 ∧ 1 + m ≤ s3 ∧ s3 ≤ 1 + m + 12 * i) → (13 - i).toNat = n → Tn (d + 1) m_X1_slotOf 7 T σ [(4, .int (iI i)), (3, .int (iI s3)), (0, .ref a), (1, .int (iI f)), (2, .int (iI m))] [] post := by
  intro n
  induction n using Nat.strongRecOn with
  | _ n ih =>
    intro s3 i r_s3 r_i h0 hm
    refine tn_iload dX1_slotOf_7 0 rfl ?_
    refine tn_iload_n dX1_slotOf_9 rfl 3 rfl ?_
    refine tn_icmp_ge (tgt := 39) dX1_slotOf_10 (by decide) ⟨by omega, by omega⟩ ⟨by omega, by omega⟩ (fun h1 => ?_) (fun h1 => ?_)
    · exact tn_sub [0, 1, 2, 3, 4] rfl (hx_39 (s3) (i) (by omega) (by omega) (by omega))
    · refine tn_iload dX1_slotOf_13 0 rfl ?_
      refine tn_aload_n dX1_slotOf_15 rfl 2 rfl ?_
      obtain ⟨x2, hx3, hk4⟩ : ∃ x : Nat, σ.2.1 14 a = (x : Int) ∧ (AR T x 11 12 12) := wf_14 hw h_a
      have hk4l := hk4.2
      have hk4i : IA T x2 := Or.inr hk4.1
      refine tn_getR (ci := 1) (i := 9) (n := 14) (x := x2) dX1_slotOf_16 rfl lay_1 (by decide) fl1_24 h_a rfl rfl (hx3) ?_
      refine tn_alenX dX1_slotOf_19 (Or.inl hk4i) ?_
      refine tn_icmp_ge (tgt := 39) dX1_slotOf_20 (by decide) ⟨by omega, by omega⟩ ⟨by omega, by omega⟩ (fun h5 => ?_) (fun h5 => ?_)
      · exact tn_sub [0, 1, 2, 3, 4] rfl (hx_39 (s3) (i) (by omega) (by omega) (by omega))
      · refine tn_iload_n dX1_slotOf_23 rfl 1 rfl ?_
        refine tn_aload_n dX1_slotOf_24 rfl 2 rfl ?_
        refine tn_getR (ci := 1) (i := 9) (n := 14) (x := x2) dX1_slotOf_25 rfl lay_1 (by decide) fl1_24 h_a rfl rfl (hx3) ?_
        refine tn_iload dX1_slotOf_28 0 rfl ?_
        refine tn_ialdX (z := i) hw dX1_slotOf_30 hk4i (by omega) (by omega) (by omega) (fun v6 g7 g7k => ?_)
        have g7n := g7k hk4.1
        clear g7k
        refine tn_iadd dX1_slotOf_31 ?_
        refine tn_istore_n (L' := [(3, .int (iI (s3 + v6))), (4, .int (iI i)), (0, .ref a), (1, .int (iI f)), (2, .int (iI m))]) dX1_slotOf_32 rfl (by decide) rfl ?_
        refine tn_iinc (q0 := 1) (L' := [(4, .int (iI (i + 1))), (3, .int (iI (s3 + v6))), (0, .ref a), (1, .int (iI f)), (2, .int (iI m))]) dX1_slotOf_33 rfl (by decide) rfl ?_
        refine tn_goto (tgt := 7) dX1_slotOf_36 (by decide) ?_
        exact tn_sub [0, 1, 2, 3, 4] rfl (ih _ (by omega) (s3 + v6) (i + 1) (by omega) (by omega) (by omega) rfl)
theorem cd_X1_slotOf : Cond.code yX1_slotOf cX1_slotOf 5 (some .int) ∈ pWW := pw4 (List.mem_of_getElem? (i := 112) rfl) rfl
abbrev m_X1_slotOf : MT := (yX1_slotOf, cX1_slotOf, 5, (some .int))
theorem ok_X1_slotOf : pOk m_X1_slotOf := ⟨⟨cd_X1_slotOf, ini_1⟩, by decide +kernel, ⟨by decide +kernel, by decide +kernel⟩, Nat.le_of_ble_eq_true rfl⟩
theorem np_X1_slotOf : (parseMethodDescriptor yX1_slotOf.desc).map (fun d => d.parameters.length) = some 2 := by decide +kernel
theorem im_X1_slotOf : Cond.instanceMethod yX1_slotOf ∈ pWW := pw4 (List.mem_of_getElem? (i := 110) rfl) rfl
theorem se_X1_slotOf : Cond.selects RX1 yX1_slotOf yX1_slotOf ∈ pWW := pw4 (List.mem_of_getElem? (i := 111) rfl) rfl
theorem dX1_slotOf_0 : decode cX1_slotOf 0 = .ok (.iconst 1, 1) := by decide +kernel
theorem dX1_slotOf_1 : decode cX1_slotOf 1 = .ok (.iload_n 2, 1) := by decide +kernel
theorem dX1_slotOf_2 : decode cX1_slotOf 2 = .ok (.iadd, 1) := by decide +kernel
theorem dX1_slotOf_3 : decode cX1_slotOf 3 = .ok (.istore_n 3, 1) := by decide +kernel
theorem dX1_slotOf_4 : decode cX1_slotOf 4 = .ok (.iconst 0, 1) := by decide +kernel
theorem dX1_slotOf_5 : decode cX1_slotOf 5 = .ok (.istore 4, 2) := by decide +kernel
theorem dX1_slotOf_39 : decode cX1_slotOf 39 = .ok (.iload_n 3, 1) := by decide +kernel
theorem dX1_slotOf_40 : decode cX1_slotOf 40 = .ok (.ireturn, 1) := by decide +kernel
set_option maxHeartbeats 4000000 in
set_option maxRecDepth 20000 in
theorem k_X1_slotOf (d : Nat) {T : CT} {σ : MS} {a : Nat} {f : Int} {m : Int} (ha : OB T a 1) (h_f : -2147483648 ≤ f ∧ f ≤ 2147483647) (h_m : -2147483648 ≤ m ∧ m ≤ 2147483647) (hw : WT T σ) (hm : -2147483000 ≤ m ∧ m ≤ 2147483000) : Tn (d + 1) m_X1_slotOf 0 T σ [(0, .ref a), (1, .int (iI f)), (2, .int (iI m))] [] (fun ro σ2 => ∃ v : Int, ro = some (.int (iI v)) ∧ σ = σ2 ∧ (-2147483648 ≤ v ∧ v ≤ 2147483647) ∧ (1 + m ≤ v ∧ v ≤ 145 + m)) := by
  refine tn_iconst dX1_slotOf_0 ?_
  refine tn_iload_n dX1_slotOf_1 rfl 2 rfl ?_
  refine tn_iadd dX1_slotOf_2 ?_
  refine tn_istore_n (L' := [(3, .int (iI (1 + m))), (0, .ref a), (1, .int (iI f)), (2, .int (iI m))]) dX1_slotOf_3 rfl (by decide) rfl ?_
  refine tn_iconst dX1_slotOf_4 ?_
  refine tn_istore (L' := [(4, .int (iI 0)), (3, .int (iI (1 + m))), (0, .ref a), (1, .int (iI f)), (2, .int (iI m))]) dX1_slotOf_5 (by decide) rfl ?_
  refine tn_sub [0, 1, 2, 3, 4] rfl (l_slotOf (d) (σ := σ) (a := a) (f := f) (m := m) ha (by omega) (by omega) hw (by omega) (fun s31 i2 r6 r7 f8 => ?_) _ (1 + m) (0) (by omega) (by decide) (by omega) rfl)
  show Tn _ _ 39 T σ [(4, .int (iI i2)), (3, .int (iI s31)), (0, .ref a), (1, .int (iI f)), (2, .int (iI m))] [] _
  refine tn_iload_n dX1_slotOf_39 rfl 1 rfl ?_
  exact tn_iret rfl dX1_slotOf_40 ⟨_, rfl, rfl, by omega, f8⟩
theorem nl1_107 : (RX1, 107, yX11_isAct, "LineKeeper") ∈ nst_M := List.mem_of_getElem? (i := 13) rfl
theorem dX1_acts_4 : decode cX1_acts 4 = .ok (.iload_n 2, 1) := by decide +kernel
theorem dX1_acts_5 : decode cX1_acts 5 = .ok (.aload_n 0, 1) := by decide +kernel
theorem dX1_acts_6 : decode cX1_acts 6 = .ok (.getfield 33, 3) := by decide +kernel
theorem dX1_acts_9 : decode cX1_acts 9 = .ok (.if_icmp .ge 24, 3) := by decide +kernel
theorem dX1_acts_12 : decode cX1_acts 12 = .ok (.aload_n 0, 1) := by decide +kernel
theorem dX1_acts_13 : decode cX1_acts 13 = .ok (.iload_n 2, 1) := by decide +kernel
theorem dX1_acts_14 : decode cX1_acts 14 = .ok (.iconst 0, 1) := by decide +kernel
theorem dX1_acts_15 : decode cX1_acts 15 = .ok (.invokevirtual 86, 3) := by decide +kernel
theorem dX1_acts_18 : decode cX1_acts 18 = .ok (.invokestatic 107, 3) := by decide +kernel
theorem dX1_acts_21 : decode cX1_acts 21 = .ok (.ifCond .eq 6, 3) := by decide +kernel
theorem dX1_acts_27 : decode cX1_acts 27 = .ok (.iinc 2 1, 3) := by decide +kernel
theorem dX1_acts_30 : decode cX1_acts 30 = .ok (.goto (-26), 3) := by decide +kernel
theorem dX1_acts_24 : decode cX1_acts 24 = .ok (.iinc 1 1, 3) := by decide +kernel
set_option maxHeartbeats 4000000 in
set_option maxRecDepth 20000 in
theorem l_acts (d : Nat) {T : CT} {σ : MS} {a : Nat} {post : Option Value → MS → Prop} (h_a : OB T a 1) (hw : WT T σ) (hx_33 : ∀ (n1 : Int) (k : Int) , (-2147483648 ≤ n1 ∧ n1 ≤ 2147483647) → (-2147483648 ≤ k ∧ k ≤ 2147483647) → Tn (d + 3) m_X1_acts 33 T σ [(2, .int (iI k)), (1, .int (iI n1)), (0, .ref a)] [] post) : ∀ (n : Nat) (n1 : Int) (k : Int) , (-2147483648 ≤ n1 ∧ n1 ≤ 2147483647) → (-2147483648 ≤ k ∧ k ≤ 2147483647) → (0 ≤ k ∧ k ≤ 5000 ∧ 0 ≤ n1 ∧ n1 ≤ k) → (5001 - k).toNat = n → Tn (d + 3) m_X1_acts 4 T σ [(2, .int (iI k)), (1, .int (iI n1)), (0, .ref a)] [] post := by
  intro n
  induction n using Nat.strongRecOn with
  | _ n ih =>
    intro n1 k r_n1 r_k h0 hm
    refine tn_iload_n dX1_acts_4 rfl 0 rfl ?_
    refine tn_aload_n dX1_acts_5 rfl 2 rfl ?_
    refine tn_getI (ci := 1) (i := 1) (n := 6) (t := σ.2.1 6 a) dX1_acts_6 rfl lay_1 (by decide) fl1_33 h_a rfl rfl (rfl) ?_
    have g1 : 0 ≤ σ.2.1 6 a ∧ σ.2.1 6 a ≤ 5000 := wf_6 hw h_a
    refine tn_icmp_ge (tgt := 33) dX1_acts_9 (by decide) ⟨by omega, by omega⟩ ⟨by omega, by omega⟩ (fun h2 => ?_) (fun h2 => ?_)
    · exact tn_sub [0, 1, 2] rfl (hx_33 (n1) (k) (by omega) (by omega))
    · refine tn_aload_n dX1_acts_12 rfl 2 rfl ?_
      refine tn_iload_n dX1_acts_13 rfl 0 rfl ?_
      refine tn_iconst dX1_acts_14 ?_
      refine tn_callV (M := m_X1_acts) (pc := 15) (ix := 86) (ci := 1) (M' := m_X1_get) (As := [.int (iI k), .int (iI 0)]) (rest := []) dX1_acts_15 ok_X1_get im_X1_get se_X1_get ml1_86 np_X1_get rfl rfl h_a rfl (Nat.le_of_ble_eq_true rfl) (Nat.le_of_ble_eq_true rfl) rfl (k_X1_get (d + 1) (T := T) (σ := σ) (a := a) (k := k) (c := 0) h_a (by omega) (by decide) hw ) (fun r3 σ4 hp => ?_)
      obtain ⟨v6, rfl, rfl, f5⟩ := hp
      show Tn _ _ 18 T σ [(2, .int (iI k)), (1, .int (iI n1)), (0, .ref a)] [.int (iI v6)] _
      refine tn_callSN (M := m_X1_acts) (pc := 18) (ix := 107) (M' := m_X11_isAct) (As := [.int (iI v6)]) (rest := []) dX1_acts_18 ok_X11_isAct stt_X11_isAct nl1_107 np_X11_isAct rfl (Nat.le_of_ble_eq_true rfl) (Nat.le_of_ble_eq_true rfl) rfl (k_X11_isAct (d + 1) (T := T) (σ := σ) (k := v6) (by omega) hw ) (fun r7 σ8 hp => ?_)
      obtain ⟨v10, rfl, rfl, f9⟩ := hp
      show Tn _ _ 21 T σ [(2, .int (iI k)), (1, .int (iI n1)), (0, .ref a)] [.int (iI v10)] _
      refine tn_if_eq (tgt := 27) dX1_acts_21 (by decide) ⟨by omega, by omega⟩ (fun h11 => ?_) (fun h11 => ?_)
      · refine tn_iinc (q0 := 0) (L' := [(2, .int (iI (k + 1))), (1, .int (iI n1)), (0, .ref a)]) dX1_acts_27 rfl (by decide) rfl ?_
        refine tn_goto (tgt := 4) dX1_acts_30 (by decide) ?_
        exact tn_sub [0, 1, 2] rfl (ih _ (by omega) (n1) (k + 1) (by omega) (by omega) (by omega) rfl)
      · refine tn_iinc (q0 := 1) (L' := [(1, .int (iI (n1 + 1))), (2, .int (iI k)), (0, .ref a)]) dX1_acts_24 rfl (by decide) rfl ?_
        refine tn_iinc (q0 := 1) (L' := [(2, .int (iI (k + 1))), (1, .int (iI (n1 + 1))), (0, .ref a)]) dX1_acts_27 rfl (by decide) rfl ?_
        refine tn_goto (tgt := 4) dX1_acts_30 (by decide) ?_
        exact tn_sub [0, 1, 2] rfl (ih _ (by omega) (n1 + 1) (k + 1) (by omega) (by omega) (by omega) rfl)
theorem cd_X1_acts : Cond.code yX1_acts cX1_acts 3 (some .int) ∈ pWW := pw4 (List.mem_of_getElem? (i := 66) rfl) rfl
abbrev m_X1_acts : MT := (yX1_acts, cX1_acts, 3, (some .int))
theorem ok_X1_acts : pOk m_X1_acts := ⟨⟨cd_X1_acts, ini_1⟩, by decide +kernel, ⟨by decide +kernel, by decide +kernel⟩, Nat.le_of_ble_eq_true rfl⟩
theorem np_X1_acts : (parseMethodDescriptor yX1_acts.desc).map (fun d => d.parameters.length) = some 0 := by decide +kernel
theorem im_X1_acts : Cond.instanceMethod yX1_acts ∈ pWW := pw4 (List.mem_of_getElem? (i := 64) rfl) rfl
theorem se_X1_acts : Cond.selects RX1 yX1_acts yX1_acts ∈ pWW := pw4 (List.mem_of_getElem? (i := 65) rfl) rfl
theorem dX1_acts_0 : decode cX1_acts 0 = .ok (.iconst 0, 1) := by decide +kernel
theorem dX1_acts_1 : decode cX1_acts 1 = .ok (.istore_n 1, 1) := by decide +kernel
theorem dX1_acts_2 : decode cX1_acts 2 = .ok (.iconst 0, 1) := by decide +kernel
theorem dX1_acts_3 : decode cX1_acts 3 = .ok (.istore_n 2, 1) := by decide +kernel
theorem dX1_acts_33 : decode cX1_acts 33 = .ok (.iload_n 1, 1) := by decide +kernel
theorem dX1_acts_34 : decode cX1_acts 34 = .ok (.ireturn, 1) := by decide +kernel
set_option maxHeartbeats 4000000 in
set_option maxRecDepth 20000 in
theorem k_X1_acts (d : Nat) {T : CT} {σ : MS} {a : Nat} (ha : OB T a 1) (hw : WT T σ) : Tn (d + 3) m_X1_acts 0 T σ [(0, .ref a)] [] (fun ro σ2 => ∃ v : Int, ro = some (.int (iI v)) ∧ σ = σ2 ∧ (-2147483648 ≤ v ∧ v ≤ 2147483647)) := by
  refine tn_iconst dX1_acts_0 ?_
  refine tn_istore_n (L' := [(1, .int (iI 0)), (0, .ref a)]) dX1_acts_1 rfl (by decide) rfl ?_
  refine tn_iconst dX1_acts_2 ?_
  refine tn_istore_n (L' := [(2, .int (iI 0)), (1, .int (iI 0)), (0, .ref a)]) dX1_acts_3 rfl (by decide) rfl ?_
  refine tn_sub [0, 1, 2] rfl (l_acts (d) (σ := σ) (a := a) ha hw (fun n11 k2 r6 r7 => ?_) _ (0) (0) (by decide) (by decide) (by omega) rfl)
  show Tn _ _ 33 T σ [(2, .int (iI k2)), (1, .int (iI n11)), (0, .ref a)] [] _
  refine tn_iload_n dX1_acts_33 rfl 1 rfl ?_
  exact tn_iret rfl dX1_acts_34 ⟨_, rfl, rfl, by omega⟩
theorem dX1_rowOfLabel_2 : decode cX1_rowOfLabel 2 = .ok (.iload_n 2, 1) := by decide +kernel
theorem dX1_rowOfLabel_3 : decode cX1_rowOfLabel 3 = .ok (.aload_n 0, 1) := by decide +kernel
theorem dX1_rowOfLabel_4 : decode cX1_rowOfLabel 4 = .ok (.getfield 33, 3) := by decide +kernel
theorem dX1_rowOfLabel_7 : decode cX1_rowOfLabel 7 = .ok (.if_icmp .ge 32, 3) := by decide +kernel
theorem dX1_rowOfLabel_10 : decode cX1_rowOfLabel 10 = .ok (.aload_n 0, 1) := by decide +kernel
theorem dX1_rowOfLabel_11 : decode cX1_rowOfLabel 11 = .ok (.iload_n 2, 1) := by decide +kernel
theorem dX1_rowOfLabel_12 : decode cX1_rowOfLabel 12 = .ok (.iconst 0, 1) := by decide +kernel
theorem dX1_rowOfLabel_13 : decode cX1_rowOfLabel 13 = .ok (.invokevirtual 86, 3) := by decide +kernel
theorem dX1_rowOfLabel_16 : decode cX1_rowOfLabel 16 = .ok (.bipush 13, 2) := by decide +kernel
theorem dX1_rowOfLabel_18 : decode cX1_rowOfLabel 18 = .ok (.if_icmp .ne 15, 3) := by decide +kernel
theorem dX1_rowOfLabel_33 : decode cX1_rowOfLabel 33 = .ok (.iinc 2 1, 3) := by decide +kernel
theorem dX1_rowOfLabel_36 : decode cX1_rowOfLabel 36 = .ok (.goto (-34), 3) := by decide +kernel
theorem dX1_rowOfLabel_21 : decode cX1_rowOfLabel 21 = .ok (.aload_n 0, 1) := by decide +kernel
theorem dX1_rowOfLabel_22 : decode cX1_rowOfLabel 22 = .ok (.iload_n 2, 1) := by decide +kernel
theorem dX1_rowOfLabel_23 : decode cX1_rowOfLabel 23 = .ok (.iconst 1, 1) := by decide +kernel
theorem dX1_rowOfLabel_24 : decode cX1_rowOfLabel 24 = .ok (.invokevirtual 86, 3) := by decide +kernel
theorem dX1_rowOfLabel_27 : decode cX1_rowOfLabel 27 = .ok (.iload_n 1, 1) := by decide +kernel
theorem dX1_rowOfLabel_28 : decode cX1_rowOfLabel 28 = .ok (.if_icmp .ne 5, 3) := by decide +kernel
theorem dX1_rowOfLabel_31 : decode cX1_rowOfLabel 31 = .ok (.iload_n 2, 1) := by decide +kernel
theorem dX1_rowOfLabel_32 : decode cX1_rowOfLabel 32 = .ok (.ireturn, 1) := by decide +kernel
set_option maxHeartbeats 4000000 in
set_option maxRecDepth 20000 in
theorem l_rowOfLabel (d : Nat) {T : CT} {σ : MS} {a : Nat} {l : Int} {post : Option Value → MS → Prop} (h_a : OB T a 1) (r_l : -2147483648 ≤ l ∧ l ≤ 2147483647) (hw : WT T σ) (hx_39 : ∀ (k : Int) , (-2147483648 ≤ k ∧ k ≤ 2147483647) → Tn (d + 3) m_X1_rowOfLabel 39 T σ [(2, .int (iI k)), (0, .ref a), (1, .int (iI l))] [] post) (hr1 : ∀ v, -2147483648 ≤ v ∧ v ≤ 2147483647 → post (some (.int (iI v))) σ) : ∀ (n : Nat) (k : Int) , (-2147483648 ≤ k ∧ k ≤ 2147483647) → (0 ≤ k ∧ k ≤ 5000) → (5001 - k).toNat = n → Tn (d + 3) m_X1_rowOfLabel 2 T σ [(2, .int (iI k)), (0, .ref a), (1, .int (iI l))] [] post := by
  intro n
  induction n using Nat.strongRecOn with
  | _ n ih =>
    intro k r_k h0 hm
    refine tn_iload_n dX1_rowOfLabel_2 rfl 0 rfl ?_
    refine tn_aload_n dX1_rowOfLabel_3 rfl 1 rfl ?_
    refine tn_getI (ci := 1) (i := 1) (n := 6) (t := σ.2.1 6 a) dX1_rowOfLabel_4 rfl lay_1 (by decide) fl1_33 h_a rfl rfl (rfl) ?_
    have g1 : 0 ≤ σ.2.1 6 a ∧ σ.2.1 6 a ≤ 5000 := wf_6 hw h_a
    refine tn_icmp_ge (tgt := 39) dX1_rowOfLabel_7 (by decide) ⟨by omega, by omega⟩ ⟨by omega, by omega⟩ (fun h2 => ?_) (fun h2 => ?_)
    · exact tn_sub [0, 1, 2] rfl (hx_39 (k) (by omega))
    · refine tn_aload_n dX1_rowOfLabel_10 rfl 1 rfl ?_
      refine tn_iload_n dX1_rowOfLabel_11 rfl 0 rfl ?_
      refine tn_iconst dX1_rowOfLabel_12 ?_
      refine tn_callV (M := m_X1_rowOfLabel) (pc := 13) (ix := 86) (ci := 1) (M' := m_X1_get) (As := [.int (iI k), .int (iI 0)]) (rest := []) dX1_rowOfLabel_13 ok_X1_get im_X1_get se_X1_get ml1_86 np_X1_get rfl rfl h_a rfl (Nat.le_of_ble_eq_true rfl) (Nat.le_of_ble_eq_true rfl) rfl (k_X1_get (d + 1) (T := T) (σ := σ) (a := a) (k := k) (c := 0) h_a (by omega) (by decide) hw ) (fun r3 σ4 hp => ?_)
      obtain ⟨v6, rfl, rfl, f5⟩ := hp
      show Tn _ _ 16 T σ [(2, .int (iI k)), (0, .ref a), (1, .int (iI l))] [.int (iI v6)] _
      refine tn_bipush dX1_rowOfLabel_16 (by decide) ?_
      refine tn_icmp_ne (tgt := 33) dX1_rowOfLabel_18 (by decide) ⟨by omega, by omega⟩ ⟨by decide, by decide⟩ (fun h7 => ?_) (fun h7 => ?_)
      · refine tn_iinc (q0 := 0) (L' := [(2, .int (iI (k + 1))), (0, .ref a), (1, .int (iI l))]) dX1_rowOfLabel_33 rfl (by decide) rfl ?_
        refine tn_goto (tgt := 2) dX1_rowOfLabel_36 (by decide) ?_
        exact tn_sub [0, 1, 2] rfl (ih _ (by omega) (k + 1) (by omega) (by omega) rfl)
      · refine tn_aload_n dX1_rowOfLabel_21 rfl 1 rfl ?_
        refine tn_iload_n dX1_rowOfLabel_22 rfl 0 rfl ?_
        refine tn_iconst dX1_rowOfLabel_23 ?_
        refine tn_callV (M := m_X1_rowOfLabel) (pc := 24) (ix := 86) (ci := 1) (M' := m_X1_get) (As := [.int (iI k), .int (iI 1)]) (rest := []) dX1_rowOfLabel_24 ok_X1_get im_X1_get se_X1_get ml1_86 np_X1_get rfl rfl h_a rfl (Nat.le_of_ble_eq_true rfl) (Nat.le_of_ble_eq_true rfl) rfl (k_X1_get (d + 1) (T := T) (σ := σ) (a := a) (k := k) (c := 1) h_a (by omega) (by decide) hw ) (fun r8 σ9 hp => ?_)
        obtain ⟨v11, rfl, rfl, f10⟩ := hp
        show Tn _ _ 27 T σ [(2, .int (iI k)), (0, .ref a), (1, .int (iI l))] [.int (iI v11)] _
        refine tn_iload_n dX1_rowOfLabel_27 rfl 2 rfl ?_
        refine tn_icmp_ne (tgt := 33) dX1_rowOfLabel_28 (by decide) ⟨by omega, by omega⟩ ⟨by omega, by omega⟩ (fun h12 => ?_) (fun h12 => ?_)
        · refine tn_iinc (q0 := 0) (L' := [(2, .int (iI (k + 1))), (0, .ref a), (1, .int (iI l))]) dX1_rowOfLabel_33 rfl (by decide) rfl ?_
          refine tn_goto (tgt := 2) dX1_rowOfLabel_36 (by decide) ?_
          exact tn_sub [0, 1, 2] rfl (ih _ (by omega) (k + 1) (by omega) (by omega) rfl)
        · refine tn_iload_n dX1_rowOfLabel_31 rfl 0 rfl ?_
          exact tn_iret rfl dX1_rowOfLabel_32 (hr1 _ (by omega))
theorem cd_X1_rowOfLabel : Cond.code yX1_rowOfLabel cX1_rowOfLabel 3 (some .int) ∈ pWW := pw4 (List.mem_of_getElem? (i := 31) rfl) rfl
abbrev m_X1_rowOfLabel : MT := (yX1_rowOfLabel, cX1_rowOfLabel, 3, (some .int))
theorem ok_X1_rowOfLabel : pOk m_X1_rowOfLabel := ⟨⟨cd_X1_rowOfLabel, ini_1⟩, by decide +kernel, ⟨by decide +kernel, by decide +kernel⟩, Nat.le_of_ble_eq_true rfl⟩
theorem np_X1_rowOfLabel : (parseMethodDescriptor yX1_rowOfLabel.desc).map (fun d => d.parameters.length) = some 1 := by decide +kernel
theorem im_X1_rowOfLabel : Cond.instanceMethod yX1_rowOfLabel ∈ pWW := pw4 (List.mem_of_getElem? (i := 30) rfl) rfl
theorem se_X1_rowOfLabel : Cond.selects RX1 yX1_rowOfLabel yX1_rowOfLabel ∈ pWW := pws (List.mem_map.mpr ⟨_, lw_pin 35 rfl, rfl⟩) rfl
theorem dX1_rowOfLabel_0 : decode cX1_rowOfLabel 0 = .ok (.iconst 0, 1) := by decide +kernel
theorem dX1_rowOfLabel_1 : decode cX1_rowOfLabel 1 = .ok (.istore_n 2, 1) := by decide +kernel
theorem dX1_rowOfLabel_39 : decode cX1_rowOfLabel 39 = .ok (.iconst (-1), 1) := by decide +kernel
theorem dX1_rowOfLabel_40 : decode cX1_rowOfLabel 40 = .ok (.ireturn, 1) := by decide +kernel
set_option maxHeartbeats 4000000 in
set_option maxRecDepth 20000 in
theorem k_X1_rowOfLabel (d : Nat) {T : CT} {σ : MS} {a : Nat} {l : Int} (ha : OB T a 1) (h_l : -2147483648 ≤ l ∧ l ≤ 2147483647) (hw : WT T σ) : Tn (d + 3) m_X1_rowOfLabel 0 T σ [(0, .ref a), (1, .int (iI l))] [] (fun ro σ2 => ∃ v : Int, ro = some (.int (iI v)) ∧ σ = σ2 ∧ (-2147483648 ≤ v ∧ v ≤ 2147483647)) := by
  refine tn_iconst dX1_rowOfLabel_0 ?_
  refine tn_istore_n (L' := [(2, .int (iI 0)), (0, .ref a), (1, .int (iI l))]) dX1_rowOfLabel_1 rfl (by decide) rfl ?_
  refine tn_sub [0, 1, 2] rfl (l_rowOfLabel (d) (σ := σ) (a := a) (l := l) ha (by omega) hw (fun k1 r5 => ?_) (fun v q => ⟨_, rfl, rfl, q⟩) _ (0) (by decide) (by omega) rfl)
  show Tn _ _ 39 T σ [(2, .int (iI k1)), (0, .ref a), (1, .int (iI l))] [] _
  refine tn_iconst dX1_rowOfLabel_39 ?_
  exact tn_iret rfl dX1_rowOfLabel_40 ⟨_, rfl, rfl, by omega⟩
