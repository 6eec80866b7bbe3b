section
set_option maxHeartbeats 1000000 in
set_option maxRecDepth 20000 in
theorem l_X2_dropUnreached_x_19 (d : Nat) {T : CT} {σ0 : MS} {a : Nat} {rx1 : Nat} {S0 : Int → Int} {x : Nat} {n : Int} {W : Int → It} {fl : Nat} {xs : Nat} {xt : Nat} {post : Option Value → CT → MS → Prop} (h_a : OB T a 2) (h_rx1 : OB T rx1 1) (t_rx1 : (T rx1).1 = 50) (hw0 : WT T σ0) (hsn : ∀ k, 0 ≤ k → k < n → (S0 k ≠ 0 ↔ (RCG (vW W) n 0 (fun _ => False)) k)) (hS0 : σ0.2.1 (1000 + xs) = S0) (hx : σ0.2.1 5 rx1 = (x : Int)) (hfl : σ0.2.1 17 a = (fl : Int)) (hxs : σ0.2.1 20 fl = (xs : Int)) (hxt : σ0.2.1 21 fl = (xt : Int)) (hN : n ≤ 200) (hne : xs ≠ xt ∧ x ≠ xs ∧ x ≠ xt) (hx_65 : ∀ (i2 : Int) (i3 : Int) (σ : MS) , (WT T σ) → (FrC T [6] σ0 σ) → (0 ≤ i2 ∧ i2 ≤ 200) → (-1 ≤ i3 ∧ i3 ≤ 200) → (CHX [(6, rx1)] [x] [] σ0 σ) → (RMQ (RCG (vW W) n 0 (fun _ => False)) W (cW σ x (σ.2.1 6 rx1)) n (σ.2.1 6 rx1) i3 i2) → (WOK (cW σ x (σ.2.1 6 rx1)) (σ.2.1 6 rx1)) → (MOK (cW σ x (σ.2.1 6 rx1)) (σ.2.1 6 rx1)) → (i3 < n ∧ -1 ≤ i3 ∧ i3 < σ.2.1 6 rx1 ∧ σ.2.1 6 rx1 ≤ n ∧ 0 ≤ i2 ∧ i2 ≤ n - 1 - i3) → (i3 < 0) → Tn (d + 5) m_X2_dropUnreached 65 T σ [(0, .ref a), (1, .ref rx1), (2, .int (iI i2)), (3, .int (iI i3))] [] post) : ∀ (nq9 : Nat) (i2 : Int) (i3 : Int) (σ : MS) , (WT T σ) → (FrC T [6] σ0 σ) → (0 ≤ i2 ∧ i2 ≤ 200) → (-1 ≤ i3 ∧ i3 ≤ 200) → (CHX [(6, rx1)] [x] [] σ0 σ) → (RMQ (RCG (vW W) n 0 (fun _ => False)) W (cW σ x (σ.2.1 6 rx1)) n (σ.2.1 6 rx1) i3 i2) → (WOK (cW σ x (σ.2.1 6 rx1)) (σ.2.1 6 rx1)) → (MOK (cW σ x (σ.2.1 6 rx1)) (σ.2.1 6 rx1)) → (i3 < n ∧ -1 ≤ i3 ∧ i3 < σ.2.1 6 rx1 ∧ σ.2.1 6 rx1 ≤ n ∧ 0 ≤ i2 ∧ i2 ≤ n - 1 - i3) → (i3 + 20).toNat = nq9 → Tn (d + 5) m_X2_dropUnreached 19 T σ [(0, .ref a), (1, .ref rx1), (2, .int (iI i2)), (3, .int (iI i3))] [] post := by
  intro nq9
  induction nq9 using Nat.strongRecOn with
  | _ nq9 ih =>
    intro i2 i3 σ hw hF r_i2 r_i3 hC hQ hwk hmk h3 hm
    refine tn_iload_n dX2_dropUnreached_19 rfl 3 rfl ?_
    refine tn_if_lt (tgt := 65) dX2_dropUnreached_20 (by decide) ⟨by omega, by omega⟩ (fun h1 => ?_) (fun h1 => ?_)
    · exact tn_sub [0, 1, 2, 3] rfl (hx_65 (i2) (i3) σ hw (FrC.rfl.trans (FrC.sub hF (by decide))) (by omega) (by omega) hC hQ hwk hmk (by omega) (by omega))
    · refine tn_aload_n dX2_dropUnreached_23 rfl 0 rfl ?_
      have hk4 : (T fl).1 = 33 := ob_of (wf_17 hw0 h_a) hfl
      have hk4o : OB T fl 3 := ⟨by omega, by rw [hk4]; rfl, by omega⟩
      refine tn_getR (ci := 2) (i := 0) (n := 17) (x := fl) dX2_dropUnreached_24 rfl lay_2 (by decide) fl2_9 h_a rfl rfl (rc_F hF (Or.inl (by decide)) (by decide) (hfl)) ?_
      refine tn_iload_n dX2_dropUnreached_27 rfl 3 rfl ?_
      obtain ⟨hk8, hl9⟩ : AR T xs 1 201 201 := ar_of (wf_20 hw0 hk4o) hxs
      have hk8i : IA T xs := by unfold IA; omega
      have cv10 : σ.2.1 (1000 + xs) = S0 := (CHX.r hC (by first | (simp; done) | (simp only [List.mem_cons, List.not_mem_nil, or_false, not_or]; omega))).trans (hS0)
      refine tn_callV (M := m_X2_dropUnreached) (pc := 28) (ix := 49) (ci := 3) (M' := m_X3_isSeen) (As := [.int (iI i3)]) (rest := []) dX2_dropUnreached_28 ok_X3_isSeen im_X3_isSeen se_X3_isSeen ml2_49 np_X3_isSeen rfl rfl hk4o rfl (Nat.le_of_ble_eq_true rfl) (Nat.le_of_ble_eq_true rfl) rfl (k_X3_isSeen_x (d + 2) (T := T) (σ := σ) (a := fl) (k := i3) (xs := xs) (Sv := S0) hk4o (by omega) hw (rc_F hF (Or.inl (by decide)) (by decide) (hxs)) cv10) (fun r11 T13 σ12 gt14 hp => ?_)
      obtain ⟨v17, rfl, rfl, rfl, f15, f16⟩ := hp
      clear gt14
      show Tn _ _ 31 T σ [(0, .ref a), (1, .ref rx1), (2, .int (iI i2)), (3, .int (iI i3))] [.int (iI v17)] _
      refine tn_if_ne (tgt := 59) dX2_dropUnreached_31 (by decide) ⟨by omega, by omega⟩ (fun h18 => ?_) (fun h18 => ?_)
      · refine tn_iinc (q0 := 3) (L' := [(3, .int (iI (i3 + (-1)))), (0, .ref a), (1, .ref rx1), (2, .int (iI i2))]) dX2_dropUnreached_59 rfl (by decide) rfl ?_
        refine tn_goto (tgt := 19) dX2_dropUnreached_62 (by decide) ?_
        have em19 : σ.2.1 6 rx1 = σ.2.1 6 rx1 := rfl
        have ew20 : cW σ x (σ.2.1 6 rx1) = cW σ x (σ.2.1 6 rx1) := by first | (rw [em19]; done) | (rw [em19]; exact rfl)
        have em21 : σ.2.1 6 rx1 = σ.2.1 6 rx1 := rfl
        have ew22 : cW σ x (σ.2.1 6 rx1) = cW σ x (σ.2.1 6 rx1) := by first | (rw [em21]; done) | (rw [em21]; exact rfl)
        have em23 : σ.2.1 6 rx1 = σ.2.1 6 rx1 := rfl
        have ew24 : cW σ x (σ.2.1 6 rx1) = cW σ x (σ.2.1 6 rx1) := by first | (rw [em23]; done) | (rw [em23]; exact rfl)
        have em25 : σ.2.1 6 rx1 = σ.2.1 6 rx1 := rfl
        have ew26 : cW σ x (σ.2.1 6 rx1) = cW σ x (σ.2.1 6 rx1) := by first | (rw [em25]; done) | (rw [em25]; exact rfl)
        exact tn_sub [1, 2, 3, 0] rfl (ih _ (by omega) (i2) (i3 + (-1)) σ hw (FrC.rfl.trans (FrC.sub hF (by decide))) (by omega) (by omega) hC (by rw [em19, ew20]; have z := hQ.keep (by omega) (by omega) ((hsn i3 (by omega) (by omega)).mp (by have y2 := f16; omega)); rw [show i3 - 1 = i3 + -1 by omega] at z; exact z) (by rw [ew22, em21]; exact hwk) (by rw [ew24, em23]; exact hmk) (by rw [em25]; omega) rfl)
      · refine tn_iload_n dX2_dropUnreached_34 rfl 2 rfl ?_
        refine tn_aload_n dX2_dropUnreached_35 rfl 1 rfl ?_
        refine tn_iload_n dX2_dropUnreached_36 rfl 3 rfl ?_
        refine tn_iconst dX2_dropUnreached_37 ?_
        obtain ⟨hl30, hk29a, hk29b⟩ := cel_of (wf_5 hw0 h_rx1) hx
        have hk29 : (T x).1 = 1 := hk29a (by omega)
        clear hk29a hk29b
        have hk29i : IA T x := by unfold IA; omega
        refine tn_callV (M := m_X2_dropUnreached) (pc := 38) (ix := 53) (ci := 1) (M' := m_X1_get) (As := [.int (iI i3), .int (iI 0)]) (rest := [.int (iI i2)]) dX2_dropUnreached_38 ok_X1_get im_X1_get se_X1_get ml2_53 np_X1_get rfl rfl h_rx1 rfl (Nat.le_of_ble_eq_true rfl) (Nat.le_of_ble_eq_true rfl) rfl (k_X1_get_x (d + 3) (T := T) (σ := σ) (a := rx1) (k := i3) (c := 0) (x := x) (n := σ.2.1 6 rx1) (W := cW σ x (σ.2.1 6 rx1)) h_rx1 (by omega) (by decide) hw (rc_F hF (Or.inl (by decide)) (by decide) (hx)) (rfl) rfl (by omega) (by omega)) (fun r31 T33 σ32 gt34 hp => ?_)
        obtain ⟨v37, rfl, rfl, rfl, f35, f36⟩ := hp
        clear gt34
        show Tn _ _ 41 T σ [(0, .ref a), (1, .ref rx1), (2, .int (iI i2)), (3, .int (iI i3))] [.int (iI v37), .int (iI i2)] _
        refine tn_callSN (M := m_X2_dropUnreached) (pc := 41) (ix := 57) (M' := m_X11_isAct) (As := [.int (iI v37)]) (rest := [.int (iI i2)]) dX2_dropUnreached_41 ok_X11_isAct stt_X11_isAct nl2_57 np_X11_isAct rfl (Nat.le_of_ble_eq_true rfl) (Nat.le_of_ble_eq_true rfl) rfl (k_X11_isAct_x (d + 3) (T := T) (σ := σ) (k := v37) (by omega) hw ) (fun r38 T40 σ39 gt41 hp => ?_)
        obtain ⟨v44, rfl, rfl, rfl, f42, f43⟩ := hp
        clear gt41
        show Tn _ _ 44 T σ [(0, .ref a), (1, .ref rx1), (2, .int (iI i2)), (3, .int (iI i3))] [.int (iI v44), .int (iI i2)] _
        refine tn_if_eq (tgt := 51) dX2_dropUnreached_44 (by decide) ⟨by omega, by omega⟩ (fun h45 => ?_) (fun h45 => ?_)
        · refine tn_iconst dX2_dropUnreached_51 ?_
          refine tn_iadd dX2_dropUnreached_52 ?_
          refine tn_istore_n (L' := [(2, .int (iI (i2 + 0))), (0, .ref a), (1, .ref rx1), (3, .int (iI i3))]) dX2_dropUnreached_53 rfl (by decide) rfl ?_
          refine tn_aload_n dX2_dropUnreached_54 rfl 2 rfl ?_
          refine tn_iload_n dX2_dropUnreached_55 rfl 3 rfl ?_
          refine tn_callV (M := m_X2_dropUnreached) (pc := 56) (ix := 37) (ci := 1) (M' := m_X1_removeRow) (As := [.int (iI i3)]) (rest := []) dX2_dropUnreached_56 ok_X1_removeRow im_X1_removeRow se_X1_removeRow ml2_37 np_X1_removeRow rfl rfl h_rx1 rfl (Nat.le_of_ble_eq_true rfl) (Nat.le_of_ble_eq_true rfl) rfl (k_X1_removeRow_x (d + 3) (T := T) (σ := σ) (a := rx1) (k := i3) (x := x) (n := σ.2.1 6 rx1) (W := cW σ x (σ.2.1 6 rx1)) h_rx1 t_rx1 (by omega) hw (rc_F hF (Or.inl (by decide)) (by decide) (hx)) (rfl) rfl (by omega) (by omega)) (fun r46 T48 σ47 gt49 hp => ?_)
          obtain ⟨rfl, rfl, w54, F55, f50, f51, f52⟩ := hp
          clear gt49
          show Tn _ _ 59 T σ47 [(2, .int (iI (i2 + 0))), (0, .ref a), (1, .ref rx1), (3, .int (iI i3))] [] _
          refine tn_iinc (q0 := 3) (L' := [(3, .int (iI (i3 + (-1)))), (2, .int (iI (i2 + 0))), (0, .ref a), (1, .ref rx1)]) dX2_dropUnreached_59 rfl (by decide) rfl ?_
          refine tn_goto (tgt := 19) dX2_dropUnreached_62 (by decide) ?_
          exact tn_sub [2, 3, 1, 0] rfl (ih _ (by omega) (i2 + 0) (i3 + (-1)) σ47 w54 ((FrC.rfl.trans (FrC.sub hF (by decide))).trans (FrC.sub F55 (by decide))) (by omega) (by omega) (hC.trans (CHX.sub f50 (by simp) (by simp) (by simp))) (by have z := hQ.rem (a := 0) (by omega) (by omega) (fun q => by have y := (hsn i3 (by omega) (by omega)).mpr q; have y2 := f16; omega) (by have y := (hwk i3 (by omega) (by omega)).1; omega) (cW_n f51 f52); rw [show i3 - 1 = i3 + -1 by omega, ← f51] at z; exact z) (by rw [f51, f52]; exact hwk.rem (by omega)) (by rw [f51, f52]; exact hmk.rem (by omega)) (by rw [f51]; omega) rfl)
        · refine tn_iconst dX2_dropUnreached_47 ?_
          refine tn_goto (tgt := 52) dX2_dropUnreached_48 (by decide) ?_
          refine tn_iadd dX2_dropUnreached_52 ?_
          refine tn_istore_n (L' := [(2, .int (iI (i2 + 1))), (0, .ref a), (1, .ref rx1), (3, .int (iI i3))]) dX2_dropUnreached_53 rfl (by decide) rfl ?_
          refine tn_aload_n dX2_dropUnreached_54 rfl 2 rfl ?_
          refine tn_iload_n dX2_dropUnreached_55 rfl 3 rfl ?_
          refine tn_callV (M := m_X2_dropUnreached) (pc := 56) (ix := 37) (ci := 1) (M' := m_X1_removeRow) (As := [.int (iI i3)]) (rest := []) dX2_dropUnreached_56 ok_X1_removeRow im_X1_removeRow se_X1_removeRow ml2_37 np_X1_removeRow rfl rfl h_rx1 rfl (Nat.le_of_ble_eq_true rfl) (Nat.le_of_ble_eq_true rfl) rfl (k_X1_removeRow_x (d + 3) (T := T) (σ := σ) (a := rx1) (k := i3) (x := x) (n := σ.2.1 6 rx1) (W := cW σ x (σ.2.1 6 rx1)) h_rx1 t_rx1 (by omega) hw (rc_F hF (Or.inl (by decide)) (by decide) (hx)) (rfl) rfl (by omega) (by omega)) (fun r56 T58 σ57 gt59 hp => ?_)
          obtain ⟨rfl, rfl, w64, F65, f60, f61, f62⟩ := hp
          clear gt59
          show Tn _ _ 59 T σ57 [(2, .int (iI (i2 + 1))), (0, .ref a), (1, .ref rx1), (3, .int (iI i3))] [] _
          refine tn_iinc (q0 := 3) (L' := [(3, .int (iI (i3 + (-1)))), (2, .int (iI (i2 + 1))), (0, .ref a), (1, .ref rx1)]) dX2_dropUnreached_59 rfl (by decide) rfl ?_
          refine tn_goto (tgt := 19) dX2_dropUnreached_62 (by decide) ?_
          exact tn_sub [2, 3, 1, 0] rfl (ih _ (by omega) (i2 + 1) (i3 + (-1)) σ57 w64 ((FrC.rfl.trans (FrC.sub hF (by decide))).trans (FrC.sub F65 (by decide))) (by omega) (by omega) (hC.trans (CHX.sub f60 (by simp) (by simp) (by simp))) (by have z := hQ.rem (a := 1) (by omega) (by omega) (fun q => by have y := (hsn i3 (by omega) (by omega)).mpr q; have y2 := f16; omega) (by have y := (hwk i3 (by omega) (by omega)).1; omega) (cW_n f61 f62); rw [show i3 - 1 = i3 + -1 by omega, ← f61] at z; exact z) (by rw [f61, f62]; exact hwk.rem (by omega)) (by rw [f61, f62]; exact hmk.rem (by omega)) (by rw [f61]; omega) rfl)
set_option maxHeartbeats 1000000 in
set_option maxRecDepth 20000 in
theorem k_X2_dropUnreached_x (d : Nat) {T : CT} {σ : MS} {a : Nat} {p1 : Nat} {x : Nat} {n : Int} {W : Int → It} {fl : Nat} {xs : Nat} {xt : Nat} (ha : OB T a 2) (h_p1 : OB T p1 1) (t_p1 : (T p1).1 = 50) (hw : WT T σ) (hx : σ.2.1 5 p1 = (x : Int)) (hn : σ.2.1 6 p1 = n) (hW : cW σ x n = W) (hfl : σ.2.1 17 a = (fl : Int)) (hxs : σ.2.1 20 fl = (xs : Int)) (hxt : σ.2.1 21 fl = (xt : Int)) (hN : n ≤ 200) (hne : xs ≠ xt ∧ x ≠ xs ∧ x ≠ xt) (hwok : WOK W n) (hmok : MOK W n) (hLk : LNK W n) (hU : UNQ (vW W) n) : Tn (d + 5) m_X2_dropUnreached 0 T σ [(0, .ref a), (1, .ref p1)] [] (fun ro T2 σ2 => ∃ v : Int, ro = some (.int (iI v)) ∧ T = T2 ∧ WT T2 σ2 ∧ FrC T [6, 22] σ σ2 ∧ (0 ≤ v ∧ v ≤ 200) ∧ (CHX [(22, fl), (6, p1)] [x, xs, xt] [] σ σ2) ∧ (dr1 (vW W) n n.toNat = (σ2.2.1 6 p1, v, vW (cW σ2 x (σ2.2.1 6 p1)))) ∧ (WOK (cW σ2 x (σ2.2.1 6 p1)) (σ2.2.1 6 p1) ∧ MOK (cW σ2 x (σ2.2.1 6 p1)) (σ2.2.1 6 p1)) ∧ (0 ≤ σ2.2.1 6 p1 ∧ σ2.2.1 6 p1 ≤ n)) := by
  have h6 := wf_6 hw h_p1
  refine tn_aload_n dX2_dropUnreached_0 rfl 0 rfl ?_
  have hk3 : (T fl).1 = 33 := ob_of (wf_17 hw ha) hfl
  have hk3o : OB T fl 3 := ⟨by omega, by rw [hk3]; rfl, by omega⟩
  refine tn_getR (ci := 2) (i := 0) (n := 17) (x := fl) dX2_dropUnreached_1 rfl lay_2 (by decide) fl2_9 ha rfl rfl (hfl) ?_
  refine tn_aload_n dX2_dropUnreached_4 rfl 1 rfl ?_
  refine tn_iconst dX2_dropUnreached_5 ?_
  refine tn_iconst dX2_dropUnreached_6 ?_
  obtain ⟨hl8, hk7a, hk7b⟩ := cel_of (wf_5 hw h_p1) hx
  have hk7 : (T x).1 = 1 := hk7a (by omega)
  clear hk7a hk7b
  have hk7i : IA T x := by unfold IA; omega
  obtain ⟨hk11, hl12⟩ : AR T xs 1 201 201 := ar_of (wf_20 hw hk3o) hxs
  have hk11i : IA T xs := by unfold IA; omega
  obtain ⟨hk15, hl16⟩ : AR T xt 1 201 201 := ar_of (wf_21 hw hk3o) hxt
  have hk15i : IA T xt := by unfold IA; omega
  refine tn_callV (M := m_X2_dropUnreached) (pc := 7) (ix := 41) (ci := 3) (M' := m_X3_seeFrom) (As := [.ref p1, .int (iI 0), .int (iI (-1))]) (rest := []) dX2_dropUnreached_7 ok_X3_seeFrom im_X3_seeFrom se_X3_seeFrom ml2_41 np_X3_seeFrom rfl rfl hk3o rfl (Nat.le_of_ble_eq_true rfl) (Nat.le_of_ble_eq_true rfl) rfl (k_X3_seeFrom_x (d) (T := T) (σ := σ) (a := fl) (p1 := p1) (p2 := 0) (p3 := -1) (x := x) (n := n) (W := W) (xs := xs) (Sv := σ.2.1 (1000 + xs)) (xt := xt) (Qv := σ.2.1 (1000 + xt)) (wq := σ.2.1 22 fl) (B := (fun _ => False)) hk3o h_p1 (by decide) (by decide) hw (hx) (hn) hW (hxs) rfl (hxt) rfl (rfl) (by omega) (by omega) (by omega) (by omega) rbq_0) (fun r17 T19 σ18 gt20 hp => ?_)
  obtain ⟨rfl, rfl, w24, F25, f21, f22⟩ := hp
  clear gt20
  show Tn _ _ 10 T σ18 [(0, .ref a), (1, .ref p1)] [] _
  refine tn_iconst dX2_dropUnreached_10 ?_
  refine tn_istore_n (L' := [(2, .int (iI 0)), (0, .ref a), (1, .ref p1)]) dX2_dropUnreached_11 rfl (by decide) rfl ?_
  refine tn_aload_n dX2_dropUnreached_12 rfl 2 rfl ?_
  refine tn_getI (ci := 1) (i := 1) (n := 6) (t := σ.2.1 6 p1) dX2_dropUnreached_13 rfl lay_1 (by decide) fl2_45 h_p1 rfl rfl (rc_F F25 (Or.inl (by decide)) (by decide) (rfl)) ?_
  have g26 : ((0 : Int) ≤ σ.2.1 6 p1 ∧ σ.2.1 6 p1 ≤ 5000) ∧ ((T p1).1 = 50 → σ.2.1 6 p1 ≤ 200) := wf_6 hw h_p1
  have g26x := g26.2
  replace g26 := g26.1
  have g26x := g26x t_p1
  refine tn_iconst dX2_dropUnreached_16 ?_
  refine tn_isub dX2_dropUnreached_17 ?_
  refine tn_istore_n (L' := [(3, .int (iI ((σ.2.1 6 p1) - 1))), (2, .int (iI 0)), (0, .ref a), (1, .ref p1)]) dX2_dropUnreached_18 rfl (by decide) rfl ?_
  have cv27 : cW σ18 x n = W := (cW_row (CHX.r f21 (by first | (simp; done) | (simp only [List.mem_cons, List.not_mem_nil, or_false, not_or]; omega)))).trans (hW)
  have em28 : σ18.2.1 6 p1 = n := rc_F F25 (Or.inl (by decide)) (by decide) (hn)
  refine tn_sub [2, 3, 1, 0] rfl (l_X2_dropUnreached_x_19 (d) (T := T) (σ0 := σ18) (a := a) (rx1 := p1) (x := x) (n := n) (W := W) (fl := fl) (xs := xs) (xt := xt) (S0 := (σ18.2.1 (1000 + xs))) ha h_p1 t_p1 w24 f22 rfl (rc_F F25 (Or.inl (by decide)) (by decide) (hx)) (rc_F F25 (Or.inl (by decide)) (by decide) (hfl)) (rc_F F25 (Or.inl (by decide)) (by decide) (hxs)) (rc_F F25 (Or.inl (by decide)) (by decide) (hxt)) hN hne (fun i229 i330 σ31 w34 F35 r36 r37 f38 f39 f40 f41 f42 f43 => ?_) _ (0) ((σ.2.1 6 p1) - 1) σ18 w24 FrC.rfl (by omega) (by omega) CHX.rfl (by rw [em28, cv27]; have z := RMQ.nil (P := (RCG (vW W) n 0 (fun _ => False))) (W := W) (n := n) (by omega); rw [show n - 1 = (σ.2.1 6 p1) - 1 by omega] at z; exact z) (by rw [em28, cv27]; exact hwok) (by rw [em28, cv27]; exact hmok) (by rw [em28]; omega) rfl)
  show Tn _ _ 65 T σ31 [(0, .ref a), (1, .ref p1), (2, .int (iI i229)), (3, .int (iI i330))] [] _
  refine tn_iload_n dX2_dropUnreached_65 rfl 2 rfl ?_
  exact tn_iret rfl dX2_dropUnreached_66 ⟨_, rfl, rfl, w34, ((FrC.rfl.trans (FrC.sub F25 (by decide))).trans (FrC.sub F35 (by decide))), by omega, ((CHX.rfl.trans (CHX.sub f21 (by simp) (by simp) (by simp))).trans (CHX.sub f38 (by simp) (by simp) (by simp))), ((f39).fin (by omega) (by omega) (fun j q => cW_off q)), ⟨f40, f41⟩, (by have z := f42; omega)⟩
end
section
theorem dp_end {V : Int → It} {n0 n t w : Int} {W : Int → It} (h : DRI (dr1 V n0 n0.toNat).2.2 (dr1 V n0 n0.toNat).1 W n t) (hl : ∀ k, 0 ≤ k → k < n → ¬ dead (vW W) n k) (hw : w = (dr1 V n0 n0.toNat).2.1 + t) : DRX V n0 (vW W) n w := DRX.of h rfl hl hw
set_option maxHeartbeats 1000000 in
set_option maxRecDepth 20000 in
theorem l_X2_drop_x_12 (d : Nat) {T : CT} {σ0 : MS} {a : Nat} {rx1 : Nat} {V1 : Int → It} {n1 : Int} {w0 : Int} {x : Nat} {n : Int} {W : Int → It} {fl : Nat} {xa : Nat} {xo : Nat} {xs : Nat} {xt : Nat} {post : Option Value → CT → MS → Prop} (h_a : OB T a 2) (h_rx1 : OB T rx1 1) (t_rx1 : (T rx1).1 = 50) (hw0 : WT T σ0) (hdt : dr1 (vW W) n n.toNat = (n1, w0, V1)) (hn1 : n1 ≤ 200) (hx : σ0.2.1 5 rx1 = (x : Int)) (hfl : σ0.2.1 17 a = (fl : Int)) (hxa : σ0.2.1 18 fl = (xa : Int)) (hxo : σ0.2.1 19 fl = (xo : Int)) (hxs : σ0.2.1 20 fl = (xs : Int)) (hxt : σ0.2.1 21 fl = (xt : Int)) (hN : n ≤ 200) (hne : xs ≠ xt ∧ x ≠ xs ∧ x ≠ xt ∧ xa ≠ xo) (hx_40 : ∀ (i2 : Int) (i3 : Int) (σ : MS) , (WT T σ) → (FrC T [6, 22] σ0 σ) → (0 ≤ i2 ∧ i2 ≤ 400) → (0 ≤ i3 ∧ i3 ≤ 200) → (CHX [(22, fl), (6, rx1)] [x, xs, xt] [xa, xo] σ0 σ) → (DRI V1 n1 (cW σ x (σ.2.1 6 rx1)) (σ.2.1 6 rx1) i3) → (0 ≤ σ.2.1 6 rx1 ∧ σ.2.1 6 rx1 ≤ 200 ∧ i2 = w0 + i3 ∧ 0 ≤ w0 ∧ w0 ≤ 200) → (∀ k, 0 ≤ k → k < σ.2.1 6 rx1 → ¬ dead (vW (cW σ x (σ.2.1 6 rx1))) (σ.2.1 6 rx1) k) → Tn (d + 6) m_X2_drop 40 T σ [(0, .ref a), (1, .ref rx1), (2, .int (iI i2)), (3, .int (iI i3))] [] post) (hx_69 : ∀ (i2 : Int) (i3 : Int) (σ : MS) , (WT T σ) → (FrC T [6, 22] σ0 σ) → (0 ≤ i2 ∧ i2 ≤ 400) → (0 ≤ i3 ∧ i3 ≤ 200) → (CHX [(22, fl), (6, rx1)] [x, xs, xt] [xa, xo] σ0 σ) → (DRI V1 n1 (cW σ x (σ.2.1 6 rx1)) (σ.2.1 6 rx1) i3) → (0 ≤ σ.2.1 6 rx1 ∧ σ.2.1 6 rx1 ≤ 200 ∧ i2 = w0 + i3 ∧ 0 ≤ w0 ∧ w0 ≤ 200) → (∀ k, 0 ≤ k → k < σ.2.1 6 rx1 → ¬ dead (vW (cW σ x (σ.2.1 6 rx1))) (σ.2.1 6 rx1) k) → Tn (d + 6) m_X2_drop 69 T σ [(0, .ref a), (1, .ref rx1), (2, .int (iI i2)), (3, .int (iI i3))] [] post) : ∀ (nq9 : Nat) (i2 : Int) (i3 : Int) (σ : MS) , (WT T σ) → (FrC T [6, 22] σ0 σ) → (0 ≤ i2 ∧ i2 ≤ 400) → (0 ≤ i3 ∧ i3 ≤ 200) → (CHX [(22, fl), (6, rx1)] [x, xs, xt] [xa, xo] σ0 σ) → (DRI V1 n1 (cW σ x (σ.2.1 6 rx1)) (σ.2.1 6 rx1) i3) → (0 ≤ σ.2.1 6 rx1 ∧ σ.2.1 6 rx1 ≤ 200 ∧ i2 = w0 + i3 ∧ 0 ≤ w0 ∧ w0 ≤ 200) → (2147483700 - i3).toNat = nq9 → Tn (d + 6) m_X2_drop 12 T σ [(0, .ref a), (1, .ref rx1), (2, .int (iI i2)), (3, .int (iI i3))] [] post := by
  intro nq9
  induction nq9 using Nat.strongRecOn with
  | _ nq9 ih =>
    intro i2 i3 σ hw hF r_i2 r_i3 hC hD h3 hm
    have hDn := hD.2.2.2.2.2.2
    have hwok := hD.2.2.1
    have hmok := hD.2.2.2.1
    have hLk := hD.2.2.2.2.1
    have hU := hD.2.2.2.2.2.1
    refine tn_iload_n dX2_drop_12 rfl 3 rfl ?_
    refine tn_sipush dX2_drop_13 (by decide) ?_
    refine tn_icmp_ge (tgt := 69) dX2_drop_16 (by decide) ⟨by omega, by omega⟩ ⟨by decide, by decide⟩ (fun h1 => ?_) (fun h1 => ?_)
    · exact tn_sub [0, 1, 2, 3] rfl (hx_69 (i2) (i3) σ hw (FrC.rfl.trans (FrC.sub hF (by decide))) (by omega) (by omega) hC hD (by omega) (fun k a b => by omega))
    · refine tn_aload_n dX2_drop_19 rfl 0 rfl ?_
      have hk4 : (T fl).1 = 33 := ob_of (wf_17 hw0 h_a) hfl
      have hk4o : OB T fl 3 := ⟨by omega, by rw [hk4]; rfl, by omega⟩
      refine tn_getR (ci := 2) (i := 0) (n := 17) (x := fl) dX2_drop_20 rfl lay_2 (by decide) fl2_9 h_a rfl rfl (rc_F hF (Or.inl (by decide)) (by decide) (hfl)) ?_
      refine tn_aload_n dX2_drop_23 rfl 1 rfl ?_
      obtain ⟨hl9, hk8a, hk8b⟩ := cel_of (wf_5 hw0 h_rx1) hx
      have hk8 : (T x).1 = 1 := hk8a (by omega)
      clear hk8a hk8b
      have hk8i : IA T x := by unfold IA; omega
      obtain ⟨hk12, hl13⟩ : AR T xa 3 603 603 := ar_of (wf_18 hw0 hk4o) hxa
      obtain ⟨hk16, hl17⟩ : AR T xo 3 3 3 := ar_of (wf_19 hw0 hk4o) hxo
      refine tn_callV (M := m_X2_drop) (pc := 24) (ix := 24) (ci := 3) (M' := m_X3_findLiving) (As := [.ref rx1]) (rest := []) dX2_drop_24 ok_X3_findLiving im_X3_findLiving se_X3_findLiving ml2_24 np_X3_findLiving rfl rfl hk4o rfl (Nat.le_of_ble_eq_true rfl) (Nat.le_of_ble_eq_true rfl) rfl (k_X3_findLiving_x (d + 1) (T := T) (σ := σ) (a := fl) (p1 := rx1) (x := x) (n := σ.2.1 6 rx1) (W := cW σ x (σ.2.1 6 rx1)) (xa := xa) (La := σ.2.2 xa) (xo := xo) hk4o h_rx1 t_rx1 hw (rc_F hF (Or.inl (by decide)) (by decide) (hx)) (rfl) rfl (rc_F hF (Or.inl (by decide)) (by decide) (hxa)) rfl (rc_F hF (Or.inl (by decide)) (by decide) (hxo)) (by omega) (by omega) (by omega) (by omega) (by omega) (by omega)) (fun r18 T20 σ19 gt21 hp => ?_)
      obtain ⟨rfl, rfl, w25, F26, f22, f23⟩ := hp
      clear gt21
      show Tn _ _ 27 T σ19 [(0, .ref a), (1, .ref rx1), (2, .int (iI i2)), (3, .int (iI i3))] [] _
      refine tn_aload_n dX2_drop_27 rfl 0 rfl ?_
      refine tn_aload_n dX2_drop_28 rfl 1 rfl ?_
      have cv27 : cW σ19 x (σ.2.1 6 rx1) = cW σ x (σ.2.1 6 rx1) := (cW_row (CHX.r f22 (by first | (simp; done) | (simp only [List.mem_cons, List.not_mem_nil, or_false, not_or]; omega)))).trans (rfl)
      refine tn_callV (M := m_X2_drop) (pc := 29) (ix := 30) (ci := 2) (M' := m_X2_lastUnread) (As := [.ref rx1]) (rest := []) dX2_drop_29 ok_X2_lastUnread im_X2_lastUnread se_X2_lastUnread ml2_30 np_X2_lastUnread rfl rfl h_a rfl (Nat.le_of_ble_eq_true rfl) (Nat.le_of_ble_eq_true rfl) rfl (k_X2_lastUnread_x (d + 1) (T := T) (σ := σ19) (a := a) (p1 := rx1) (x := x) (n := σ.2.1 6 rx1) (W := cW σ x (σ.2.1 6 rx1)) (fl := fl) (xa := xa) (La := σ19.2.2 xa) h_a h_rx1 t_rx1 w25 (rc_F F26 (Or.inl (by decide)) (by decide) (rc_F hF (Or.inl (by decide)) (by decide) (hx))) (rc_F F26 (Or.inl (by decide)) (by decide) (rfl)) cv27 (rc_F F26 (Or.inl (by decide)) (by decide) (rc_F hF (Or.inl (by decide)) (by decide) (hfl))) (rc_F F26 (Or.inl (by decide)) (by decide) (rc_F hF (Or.inl (by decide)) (by decide) (hxa))) rfl (by omega) (by omega) f23) (fun r28 T30 σ29 gt31 hp => ?_)
      obtain ⟨v35, rfl, rfl, rfl, f32, f33, f34⟩ := hp
      clear gt31
      show Tn _ _ 32 T σ19 [(0, .ref a), (1, .ref rx1), (2, .int (iI i2)), (3, .int (iI i3))] [.int (iI v35)] _
      refine tn_istore (L' := [(4, .int (iI v35)), (0, .ref a), (1, .ref rx1), (2, .int (iI i2)), (3, .int (iI i3))]) dX2_drop_32 (by decide) rfl ?_
      refine tn_iload dX2_drop_34 0 rfl ?_
      refine tn_iconst dX2_drop_36 ?_
      refine tn_icmp_ne (tgt := 43) dX2_drop_37 (by decide) ⟨by omega, by omega⟩ ⟨by decide, by decide⟩ (fun h36 => ?_) (fun h36 => ?_)
      · refine tn_aload_n dX2_drop_43 rfl 1 rfl ?_
        refine tn_aload_n dX2_drop_44 rfl 2 rfl ?_
        refine tn_iload dX2_drop_45 0 rfl ?_
        obtain ⟨hk39, hl40⟩ : AR T xs 1 201 201 := ar_of (wf_20 hw0 hk4o) hxs
        have hk39i : IA T xs := by unfold IA; omega
        obtain ⟨hk43, hl44⟩ : AR T xt 1 201 201 := ar_of (wf_21 hw0 hk4o) hxt
        have hk43i : IA T xt := by unfold IA; omega
        refine tn_callV (M := m_X2_drop) (pc := 47) (ix := 33) (ci := 2) (M' := m_X2_loosenBinds) (As := [.ref rx1, .int (iI v35)]) (rest := []) dX2_drop_47 ok_X2_loosenBinds im_X2_loosenBinds se_X2_loosenBinds ml2_33 np_X2_loosenBinds rfl rfl h_a rfl (Nat.le_of_ble_eq_true rfl) (Nat.le_of_ble_eq_true rfl) rfl (k_X2_loosenBinds_x (d) (T := T) (σ := σ19) (a := a) (p1 := rx1) (p2 := v35) (x := x) (n := σ.2.1 6 rx1) (W := cW σ x (σ.2.1 6 rx1)) (fl := fl) (xs := xs) (xt := xt) (Sv := σ19.2.1 (1000 + xs)) (Qv := σ19.2.1 (1000 + xt)) (wq := σ.2.1 22 fl) h_a h_rx1 t_rx1 (by omega) w25 (rc_F F26 (Or.inl (by decide)) (by decide) (rc_F hF (Or.inl (by decide)) (by decide) (hx))) (rc_F F26 (Or.inl (by decide)) (by decide) (rfl)) cv27 (rc_F F26 (Or.inl (by decide)) (by decide) (rc_F hF (Or.inl (by decide)) (by decide) (hfl))) (rc_F F26 (Or.inl (by decide)) (by decide) (rc_F hF (Or.inl (by decide)) (by decide) (hxs))) (rc_F F26 (Or.inl (by decide)) (by decide) (rc_F hF (Or.inl (by decide)) (by decide) (hxt))) rfl rfl (rc_F F26 (Or.inl (by decide)) (by decide) (rfl)) (by omega) (by omega) (by omega) (by omega) (by omega) (by omega) (by omega) (by have z := (f33.resolve_left (fun q => absurd q.1 (by omega))).2.2.1.1; rw [vW_0] at z; exact z)) (fun r45 T47 σ46 gt48 hp => ?_)
        obtain ⟨rfl, rfl, w53, F54, f49, f50, f51⟩ := hp
        clear gt48
        show Tn _ _ 50 T σ46 [(4, .int (iI v35)), (0, .ref a), (1, .ref rx1), (2, .int (iI i2)), (3, .int (iI i3))] [] _
        refine tn_aload_n dX2_drop_50 rfl 2 rfl ?_
        refine tn_iload dX2_drop_51 0 rfl ?_
        refine tn_callV (M := m_X2_drop) (pc := 53) (ix := 37) (ci := 1) (M' := m_X1_removeRow) (As := [.int (iI v35)]) (rest := []) dX2_drop_53 ok_X1_removeRow im_X1_removeRow se_X1_removeRow ml2_37 np_X1_removeRow rfl rfl h_rx1 rfl (Nat.le_of_ble_eq_true rfl) (Nat.le_of_ble_eq_true rfl) rfl (k_X1_removeRow_x (d + 4) (T := T) (σ := σ46) (a := rx1) (k := v35) (x := x) (n := σ.2.1 6 rx1) (W := cW σ46 x (σ.2.1 6 rx1)) h_rx1 t_rx1 (by omega) w53 (rc_F F54 (Or.inl (by decide)) (by decide) (rc_F F26 (Or.inl (by decide)) (by decide) (rc_F hF (Or.inl (by decide)) (by decide) (hx)))) (rc_F F54 (Or.inl (by decide)) (by decide) (rc_F F26 (Or.inl (by decide)) (by decide) (rfl))) rfl (by omega) (by omega)) (fun r55 T57 σ56 gt58 hp => ?_)
        obtain ⟨rfl, rfl, w63, F64, f59, f60, f61⟩ := hp
        clear gt58
        show Tn _ _ 56 T σ56 [(4, .int (iI v35)), (0, .ref a), (1, .ref rx1), (2, .int (iI i2)), (3, .int (iI i3))] [] _
        refine tn_aload_n dX2_drop_56 rfl 2 rfl ?_
        refine tn_callV (M := m_X2_drop) (pc := 57) (ix := 19) (ci := 1) (M' := m_X1_link) (As := []) (rest := []) dX2_drop_57 ok_X1_link im_X1_link se_X1_link ml2_19 np_X1_link rfl rfl h_rx1 rfl (Nat.le_of_ble_eq_true rfl) (Nat.le_of_ble_eq_true rfl) rfl (k_X1_link_x (d + 2) (T := T) (σ := σ56) (a := rx1) (x := x) (n := σ56.2.1 6 rx1) (W := cW σ56 x (σ56.2.1 6 rx1)) h_rx1 w63 (rc_F F64 (Or.inl (by decide)) (by decide) (rc_F F54 (Or.inl (by decide)) (by decide) (rc_F F26 (Or.inl (by decide)) (by decide) (rc_F hF (Or.inl (by decide)) (by decide) (hx))))) (rfl) rfl (by omega)) (fun r65 T67 σ66 gt68 hp => ?_)
        obtain ⟨rfl, rfl, w73, F74, f69, f70, f71⟩ := hp
        clear gt68
        show Tn _ _ 60 T σ66 [(4, .int (iI v35)), (0, .ref a), (1, .ref rx1), (2, .int (iI i2)), (3, .int (iI i3))] [] _
        refine tn_iinc (q0 := 3) (L' := [(2, .int (iI (i2 + 1))), (4, .int (iI v35)), (0, .ref a), (1, .ref rx1), (3, .int (iI i3))]) dX2_drop_60 rfl (by decide) rfl ?_
        refine tn_iinc (q0 := 4) (L' := [(3, .int (iI (i3 + 1))), (2, .int (iI (i2 + 1))), (4, .int (iI v35)), (0, .ref a), (1, .ref rx1)]) dX2_drop_63 rfl (by decide) rfl ?_
        refine tn_goto (tgt := 12) dX2_drop_66 (by decide) ?_
        have em75 : σ66.2.1 6 rx1 = σ.2.1 6 rx1 - 1 := by rw [show σ66.2.1 6 rx1 = σ56.2.1 6 rx1 from rc_F F74 (Or.inl (by decide)) (by decide) (rfl)]; exact f60
        have ds76 := hD.step (f33.resolve_left (fun q => absurd q.1 (by omega))) f50 f51 f61 (by have y := f70; rw [f60] at y; exact y) (by have y := f71; rw [f60] at y; exact y)
        exact tn_sub [3, 4, 1, 0] rfl (ih _ (by omega) (i2 + 1) (i3 + 1) σ66 w73 (((((FrC.rfl.trans (FrC.sub hF (by decide))).trans (FrC.sub F26 (by decide))).trans (FrC.sub F54 (by decide))).trans (FrC.sub F64 (by decide))).trans (FrC.sub F74 (by decide))) (by omega) (by omega) ((((hC.trans (CHX.sub f22 (by simp) (by simp) (by simp))).trans (CHX.sub f49 (by simp) (by simp) (by simp))).trans (CHX.sub f59 (by simp) (by simp) (by simp))).trans (CHX.sub f69 (by simp) (by simp) (by simp))) (by rw [em75]; exact ds76) (by have z := f60; rw [show σ66.2.1 6 rx1 = σ56.2.1 6 rx1 from rc_F F74 (Or.inl (by decide)) (by decide) (rfl)]; omega) rfl)
      · have em77 : σ19.2.1 6 rx1 = σ.2.1 6 rx1 := rc_F F26 (Or.inl (by decide)) (by decide) (rfl)
        have ew78 : cW σ19 x (σ19.2.1 6 rx1) = cW σ x (σ.2.1 6 rx1) := by first | (rw [em77]; done) | (rw [em77]; exact cv27)
        have em79 : σ19.2.1 6 rx1 = σ.2.1 6 rx1 := rc_F F26 (Or.inl (by decide)) (by decide) (rfl)
        have ew80 : cW σ19 x (σ19.2.1 6 rx1) = cW σ x (σ.2.1 6 rx1) := by first | (rw [em79]; done) | (rw [em79]; exact cv27)
        have em81 : σ19.2.1 6 rx1 = σ.2.1 6 rx1 := rc_F F26 (Or.inl (by decide)) (by decide) (rfl)
        have ew82 : cW σ19 x (σ19.2.1 6 rx1) = cW σ x (σ.2.1 6 rx1) := by first | (rw [em81]; done) | (rw [em81]; exact cv27)
        exact tn_sub [1, 2, 3, 4] rfl (hx_40 (i2) (i3) σ19 w25 ((FrC.rfl.trans (FrC.sub hF (by decide))).trans (FrC.sub F26 (by decide))) (by omega) (by omega) (hC.trans (CHX.sub f22 (by simp) (by simp) (by simp))) (by have z := hD; rw [← ew78, ← em77] at z; exact z) (by rw [em79]; omega) (by have z := (f33.resolve_right (fun q => by have z := q.1; omega)).2; rw [← ew82, ← em81] at z; exact z))
set_option maxHeartbeats 1000000 in
set_option maxRecDepth 20000 in
theorem k_X2_drop_x (d : Nat) {T : CT} {σ : MS} {a : Nat} {p1 : Nat} {x : Nat} {n : Int} {W : Int → It} {fl : Nat} {xa : Nat} {xo : Nat} {xs : Nat} {xt : Nat} (ha : OB T a 2) (h_p1 : OB T p1 1) (t_p1 : (T p1).1 = 50) (hw : WT T σ) (hx : σ.2.1 5 p1 = (x : Int)) (hn : σ.2.1 6 p1 = n) (hW : cW σ x n = W) (hfl : σ.2.1 17 a = (fl : Int)) (hxa : σ.2.1 18 fl = (xa : Int)) (hxo : σ.2.1 19 fl = (xo : Int)) (hxs : σ.2.1 20 fl = (xs : Int)) (hxt : σ.2.1 21 fl = (xt : Int)) (hN : n ≤ 200) (hne : xs ≠ xt ∧ x ≠ xs ∧ x ≠ xt ∧ xa ≠ xo) (hwok : WOK W n) (hmok : MOK W n) (hLk : LNK W n) (hU : UNQ (vW W) n) : Tn (d + 6) m_X2_drop 0 T σ [(0, .ref a), (1, .ref p1)] [] (fun ro T2 σ2 => ∃ v : Int, ro = some (.int (iI v)) ∧ T = T2 ∧ WT T2 σ2 ∧ FrC T [6, 22] σ σ2 ∧ (-2147483648 ≤ v ∧ v ≤ 2147483647) ∧ (CHX [(22, fl), (6, p1)] [x, xs, xt] [xa, xo] σ σ2) ∧ (DRX (vW W) n (vW (cW σ2 x (σ2.2.1 6 p1))) (σ2.2.1 6 p1) v) ∧ (WOK (cW σ2 x (σ2.2.1 6 p1)) (σ2.2.1 6 p1) ∧ MOK (cW σ2 x (σ2.2.1 6 p1)) (σ2.2.1 6 p1)) ∧ (0 ≤ σ2.2.1 6 p1 ∧ σ2.2.1 6 p1 ≤ 200)) := by
  have h6 := wf_6 hw h_p1
  refine tn_aload_n dX2_drop_0 rfl 0 rfl ?_
  refine tn_aload_n dX2_drop_1 rfl 1 rfl ?_
  obtain ⟨hl4, hk3a, hk3b⟩ := cel_of (wf_5 hw h_p1) hx
  have hk3 : (T x).1 = 1 := hk3a (by omega)
  clear hk3a hk3b
  have hk3i : IA T x := by unfold IA; omega
  have hk7 : (T fl).1 = 33 := ob_of (wf_17 hw ha) hfl
  have hk7o : OB T fl 3 := ⟨by omega, by rw [hk7]; rfl, by omega⟩
  obtain ⟨hk11, hl12⟩ : AR T xs 1 201 201 := ar_of (wf_20 hw hk7o) hxs
  have hk11i : IA T xs := by unfold IA; omega
  obtain ⟨hk15, hl16⟩ : AR T xt 1 201 201 := ar_of (wf_21 hw hk7o) hxt
  have hk15i : IA T xt := by unfold IA; omega
  refine tn_callV (M := m_X2_drop) (pc := 2) (ix := 15) (ci := 2) (M' := m_X2_dropUnreached) (As := [.ref p1]) (rest := []) dX2_drop_2 ok_X2_dropUnreached im_X2_dropUnreached se_X2_dropUnreached ml2_15 np_X2_dropUnreached rfl rfl ha rfl (Nat.le_of_ble_eq_true rfl) (Nat.le_of_ble_eq_true rfl) rfl (k_X2_dropUnreached_x (d) (T := T) (σ := σ) (a := a) (p1 := p1) (x := x) (n := n) (W := W) (fl := fl) (xs := xs) (xt := xt) ha h_p1 t_p1 hw (hx) (hn) hW (hfl) (hxs) (hxt) (by omega) (by omega) (by omega) (by omega) (by omega) (by omega)) (fun r17 T19 σ18 gt20 hp => ?_)
  obtain ⟨v26, rfl, rfl, w27, F28, f21, f22, f23, f24, f25⟩ := hp
  clear gt20
  show Tn _ _ 5 T σ18 [(0, .ref a), (1, .ref p1)] [.int (iI v26)] _
  refine tn_istore_n (L' := [(2, .int (iI v26)), (0, .ref a), (1, .ref p1)]) dX2_drop_5 rfl (by decide) rfl ?_
  refine tn_aload_n dX2_drop_6 rfl 2 rfl ?_
  refine tn_callV (M := m_X2_drop) (pc := 7) (ix := 19) (ci := 1) (M' := m_X1_link) (As := []) (rest := []) dX2_drop_7 ok_X1_link im_X1_link se_X1_link ml2_19 np_X1_link rfl rfl h_p1 rfl (Nat.le_of_ble_eq_true rfl) (Nat.le_of_ble_eq_true rfl) rfl (k_X1_link_x (d + 2) (T := T) (σ := σ18) (a := p1) (x := x) (n := σ18.2.1 6 p1) (W := cW σ18 x (σ18.2.1 6 p1)) h_p1 w27 (rc_F F28 (Or.inl (by decide)) (by decide) (hx)) (rfl) rfl (by omega)) (fun r29 T31 σ30 gt32 hp => ?_)
  obtain ⟨rfl, rfl, w37, F38, f33, f34, f35⟩ := hp
  clear gt32
  show Tn _ _ 10 T σ30 [(2, .int (iI v26)), (0, .ref a), (1, .ref p1)] [] _
  refine tn_iconst dX2_drop_10 ?_
  refine tn_istore_n (L' := [(3, .int (iI 0)), (2, .int (iI v26)), (0, .ref a), (1, .ref p1)]) dX2_drop_11 rfl (by decide) rfl ?_
  have em39 : σ30.2.1 6 p1 = σ18.2.1 6 p1 := rc_F F38 (Or.inl (by decide)) (by decide) (rfl)
  have dz40 : DRI (dr1 (vW W) n n.toNat).2.2 (dr1 (vW W) n n.toNat).1 (cW σ30 x (σ30.2.1 6 p1)) (σ30.2.1 6 p1) 0 := by rw [em39, f23]; exact ⟨by decide, ⟨f34.vw, rfl⟩, f34.wok f24.1, f34.mok f24.2, f35, by rw [f34.vw]; have y := hU.dr1 (by omega); rw [f23] at y; exact y, by omega⟩
  refine tn_sub [2, 3, 1, 0] rfl (l_X2_drop_x_12 (d) (T := T) (σ0 := σ30) (a := a) (rx1 := p1) (x := x) (n := n) (W := W) (fl := fl) (xa := xa) (xo := xo) (xs := xs) (xt := xt) (V1 := (dr1 (vW W) n n.toNat).2.2) (n1 := (dr1 (vW W) n n.toNat).1) (w0 := v26) ha h_p1 t_p1 w37 (by rw [f23]) (by rw [f23]; show _ ≤ _; omega) (rc_F F38 (Or.inl (by decide)) (by decide) (rc_F F28 (Or.inl (by decide)) (by decide) (hx))) (rc_F F38 (Or.inl (by decide)) (by decide) (rc_F F28 (Or.inl (by decide)) (by decide) (hfl))) (rc_F F38 (Or.inl (by decide)) (by decide) (rc_F F28 (Or.inl (by decide)) (by decide) (hxa))) (rc_F F38 (Or.inl (by decide)) (by decide) (rc_F F28 (Or.inl (by decide)) (by decide) (hxo))) (rc_F F38 (Or.inl (by decide)) (by decide) (rc_F F28 (Or.inl (by decide)) (by decide) (hxs))) (rc_F F38 (Or.inl (by decide)) (by decide) (rc_F F28 (Or.inl (by decide)) (by decide) (hxt))) hN hne (fun i241 i342 σ43 w46 F47 r48 r49 f50 f51 f52 f53 => ?_) (fun i254 i355 σ56 w59 F60 r61 r62 f63 f64 f65 f66 => ?_) _ (v26) (0) σ30 w37 FrC.rfl (by omega) (by omega) CHX.rfl dz40 (by rw [em39]; omega) rfl)
  · show Tn _ _ 40 T σ43 [(0, .ref a), (1, .ref p1), (2, .int (iI i241)), (3, .int (iI i342))] [] _
    refine tn_goto (tgt := 69) dX2_drop_40 (by decide) ?_
    refine tn_iload_n dX2_drop_69 rfl 2 rfl ?_
    exact tn_iret rfl dX2_drop_70 ⟨_, rfl, rfl, w46, (((FrC.rfl.trans (FrC.sub F28 (by decide))).trans (FrC.sub F38 (by decide))).trans (FrC.sub F47 (by decide))), by omega, (((CHX.rfl.trans (CHX.sub f22 (by simp) (by simp) (by simp))).trans (CHX.sub f33 (by simp) (by simp) (by simp))).trans (CHX.sub f50 (by simp) (by simp) (by simp))), (dp_end f51 f53 (by have z := congrArg (fun y => y.2.1) f23; dsimp only at z; omega)), ⟨f51.2.2.1, f51.2.2.2.1⟩, (by have z := f52; omega)⟩
  · show Tn _ _ 69 T σ56 [(0, .ref a), (1, .ref p1), (2, .int (iI i254)), (3, .int (iI i355))] [] _
    refine tn_iload_n dX2_drop_69 rfl 2 rfl ?_
    exact tn_iret rfl dX2_drop_70 ⟨_, rfl, rfl, w59, (((FrC.rfl.trans (FrC.sub F28 (by decide))).trans (FrC.sub F38 (by decide))).trans (FrC.sub F60 (by decide))), by omega, (((CHX.rfl.trans (CHX.sub f22 (by simp) (by simp) (by simp))).trans (CHX.sub f33 (by simp) (by simp) (by simp))).trans (CHX.sub f63 (by simp) (by simp) (by simp))), (dp_end f64 f66 (by have z := congrArg (fun y => y.2.1) f23; dsimp only at z; omega)), ⟨f64.2.2.1, f64.2.2.2.1⟩, (by have z := f65; omega)⟩
end
section
def UBQ (S : Int → Prop) (v : Int) : Prop := -1 ≤ v ∧ (∀ g, S g → g ≤ v) ∧ (v = -1 ∨ S v)
section UBS
variable {S T : Int → Prop} {v w z : Int}
theorem UBQ.nil (h : ∀ g, ¬ S g) : UBQ S (-1) := ⟨by decide, fun g q => absurd q (h g), Or.inl rfl⟩
theorem UBQ.or (h : UBQ S v) (g : UBQ T w) (e : z = (if v < w then w else v)) : UBQ (fun x => S x ∨ T x) z := by
  obtain ⟨h0, h1, h2⟩ := h
  obtain ⟨g0, g1, g2⟩ := g
  by_cases c : v < w
  · rw [if_pos c] at e
    rw [e]
    exact ⟨g0, fun x q => q.elim (fun y => by have := h1 x y; omega) (g1 x), g2.imp id Or.inr⟩
  · rw [if_neg c] at e
    rw [e]
    exact ⟨h0, fun x q => q.elim (h1 x) (fun y => by have := g1 x y; omega), h2.imp id Or.inl⟩
theorem UBQ.one {x : Int} (h : UBQ S v) (hx : -1 ≤ x) (e : z = (if v < x then x else v)) : UBQ (fun y => S y ∨ y = x) z := h.or (T := fun y => y = x) ⟨hx, fun g q => by omega, Or.inr rfl⟩ e
theorem UBQ.c (h : UBQ S v) (e : ∀ g, S g ↔ T g) : UBQ T v := ⟨h.1, fun g q => h.2.1 g ((e g).mpr q), h.2.2.imp id (e v).mp⟩
end UBS
def GIS (W : Int → It) (k : Int) (g : Int) : Prop := wrT (vW W k) g ∨ rdI (vW W k) g
def GIP (W : Int → It) (k m g : Int) : Prop := wrT (W k) g ∨ ∃ j, 0 ≤ j ∧ j < m ∧ W k (3 + 2 * j) = 2 ∧ W k (4 + 2 * j) = g
section GIS
variable {W : Int → It} {n k m v c r : Int}
theorem wb_ub (hw : iOK (W k)) (hk : 0 ≤ k ∧ k < n) (h : WBQ W n k r) : UBQ (GIP W k 0) r := by
  have q := fun g => wb_wr (g := g) hw hk h
  have e : ∀ g, GIP W k 0 g ↔ (g = r ∧ 0 ≤ r ∧ r < 192) := fun g => ⟨fun y => y.elim (q g).mpr (fun ⟨j, a, b, _⟩ => by omega), fun y => Or.inl ((q g).mp y)⟩
  unfold WBQ at h
  have w2 := hw.2.1
  have w1 := hw.1
  rcases h with ⟨a, b, d⟩ | ⟨a, b⟩
  · exact ⟨by omega, fun g y => by have := (e g).mp y; omega, Or.inr ((e r).mpr ⟨rfl, by omega⟩)⟩
  · exact ⟨by omega, fun g y => by have := (e g).mp y; omega, Or.inl b⟩
theorem GIP.no (h : UBQ (GIP W k m) v) (q : W k (3 + 2 * m) ≠ 2) : UBQ (GIP W k (m + 1)) v := h.c (fun g => ⟨fun y => y.imp id (fun ⟨j, a, b, e⟩ => ⟨j, a, by omega, e⟩), fun y => y.imp id (fun ⟨j, a, b, e⟩ => ⟨j, a, by
  by_cases u : j = m
  · rw [u] at e; exact absurd e.1 q
  · omega, e⟩)⟩)
theorem GIP.yes {x z : Int} (h : UBQ (GIP W k m) v) (hm : 0 ≤ m) (q : W k (3 + 2 * m) = 2) (hx : x = W k (4 + 2 * m)) (x0 : 0 ≤ x) (e : z = (if v < x then x else v)) : UBQ (GIP W k (m + 1)) z := (h.one (by omega) e).c (fun g => ⟨fun y => by
  rcases y with (y | ⟨j, a, b, e⟩) | y
  · exact Or.inl y
  · exact Or.inr ⟨j, a, by omega, e⟩
  · exact Or.inr ⟨m, hm, by omega, q, by rw [y, hx]⟩, fun y => by
  rcases y with y | ⟨j, a, b, e⟩
  · exact Or.inl (Or.inl y)
  · by_cases u : j = m
    · rw [u] at e; exact Or.inr (by rw [hx]; exact e.2.symm)
    · exact Or.inl (Or.inr ⟨j, a, by omega, e⟩)⟩)
theorem GIS.of (h : UBQ (GIP W k 4) v) (hw : iOK (W k)) (hb : ¬ (W k 0 = 12 ∧ W k 11 = 2)) : UBQ (GIS W k) v := h.c (fun g => by
  unfold GIP GIS
  rw [wrT_v]
  have e : rdI (vW W k) g ↔ rdI (W k) g := by
    by_cases c : W k 0 = 12
    · rw [rdI_iff, rdI_iff, vW_ne (c := 4) (by decide) (by decide), vW_ne (c := 5) (by decide) (by decide), vW_ne (c := 6) (by decide) (by decide), vW_ne (c := 7) (by decide) (by decide), vW_ne (c := 8) (by decide) (by decide), vW_ne (c := 9) (by decide) (by decide), vW_ne (c := 10) (by decide) (by decide)]
      by_cases d : W k 11 = 1
      · have z := hw.2.2.2.2 c (Or.inl d)
        have e3 : vW W k 3 = 1 := by show nrm (W k) 3 = 1; rw [nrm_b c (Or.inl d)]; exact d
        rw [e3, z.1]
        exact ⟨fun y => y.elim (fun y => absurd y.1 (by decide)) Or.inr, fun y => y.elim (fun y => absurd y.1 (by decide)) Or.inr⟩
      · have e3 : vW W k 3 = W k 3 := by
          show nrm (W k) 3 = _
          unfold nrm
          rw [if_neg (fun q => q.2.2.elim d (fun y => hb ⟨c, y⟩)), if_neg (by decide)]
        rw [e3]
    · exact rdI_v c
  rw [e]
  exact Iff.rfl)
theorem GIS.reg (hw : iOK (W k)) (hb : W k 0 = 12 ∧ W k 11 = 2) (hv : v = W k 4) : UBQ (GIS W k) v := by
  have z := hw.2.2.2.2 hb.1 (Or.inr hb.2)
  have z7 := hw.2.2.2.1 (by omega)
  have e3 : vW W k 3 = 2 := by show nrm (W k) 3 = 2; rw [nrm_b hb.1 (Or.inr hb.2)]; exact hb.2
  have e : ∀ g, GIS W k g ↔ g = v := fun g => by
    unfold GIS
    rw [wrT_v, rdI_iff, e3, vW_ne (c := 4) (by decide) (by decide), vW_ne (c := 5) (by decide) (by decide), vW_ne (c := 7) (by decide) (by decide), vW_ne (c := 9) (by decide) (by decide)]
    constructor
    · rintro (y | y | y | y | y)
      · have := y.1; omega
      · omega
      · have := y.1; omega
      · exact absurd y.1 z7.1
      · exact absurd y.1 z7.2
    · intro y
      exact Or.inr (Or.inl ⟨rfl, by omega⟩)
  exact ⟨by have := z.2.2.2 hb.2; omega, fun g y => by have := (e g).mp y; omega, Or.inr ((e v).mpr rfl)⟩
end GIS
def HMP (Rn Rh : Int → Int) (f m g : Int) : Prop := (∃ i, 0 ≤ i ∧ i < f ∧ ∃ j, 0 ≤ j ∧ j < Rn i ∧ Rh (12 * i + j) = g) ∨ ∃ j, 0 ≤ j ∧ j < m ∧ Rh (12 * f + j) = g
def ITP (H : Int → Prop) (W : Int → It) (k g : Int) : Prop := H g ∨ ∃ i, 0 ≤ i ∧ i < k ∧ GIS W i g
section RGQ
variable {Rn Rh : Int → Int} {F f m v x z n k : Int} {W : Int → It} {H : Int → Prop}
theorem HMP.nil : ∀ g, ¬ HMP Rn Rh 0 0 g := fun g q => q.elim (fun ⟨i, a, b, _⟩ => by omega) (fun ⟨j, a, b, _⟩ => by omega)
theorem HMP.more (h : UBQ (HMP Rn Rh f m) v) (hm : 0 ≤ m) (hx : x = Rh (12 * f + m)) (x0 : 0 ≤ x) (e : z = (if v < x then x else v)) : UBQ (HMP Rn Rh f (m + 1)) z := (h.one (by omega) e).c (fun g => ⟨fun y => by
  rcases y with (y | ⟨j, a, b, c⟩) | y
  · exact Or.inl y
  · exact Or.inr ⟨j, a, by omega, c⟩
  · exact Or.inr ⟨m, hm, by omega, by rw [y, hx]⟩, fun y => by
  rcases y with y | ⟨j, a, b, c⟩
  · exact Or.inl (Or.inl y)
  · by_cases u : j = m
    · rw [u] at c; exact Or.inr (by rw [hx]; exact c.symm)
    · exact Or.inl (Or.inr ⟨j, a, by omega, c⟩)⟩)
theorem HMP.next (h : UBQ (HMP Rn Rh f m) v) (h0 : 0 ≤ f) (q : Rn f ≤ m) (q2 : m ≤ Rn f ∨ m = 0) : UBQ (HMP Rn Rh (f + 1) 0) v := h.c (fun g => ⟨fun y => by
  rcases y with ⟨i, a, b, c⟩ | ⟨j, a, b, c⟩
  · exact Or.inl ⟨i, a, by omega, c⟩
  · exact Or.inl ⟨f, h0, by omega, j, a, by omega, c⟩, fun y => by
  rcases y with ⟨i, a, b, j, c, d, e⟩ | ⟨j, a, b, c⟩
  · by_cases u : i = f
    · subst u; exact Or.inr ⟨j, c, by omega, e⟩
    · exact Or.inl ⟨i, a, by omega, j, c, d, e⟩
  · omega⟩)
theorem ITP.start (h : UBQ (HMP Rn Rh f 0) v) (e : f = F) : UBQ (ITP (hmC F Rn Rh) W 0) v := h.c (fun g => by
  subst e
  unfold ITP HMP hmC
  exact ⟨fun y => y.elim Or.inl (fun ⟨j, a, b, _⟩ => by omega), fun y => y.elim Or.inl (fun ⟨j, a, b, _⟩ => by omega)⟩)
theorem ITP.step (h : UBQ (ITP H W k) v) (hk : 0 ≤ k) (g : UBQ (GIS W k) x) (e : z = (if v < x then x else v)) : UBQ (ITP H W (k + 1)) z := (h.or g e).c (fun g => ⟨fun y => by
  rcases y with (y | ⟨i, a, b, c⟩) | y
  · exact Or.inl y
  · exact Or.inr ⟨i, a, by omega, c⟩
  · exact Or.inr ⟨k, hk, by omega, y⟩, fun y => by
  rcases y with y | ⟨i, a, b, c⟩
  · exact Or.inl (Or.inl y)
  · by_cases u : i = k
    · subst u; exact Or.inr c
    · exact Or.inl (Or.inr ⟨i, a, by omega, c⟩)⟩)
theorem ITP.fin (h : UBQ (ITP H W k) v) (e : k = n) : mxV (rgV (vW W) n H) (v + 1) := by
  subst e
  obtain ⟨h0, h1, h2⟩ := h
  refine ⟨by omega, ⟨fun g q => by have := h1 g (Or.inl q); omega, fun i a b g q => by have := h1 g (Or.inr ⟨i, a, b, q⟩); omega⟩, fun B b0 q => ?_⟩
  rcases h2 with y | y
  · omega
  · rcases y with y | ⟨i, a, b, c⟩
    · have := q.1 v y; omega
    · have := q.2 i a b v c; omega
end RGQ
def LBS (W : Int → It) (k g : Int) : Prop := ∃ i, 0 ≤ i ∧ i < k ∧ (W i 0 = 8 ∨ W i 0 = 9 ∨ W i 0 = 13) ∧ W i 1 = g
theorem LBS.no {W : Int → It} {k v : Int} (h : UBQ (LBS W k) v) (q : ¬ (W k 0 = 8 ∨ W k 0 = 9 ∨ W k 0 = 13)) : UBQ (LBS W (k + 1)) v := h.c (fun g => ⟨fun ⟨i, a, b, c⟩ => ⟨i, a, by omega, c⟩, fun ⟨i, a, b, c⟩ => ⟨i, a, by
  by_cases u : i = k
  · subst u; exact absurd c.1 q
  · omega, c⟩⟩)
theorem LBS.yes {W : Int → It} {k v x z : Int} (h : UBQ (LBS W k) v) (hk : 0 ≤ k) (q : W k 0 = 8 ∨ W k 0 = 9 ∨ W k 0 = 13) (hx : x = W k 1) (x0 : 0 ≤ x) (e : z = (if v < x then x else v)) : UBQ (LBS W (k + 1)) z := (h.one (by omega) e).c (fun g => ⟨fun y => by
  rcases y with ⟨i, a, b, c⟩ | y
  · exact ⟨i, a, by omega, c⟩
  · exact ⟨k, hk, by omega, q, by rw [y, hx]⟩, fun ⟨i, a, b, c⟩ => by
  by_cases u : i = k
  · subst u; exact Or.inr (by rw [hx]; exact c.2.symm)
  · exact Or.inl ⟨i, a, by omega, c⟩⟩)
theorem LBS.fin {W : Int → It} {k n v : Int} (h : UBQ (LBS W k) v) (e : k = n) : mxV (lbV (vW W) n) (v + 1) := by
  subst e
  obtain ⟨h0, h1, h2⟩ := h
  refine ⟨by omega, fun i a b c => by rw [vW_0] at c; rw [vW_1]; have := h1 _ ⟨i, a, b, c, rfl⟩; omega, fun B b0 q => ?_⟩
  rcases h2 with y | ⟨i, a, b, c, d⟩
  · omega
  · have := q i a b (by rw [vW_0]; exact c); rw [vW_1] at this; omega
end
section
def GIV (W : Int → It) (k c v : Int) : Prop := ∃ m, c = 3 + 2 * m ∧ 0 ≤ m ∧ m ≤ 4 ∧ UBQ (GIP W k m) v
theorem GIV.fin {W : Int → It} {k c v : Int} (h : GIV W k c v) (hc : 11 ≤ c) : UBQ (GIP W k 4) v := by
  obtain ⟨m, a, b, d, e⟩ := h
  have : m = 4 := by omega
  subst this
  exact e
theorem gis_lt {W : Int → It} {k v : Int} (h : UBQ (GIS W k) v) (hw : iOK (W k)) : v ≤ 191 := by
  rcases h.2.2 with q | q
  · omega
  · rcases q with q | q
    · rw [wrT_v] at q
      have := hw.2.1 q.1
      have := q.2
      omega
    · by_cases c : W k 0 = 12 ∧ W k 11 = 2
      · have z := hw.2.2.2.2 c.1 (Or.inr c.2)
        have r := GIS.reg hw c rfl
        have := r.2.1 v (Or.inr q)
        have := z.2.2.2 c.2
        omega
      · have o : ∀ x, rdI (W k) x → x < 192 := fun x y => by
          obtain ⟨j, a, b, d, e⟩ := y
          have := (hw.2.2.1 j a b).2 d
          omega
        rcases rdI_iff.mp q with y | y | y | y
        · rw [vW_ne (c := 4) (by decide) (by decide)] at y
          by_cases d : W k 0 = 12
          · by_cases e : W k 11 = 1
            · have e3 : vW W k 3 = 1 := by show nrm (W k) 3 = 1; rw [nrm_b d (Or.inl e)]; exact e
              omega
            · have e3 : vW W k 3 = W k 3 := by
                show nrm (W k) 3 = _
                unfold nrm
                rw [if_neg (fun q => q.2.2.elim e (fun y => c ⟨d, y⟩)), if_neg (by decide)]
              have := o v (rdI_iff.mpr (Or.inl ⟨by rw [← e3]; exact y.1, y.2⟩)); omega
          · have := o v (rdI_iff.mpr (Or.inl ⟨by rw [← vW_3 d]; exact y.1, y.2⟩)); omega
        · rw [vW_ne (c := 5) (by decide) (by decide), vW_ne (c := 6) (by decide) (by decide)] at y
          have := o v (rdI_iff.mpr (Or.inr (Or.inl y))); omega
        · rw [vW_ne (c := 7) (by decide) (by decide), vW_ne (c := 8) (by decide) (by decide)] at y
          have := o v (rdI_iff.mpr (Or.inr (Or.inr (Or.inl y)))); omega
        · rw [vW_ne (c := 9) (by decide) (by decide), vW_ne (c := 10) (by decide) (by decide)] at y
          have := o v (rdI_iff.mpr (Or.inr (Or.inr (Or.inr y)))); omega
set_option maxHeartbeats 1000000 in
set_option maxRecDepth 20000 in
theorem l_X1_greatestIn_x_37 (d : Nat) {T : CT} {σ : MS} {a : Nat} {c1 : Int} {x : Nat} {n : Int} {W : Int → It} {post : Option Value → CT → MS → Prop} (h_a : OB T a 1) (r_c1 : -2147483648 ≤ c1 ∧ c1 ≤ 2147483647) (hw : WT T σ) (hk : 0 ≤ c1 ∧ c1 < n) (hx : σ.2.1 5 a = (x : Int)) (hn : σ.2.1 6 a = n) (hW : cW σ x n = W) (hN : n ≤ 200) (hwok : WOK W n) (hx_72 : ∀ (i2 : Int) (i3 : Int) , (-2147483648 ≤ i2 ∧ i2 ≤ 2147483647) → (3 ≤ i3 ∧ i3 ≤ 11) → (GIV W c1 i3 i2) → (11 ≤ i3) → Tn (d + 3) m_X1_greatestIn 72 T σ [(0, .ref a), (1, .int (iI c1)), (2, .int (iI i2)), (3, .int (iI i3))] [] post) : ∀ (nq9 : Nat) (i2 : Int) (i3 : Int) , (-2147483648 ≤ i2 ∧ i2 ≤ 2147483647) → (3 ≤ i3 ∧ i3 ≤ 11) → (GIV W c1 i3 i2) → (2147483700 - i3).toNat = nq9 → Tn (d + 3) m_X1_greatestIn 37 T σ [(0, .ref a), (1, .int (iI c1)), (2, .int (iI i2)), (3, .int (iI i3))] [] post := by
  intro nq9
  induction nq9 using Nat.strongRecOn with
  | _ nq9 ih =>
    intro i2 i3 r_i2 r_i3 hG hm
    obtain ⟨mG, hG2, hG3, hG4, hG5⟩ := id hG
    refine tn_iload_n dX1_greatestIn_37 rfl 3 rfl ?_
    refine tn_bipush dX1_greatestIn_38 (by decide) ?_
    refine tn_icmp_ge (tgt := 72) dX1_greatestIn_40 (by decide) ⟨by omega, by omega⟩ ⟨by decide, by decide⟩ (fun h1 => ?_) (fun h1 => ?_)
    · exact tn_sub [0, 1, 2, 3] rfl (hx_72 (i2) (i3) (by omega) (by omega) hG (by omega))
    · refine tn_aload_n dX1_greatestIn_43 rfl 0 rfl ?_
      refine tn_iload_n dX1_greatestIn_44 rfl 1 rfl ?_
      refine tn_iload_n dX1_greatestIn_45 rfl 3 rfl ?_
      obtain ⟨hl5, hk4a, hk4b⟩ := cel_of (wf_5 hw h_a) hx
      have hk4i : IA T x := by unfold IA; omega
      have hk4c : CELL T a x := ⟨hk4a, hk4b⟩
      clear hk4a hk4b
      refine tn_callV (M := m_X1_greatestIn) (pc := 46) (ix := 86) (ci := 1) (M' := m_X1_get) (As := [.int (iI c1), .int (iI i3)]) (rest := []) dX1_greatestIn_46 ok_X1_get im_X1_get se_X1_get ml1_86 np_X1_get rfl rfl h_a rfl (Nat.le_of_ble_eq_true rfl) (Nat.le_of_ble_eq_true rfl) rfl (k_X1_get_x (d + 1) (T := T) (σ := σ) (a := a) (k := c1) (c := i3) (x := x) (n := n) (W := W) h_a (by omega) (by omega) hw (hx) (hn) hW (by omega) (by omega)) (fun r6 T8 σ7 gt9 hp => ?_)
      obtain ⟨v12, rfl, rfl, rfl, f10, f11⟩ := hp
      clear gt9
      show Tn _ _ 49 T σ [(0, .ref a), (1, .int (iI c1)), (2, .int (iI i2)), (3, .int (iI i3))] [.int (iI v12)] _
      refine tn_iconst dX1_greatestIn_49 ?_
      refine tn_icmp_ne (tgt := 66) dX1_greatestIn_50 (by decide) ⟨by omega, by omega⟩ ⟨by decide, by decide⟩ (fun h13 => ?_) (fun h13 => ?_)
      · refine tn_iinc (q0 := 3) (L' := [(3, .int (iI (i3 + 2))), (0, .ref a), (1, .int (iI c1)), (2, .int (iI i2))]) dX1_greatestIn_66 rfl (by decide) rfl ?_
        refine tn_goto (tgt := 37) dX1_greatestIn_69 (by decide) ?_
        exact tn_sub [1, 2, 3, 0] rfl (ih _ (by omega) (i2) (i3 + 2) (by omega) (by omega) ⟨mG + 1, by omega, by omega, by omega, GIP.no hG5 (by rw [← hG2]; omega)⟩ rfl)
      · refine tn_iload_n dX1_greatestIn_53 rfl 2 rfl ?_
        refine tn_aload_n dX1_greatestIn_54 rfl 0 rfl ?_
        refine tn_iload_n dX1_greatestIn_55 rfl 1 rfl ?_
        refine tn_iload_n dX1_greatestIn_56 rfl 3 rfl ?_
        refine tn_iconst dX1_greatestIn_57 ?_
        refine tn_iadd dX1_greatestIn_58 ?_
        refine tn_callV (M := m_X1_greatestIn) (pc := 59) (ix := 86) (ci := 1) (M' := m_X1_get) (As := [.int (iI c1), .int (iI (i3 + 1))]) (rest := [.int (iI i2)]) dX1_greatestIn_59 ok_X1_get im_X1_get se_X1_get ml1_86 np_X1_get rfl rfl h_a rfl (Nat.le_of_ble_eq_true rfl) (Nat.le_of_ble_eq_true rfl) rfl (k_X1_get_x (d + 1) (T := T) (σ := σ) (a := a) (k := c1) (c := i3 + 1) (x := x) (n := n) (W := W) h_a (by omega) (by omega) hw (hx) (hn) hW (by omega) (by omega)) (fun r14 T16 σ15 gt17 hp => ?_)
        obtain ⟨v20, rfl, rfl, rfl, f18, f19⟩ := hp
        clear gt17
        show Tn _ _ 62 T σ [(0, .ref a), (1, .int (iI c1)), (2, .int (iI i2)), (3, .int (iI i3))] [.int (iI v20), .int (iI i2)] _
        refine tn_mmax (x := i2) (y := v20) dX1_greatestIn_62 mlm1_63 stM_max iniM cdM_max (by omega) (Nat.le_of_ble_eq_true rfl) ⟨by omega, by omega⟩ ⟨by omega, by omega⟩ (fun z21 g22 => ?_)
        refine tn_istore_n (L' := [(2, .int (iI z21)), (0, .ref a), (1, .int (iI c1)), (3, .int (iI i3))]) dX1_greatestIn_65 rfl (by decide) rfl ?_
        refine tn_iinc (q0 := 3) (L' := [(3, .int (iI (i3 + 2))), (2, .int (iI z21)), (0, .ref a), (1, .int (iI c1))]) dX1_greatestIn_66 rfl (by decide) rfl ?_
        refine tn_goto (tgt := 37) dX1_greatestIn_69 (by decide) ?_
        exact tn_sub [2, 3, 1, 0] rfl (ih _ (by omega) (z21) (i3 + 2) (by omega) (by omega) ⟨mG + 1, by omega, by omega, by omega, GIP.yes hG5 (by omega) (by rw [← hG2]; omega) (f19.trans (by rw [show i3 + 1 = 4 + 2 * mG by omega])) (by have z := (hwok c1 hk.1 hk.2).op (c := i3) (by omega); omega) (by omega)⟩ rfl)
set_option maxHeartbeats 1000000 in
set_option maxRecDepth 20000 in
theorem k_X1_greatestIn_x (d : Nat) {T : CT} {σ : MS} {a : Nat} {k : Int} {x : Nat} {n : Int} {W : Int → It} (ha : OB T a 1) (h_k : -2147483648 ≤ k ∧ k ≤ 2147483647) (hw : WT T σ) (hx : σ.2.1 5 a = (x : Int)) (hn : σ.2.1 6 a = n) (hW : cW σ x n = W) (hN : n ≤ 200) (hwok : WOK W n) (hkr : 0 ≤ k ∧ k < n) : Tn (d + 3) m_X1_greatestIn 0 T σ [(0, .ref a), (1, .int (iI k))] [] (fun ro T2 σ2 => ∃ v : Int, ro = some (.int (iI v)) ∧ T = T2 ∧ σ = σ2 ∧ (-2147483648 ≤ v ∧ v ≤ 2147483647) ∧ (UBQ (GIS W k) v) ∧ (-1 ≤ v ∧ v ≤ 191)) := by
  refine tn_aload_n dX1_greatestIn_0 rfl 0 rfl ?_
  refine tn_iload_n dX1_greatestIn_1 rfl 1 rfl ?_
  obtain ⟨hl4, hk3a, hk3b⟩ := cel_of (wf_5 hw ha) hx
  have hk3i : IA T x := by unfold IA; omega
  have hk3c : CELL T a x := ⟨hk3a, hk3b⟩
  clear hk3a hk3b
  refine tn_callV (M := m_X1_greatestIn) (pc := 2) (ix := 116) (ci := 1) (M' := m_X1_writtenBy) (As := [.int (iI k)]) (rest := []) dX1_greatestIn_2 ok_X1_writtenBy im_X1_writtenBy se_X1_writtenBy ml1_116 np_X1_writtenBy rfl rfl ha rfl (Nat.le_of_ble_eq_true rfl) (Nat.le_of_ble_eq_true rfl) rfl (k_X1_writtenBy_x (d) (T := T) (σ := σ) (a := a) (k := k) (x := x) (n := n) (W := W) ha (by omega) hw (hx) (hn) hW (by omega)) (fun r5 T7 σ6 gt8 hp => ?_)
  obtain ⟨v11, rfl, rfl, rfl, f9, f10⟩ := hp
  clear gt8
  show Tn _ _ 5 T σ [(0, .ref a), (1, .int (iI k))] [.int (iI v11)] _
  refine tn_istore_n (L' := [(2, .int (iI v11)), (0, .ref a), (1, .int (iI k))]) dX1_greatestIn_5 rfl (by decide) rfl ?_
  refine tn_aload_n dX1_greatestIn_6 rfl 1 rfl ?_
  refine tn_iload_n dX1_greatestIn_7 rfl 2 rfl ?_
  refine tn_iconst dX1_greatestIn_8 ?_
  refine tn_callV (M := m_X1_greatestIn) (pc := 9) (ix := 86) (ci := 1) (M' := m_X1_get) (As := [.int (iI k), .int (iI 0)]) (rest := []) dX1_greatestIn_9 ok_X1_get im_X1_get se_X1_get ml1_86 np_X1_get rfl rfl ha rfl (Nat.le_of_ble_eq_true rfl) (Nat.le_of_ble_eq_true rfl) rfl (k_X1_get_x (d + 1) (T := T) (σ := σ) (a := a) (k := k) (c := 0) (x := x) (n := n) (W := W) ha (by omega) (by decide) hw (hx) (hn) hW (by omega) (by omega)) (fun r12 T14 σ13 gt15 hp => ?_)
  obtain ⟨v18, rfl, rfl, rfl, f16, f17⟩ := hp
  clear gt15
  show Tn _ _ 12 T σ [(2, .int (iI v11)), (0, .ref a), (1, .int (iI k))] [.int (iI v18)] _
  refine tn_bipush dX1_greatestIn_12 (by decide) ?_
  refine tn_icmp_ne (tgt := 35) dX1_greatestIn_14 (by decide) ⟨by omega, by omega⟩ ⟨by decide, by decide⟩ (fun h19 => ?_) (fun h19 => ?_)
  · refine tn_iconst dX1_greatestIn_35 ?_
    refine tn_istore_n (L' := [(3, .int (iI 3)), (2, .int (iI v11)), (0, .ref a), (1, .int (iI k))]) dX1_greatestIn_36 rfl (by decide) rfl ?_
    refine tn_sub [2, 3, 1, 0] rfl (l_X1_greatestIn_x_37 (d) (T := T) (σ := σ) (a := a) (c1 := k) (x := x) (n := n) (W := (W)) ha (by omega) hw hkr (hx) (hn) hW hN hwok (fun i220 i321 r27 r28 f29 f30 => ?_) _ (v11) (3) (by omega) (by omega) ⟨0, by omega, by omega, by omega, wb_ub (hwok k hkr.1 hkr.2) hkr f10⟩ rfl)
    show Tn _ _ 72 T σ [(0, .ref a), (1, .int (iI k)), (2, .int (iI i220)), (3, .int (iI i321))] [] _
    refine tn_iload_n dX1_greatestIn_72 rfl 2 rfl ?_
    exact tn_iret rfl dX1_greatestIn_73 ⟨_, rfl, rfl, rfl, by omega, (GIS.of (f29.fin (by omega)) (hwok k hkr.1 hkr.2) (by omega)), ⟨((GIS.of (f29.fin (by omega)) (hwok k hkr.1 hkr.2) (by omega))).1, gis_lt (GIS.of (f29.fin (by omega)) (hwok k hkr.1 hkr.2) (by omega)) (hwok k hkr.1 hkr.2)⟩⟩
  · refine tn_aload_n dX1_greatestIn_17 rfl 1 rfl ?_
    refine tn_iload_n dX1_greatestIn_18 rfl 2 rfl ?_
    refine tn_bipush dX1_greatestIn_19 (by decide) ?_
    refine tn_callV (M := m_X1_greatestIn) (pc := 21) (ix := 86) (ci := 1) (M' := m_X1_get) (As := [.int (iI k), .int (iI 11)]) (rest := []) dX1_greatestIn_21 ok_X1_get im_X1_get se_X1_get ml1_86 np_X1_get rfl rfl ha rfl (Nat.le_of_ble_eq_true rfl) (Nat.le_of_ble_eq_true rfl) rfl (k_X1_get_x (d + 1) (T := T) (σ := σ) (a := a) (k := k) (c := 11) (x := x) (n := n) (W := W) ha (by omega) (by decide) hw (hx) (hn) hW (by omega) (by omega)) (fun r31 T33 σ32 gt34 hp => ?_)
    obtain ⟨v37, rfl, rfl, rfl, f35, f36⟩ := hp
    clear gt34
    show Tn _ _ 24 T σ [(2, .int (iI v11)), (0, .ref a), (1, .int (iI k))] [.int (iI v37)] _
    refine tn_iconst dX1_greatestIn_24 ?_
    refine tn_icmp_ne (tgt := 35) dX1_greatestIn_25 (by decide) ⟨by omega, by omega⟩ ⟨by decide, by decide⟩ (fun h38 => ?_) (fun h38 => ?_)
    · refine tn_iconst dX1_greatestIn_35 ?_
      refine tn_istore_n (L' := [(3, .int (iI 3)), (2, .int (iI v11)), (0, .ref a), (1, .int (iI k))]) dX1_greatestIn_36 rfl (by decide) rfl ?_
      refine tn_sub [2, 3, 1, 0] rfl (l_X1_greatestIn_x_37 (d) (T := T) (σ := σ) (a := a) (c1 := k) (x := x) (n := n) (W := (W)) ha (by omega) hw hkr (hx) (hn) hW hN hwok (fun i239 i340 r46 r47 f48 f49 => ?_) _ (v11) (3) (by omega) (by omega) ⟨0, by omega, by omega, by omega, wb_ub (hwok k hkr.1 hkr.2) hkr f10⟩ rfl)
      show Tn _ _ 72 T σ [(0, .ref a), (1, .int (iI k)), (2, .int (iI i239)), (3, .int (iI i340))] [] _
      refine tn_iload_n dX1_greatestIn_72 rfl 2 rfl ?_
      exact tn_iret rfl dX1_greatestIn_73 ⟨_, rfl, rfl, rfl, by omega, (GIS.of (f48.fin (by omega)) (hwok k hkr.1 hkr.2) (by omega)), ⟨((GIS.of (f48.fin (by omega)) (hwok k hkr.1 hkr.2) (by omega))).1, gis_lt (GIS.of (f48.fin (by omega)) (hwok k hkr.1 hkr.2) (by omega)) (hwok k hkr.1 hkr.2)⟩⟩
    · refine tn_aload_n dX1_greatestIn_28 rfl 1 rfl ?_
      refine tn_iload_n dX1_greatestIn_29 rfl 2 rfl ?_
      refine tn_iconst dX1_greatestIn_30 ?_
      refine tn_callV (M := m_X1_greatestIn) (pc := 31) (ix := 86) (ci := 1) (M' := m_X1_get) (As := [.int (iI k), .int (iI 4)]) (rest := []) dX1_greatestIn_31 ok_X1_get im_X1_get se_X1_get ml1_86 np_X1_get rfl rfl ha rfl (Nat.le_of_ble_eq_true rfl) (Nat.le_of_ble_eq_true rfl) rfl (k_X1_get_x (d + 1) (T := T) (σ := σ) (a := a) (k := k) (c := 4) (x := x) (n := n) (W := W) ha (by omega) (by decide) hw (hx) (hn) hW (by omega) (by omega)) (fun r50 T52 σ51 gt53 hp => ?_)
      obtain ⟨v56, rfl, rfl, rfl, f54, f55⟩ := hp
      clear gt53
      show Tn _ _ 34 T σ [(2, .int (iI v11)), (0, .ref a), (1, .int (iI k))] [.int (iI v56)] _
      exact tn_iret rfl dX1_greatestIn_34 ⟨_, rfl, rfl, rfl, by omega, (GIS.reg (hwok k hkr.1 hkr.2) ⟨by omega, by omega⟩ f55), ⟨((GIS.reg (hwok k hkr.1 hkr.2) ⟨by omega, by omega⟩ f55)).1, gis_lt (GIS.reg (hwok k hkr.1 hkr.2) ⟨by omega, by omega⟩ f55) (hwok k hkr.1 hkr.2)⟩⟩
end
section
def HNO (Rn Rh : Int → Int) (F : Int) : Prop := ∀ f m, 0 ≤ f → f < F → 0 ≤ m → m < Rn f → 0 ≤ Rh (12 * f + m) ∧ Rh (12 * f + m) < 192
set_option maxHeartbeats 1000000 in
set_option maxRecDepth 20000 in
theorem l_X1_registers_x_14 (d : Nat) {T : CT} {σ : MS} {a : Nat} {c2 : Int} {x : Nat} {n : Int} {W : Int → It} {Fq : Int} {xn : Nat} {Rn : Int → Int} {xh : Nat} {Rh : Int → Int} {post : Option Value → CT → MS → Prop} (h_a : OB T a 1) (r_c2 : 0 ≤ c2 ∧ c2 ≤ 11) (hw : WT T σ) (h2c : (0 ≤ c2 ∧ c2 < Fq) ∧ Fq ≤ 12) (hx : σ.2.1 5 a = (x : Int)) (hn : σ.2.1 6 a = n) (hW : cW σ x n = W) (hFq : σ.2.1 10 a = Fq) (hxn : σ.2.1 14 a = (xn : Int)) (hRn : σ.2.1 (1000 + xn) = Rn) (hxh : σ.2.1 15 a = (xh : Int)) (hRh : σ.2.1 (1000 + xh) = Rh) (hN : n ≤ 200) (hwok : WOK W n) (hna : HNO Rn Rh Fq) (hx_43 : ∀ (i1 : Int) (i3 : Int) , (-2147483648 ≤ i1 ∧ i1 ≤ 2147483647) → (0 ≤ i3 ∧ i3 ≤ 12) → (True) → (-1 ≤ i1 ∧ i1 ≤ 191) → (UBQ (HMP Rn Rh (c2 + 1) 0) i1) → Tn (d + 4) m_X1_registers 43 T σ [(0, .ref a), (1, .int (iI i1)), (2, .int (iI c2)), (3, .int (iI i3))] [] post) : ∀ (nq9 : Nat) (i1 : Int) (i3 : Int) , (-2147483648 ≤ i1 ∧ i1 ≤ 2147483647) → (0 ≤ i3 ∧ i3 ≤ 12) → (UBQ (HMP Rn Rh c2 i3) i1) → (i3 ≤ 12 ∧ (i3 ≤ Rn c2 ∨ i3 = 0) ∧ -1 ≤ i1 ∧ i1 ≤ 191) → (2147483700 - i3).toNat = nq9 → Tn (d + 4) m_X1_registers 14 T σ [(0, .ref a), (1, .int (iI i1)), (2, .int (iI c2)), (3, .int (iI i3))] [] post := by
  intro nq9
  induction nq9 using Nat.strongRecOn with
  | _ nq9 ih =>
    intro i1 i3 r_i1 r_i3 hI h3 hm
    refine tn_iload_n dX1_registers_14 rfl 3 rfl ?_
    refine tn_aload_n dX1_registers_15 rfl 0 rfl ?_
    obtain ⟨hk3, hl4⟩ : AR T xn 11 12 12 := ar_of (wf_14 hw h_a) hxn
    have hk3i : IA T xn := by unfold IA; omega
    refine tn_getR (ci := 1) (i := 9) (n := 14) (x := xn) dX1_registers_16 rfl lay_1 (by decide) fl1_24 h_a rfl rfl (hxn) ?_
    refine tn_iload_n dX1_registers_19 rfl 2 rfl ?_
    refine tn_callSN (M := m_X1_registers) (pc := 20) (ix := 53) (M' := m_X11_at) (As := [.ref xn, .int (iI c2)]) (rest := [.int (iI i3)]) dX1_registers_20 ok_X11_at stt_X11_at nl1_53 np_X11_at rfl (Nat.le_of_ble_eq_true rfl) (Nat.le_of_ble_eq_true rfl) rfl (k_X11_at_x (d + 2) (T := T) (σ := σ) (x := xn) (i := c2) (R := Rn) hk3i (by omega) (by omega) hw hRn) (fun r5 T7 σ6 gt8 hp => ?_)
    obtain ⟨v12, rfl, rfl, rfl, f9, f10, f11⟩ := hp
    clear gt8
    have f10n := f10.2.1 hk3
    clear f10
    have f11u := f11
    unfold ATQ at f11u
    show Tn _ _ 23 T σ [(0, .ref a), (1, .int (iI i1)), (2, .int (iI c2)), (3, .int (iI i3))] [.int (iI v12), .int (iI i3)] _
    refine tn_icmp_ge (tgt := 43) dX1_registers_23 (by decide) ⟨by omega, by omega⟩ ⟨by omega, by omega⟩ (fun h13 => ?_) (fun h13 => ?_)
    · exact tn_sub [0, 1, 2, 3] rfl (hx_43 (i1) (i3) (by omega) (by omega) True.intro (by omega) (HMP.next hI (by omega) (by have z := f11; unfold ATQ at z; omega) (by omega)))
    · refine tn_iload_n dX1_registers_26 rfl 1 rfl ?_
      refine tn_aload_n dX1_registers_27 rfl 0 rfl ?_
      refine tn_iload_n dX1_registers_28 rfl 2 rfl ?_
      refine tn_iload_n dX1_registers_29 rfl 3 rfl ?_
      obtain ⟨hk16, hl17⟩ : AR T xh 1 144 144 := ar_of (wf_15 hw h_a) hxh
      have hk16i : IA T xh := by unfold IA; omega
      refine tn_callV (M := m_X1_registers) (pc := 30) (ix := 110) (ci := 1) (M' := m_X1_homeOf) (As := [.int (iI c2), .int (iI i3)]) (rest := [.int (iI i1)]) dX1_registers_30 ok_X1_homeOf im_X1_homeOf se_X1_homeOf ml1_110 np_X1_homeOf rfl rfl h_a rfl (Nat.le_of_ble_eq_true rfl) (Nat.le_of_ble_eq_true rfl) rfl (k_X1_homeOf_x (d + 1) (T := T) (σ := σ) (a := a) (f := c2) (m := i3) (xh := xh) (Rh := Rh) h_a (by omega) (by omega) hw (hxh) hRh (by omega)) (fun r18 T20 σ19 gt21 hp => ?_)
      obtain ⟨v24, rfl, rfl, rfl, f22, f23⟩ := hp
      clear gt21
      show Tn _ _ 33 T σ [(0, .ref a), (1, .int (iI i1)), (2, .int (iI c2)), (3, .int (iI i3))] [.int (iI v24), .int (iI i1)] _
      refine tn_mmax (x := i1) (y := v24) dX1_registers_33 mlm1_63 stM_max iniM cdM_max (by omega) (Nat.le_of_ble_eq_true rfl) ⟨by omega, by omega⟩ ⟨by omega, by omega⟩ (fun z25 g26 => ?_)
      refine tn_istore_n (L' := [(1, .int (iI z25)), (0, .ref a), (2, .int (iI c2)), (3, .int (iI i3))]) dX1_registers_36 rfl (by decide) rfl ?_
      refine tn_iinc (q0 := 3) (L' := [(3, .int (iI (i3 + 1))), (1, .int (iI z25)), (0, .ref a), (2, .int (iI c2))]) dX1_registers_37 rfl (by decide) rfl ?_
      refine tn_goto (tgt := 14) dX1_registers_40 (by decide) ?_
      exact tn_sub [2, 1, 3, 0] rfl (ih _ (by omega) (z25) (i3 + 1) (by omega) (by omega) (HMP.more hI (x := v24) (by omega) (by have z := f23; unfold ATQ at z; omega) (by have z := f23; unfold ATQ at z; have z0 := f11; unfold ATQ at z0; have z2 := hna c2 i3 (by omega) (by omega) (by omega) (by omega); omega) (by omega)) (by have z := f23; unfold ATQ at z; have z0 := f11; unfold ATQ at z0; have z2 := hna c2 i3 (by omega) (by omega) (by omega) (by omega); omega) rfl)
set_option maxHeartbeats 1000000 in
set_option maxRecDepth 20000 in
theorem l_X1_registers_x_4 (d : Nat) {T : CT} {σ : MS} {a : Nat} {x : Nat} {n : Int} {W : Int → It} {Fq : Int} {xn : Nat} {Rn : Int → Int} {xh : Nat} {Rh : Int → Int} {post : Option Value → CT → MS → Prop} (h_a : OB T a 1) (hw : WT T σ) (hx : σ.2.1 5 a = (x : Int)) (hn : σ.2.1 6 a = n) (hW : cW σ x n = W) (hFq : σ.2.1 10 a = Fq) (hxn : σ.2.1 14 a = (xn : Int)) (hRn : σ.2.1 (1000 + xn) = Rn) (hxh : σ.2.1 15 a = (xh : Int)) (hRh : σ.2.1 (1000 + xh) = Rh) (hN : n ≤ 200) (hwok : WOK W n) (hna : HNO Rn Rh Fq) (hx_49 : ∀ (i1 : Int) (i2 : Int) , (-2147483648 ≤ i1 ∧ i1 ≤ 2147483647) → (0 ≤ i2 ∧ i2 ≤ 12) → (UBQ (HMP Rn Rh i2 0) i1) → (i2 ≤ Fq ∧ 0 ≤ Fq ∧ Fq ≤ 12 ∧ -1 ≤ i1 ∧ i1 ≤ 191) → (Fq ≤ i2) → Tn (d + 4) m_X1_registers 49 T σ [(0, .ref a), (1, .int (iI i1)), (2, .int (iI i2))] [] post) : ∀ (nq9 : Nat) (i1 : Int) (i2 : Int) , (-2147483648 ≤ i1 ∧ i1 ≤ 2147483647) → (0 ≤ i2 ∧ i2 ≤ 12) → (UBQ (HMP Rn Rh i2 0) i1) → (i2 ≤ Fq ∧ 0 ≤ Fq ∧ Fq ≤ 12 ∧ -1 ≤ i1 ∧ i1 ≤ 191) → (2147483700 - i2).toNat = nq9 → Tn (d + 4) m_X1_registers 4 T σ [(0, .ref a), (1, .int (iI i1)), (2, .int (iI i2))] [] post := by
  intro nq9
  induction nq9 using Nat.strongRecOn with
  | _ nq9 ih =>
    intro i1 i2 r_i1 r_i2 hM h2 hm
    refine tn_iload_n dX1_registers_4 rfl 2 rfl ?_
    refine tn_aload_n dX1_registers_5 rfl 0 rfl ?_
    refine tn_getI (ci := 1) (i := 5) (n := 10) (t := σ.2.1 10 a) dX1_registers_6 rfl lay_1 (by decide) fl1_46 h_a rfl rfl (rfl) ?_
    have g1 : ((0 : Int) ≤ σ.2.1 10 a ∧ σ.2.1 10 a ≤ 12) := wf_10 hw h_a
    refine tn_icmp_ge (tgt := 49) dX1_registers_9 (by decide) ⟨by omega, by omega⟩ ⟨by omega, by omega⟩ (fun h2 => ?_) (fun h2 => ?_)
    · exact tn_sub [0, 1, 2] rfl (hx_49 (i1) (i2) (by omega) (by omega) hM (by omega) (by omega))
    · refine tn_iconst dX1_registers_12 ?_
      refine tn_istore_n (L' := [(3, .int (iI 0)), (0, .ref a), (1, .int (iI i1)), (2, .int (iI i2))]) dX1_registers_13 rfl (by decide) rfl ?_
      refine tn_sub [1, 2, 3, 0] rfl (l_X1_registers_x_14 (d) (T := T) (σ := σ) (a := a) (c2 := i2) (x := x) (n := n) (W := (W)) (Fq := Fq) (xn := xn) (Rn := (Rn)) (xh := xh) (Rh := (Rh)) h_a (by omega) hw (by omega) (hx) (hn) hW (hFq) (hxn) hRn (hxh) hRh hN hwok hna (fun i13 i34 r10 r11 f12 f13 f14 => ?_) _ (i1) (0) (by omega) (by omega) hM (by omega) rfl)
      show Tn _ _ 43 T σ [(0, .ref a), (1, .int (iI i13)), (2, .int (iI i2)), (3, .int (iI i34))] [] _
      refine tn_iinc (q0 := 2) (L' := [(2, .int (iI (i2 + 1))), (0, .ref a), (1, .int (iI i13)), (3, .int (iI i34))]) dX1_registers_43 rfl (by decide) rfl ?_
      refine tn_goto (tgt := 4) dX1_registers_46 (by decide) ?_
      exact tn_sub [1, 2, 0] rfl (ih _ (by omega) (i13) (i2 + 1) (by omega) (by omega) f14 (by omega) rfl)
set_option maxHeartbeats 1000000 in
set_option maxRecDepth 20000 in
theorem l_X1_registers_x_51 (d : Nat) {T : CT} {σ : MS} {a : Nat} {x : Nat} {n : Int} {W : Int → It} {Fq : Int} {xn : Nat} {Rn : Int → Int} {xh : Nat} {Rh : Int → Int} {post : Option Value → CT → MS → Prop} (h_a : OB T a 1) (hw : WT T σ) (hn0 : 0 ≤ n) (hx : σ.2.1 5 a = (x : Int)) (hn : σ.2.1 6 a = n) (hW : cW σ x n = W) (hFq : σ.2.1 10 a = Fq) (hxn : σ.2.1 14 a = (xn : Int)) (hRn : σ.2.1 (1000 + xn) = Rn) (hxh : σ.2.1 15 a = (xh : Int)) (hRh : σ.2.1 (1000 + xh) = Rh) (hN : n ≤ 200) (hwok : WOK W n) (hna : HNO Rn Rh Fq) (hx_75 : ∀ (i1 : Int) (i2 : Int) , (-2147483648 ≤ i1 ∧ i1 ≤ 2147483647) → (0 ≤ i2 ∧ i2 ≤ 200) → (UBQ (ITP (hmC Fq Rn Rh) W i2) i1) → (i2 ≤ n ∧ -1 ≤ i1 ∧ i1 ≤ 191) → (n ≤ i2) → Tn (d + 4) m_X1_registers 75 T σ [(0, .ref a), (1, .int (iI i1)), (2, .int (iI i2))] [] post) : ∀ (nq9 : Nat) (i1 : Int) (i2 : Int) , (-2147483648 ≤ i1 ∧ i1 ≤ 2147483647) → (0 ≤ i2 ∧ i2 ≤ 200) → (UBQ (ITP (hmC Fq Rn Rh) W i2) i1) → (i2 ≤ n ∧ -1 ≤ i1 ∧ i1 ≤ 191) → (2147483700 - i2).toNat = nq9 → Tn (d + 4) m_X1_registers 51 T σ [(0, .ref a), (1, .int (iI i1)), (2, .int (iI i2))] [] post := by
  intro nq9
  induction nq9 using Nat.strongRecOn with
  | _ nq9 ih =>
    intro i1 i2 r_i1 r_i2 hT h2 hm
    refine tn_iload_n dX1_registers_51 rfl 2 rfl ?_
    refine tn_aload_n dX1_registers_52 rfl 0 rfl ?_
    refine tn_getI (ci := 1) (i := 1) (n := 6) (t := σ.2.1 6 a) dX1_registers_53 rfl lay_1 (by decide) fl1_33 h_a rfl rfl (rfl) ?_
    have g1 : ((0 : Int) ≤ σ.2.1 6 a ∧ σ.2.1 6 a ≤ 5000) ∧ ((T a).1 = 50 → σ.2.1 6 a ≤ 200) := wf_6 hw h_a
    have g1x := g1.2
    replace g1 := g1.1
    clear g1x
    refine tn_icmp_ge (tgt := 75) dX1_registers_56 (by decide) ⟨by omega, by omega⟩ ⟨by omega, by omega⟩ (fun h2 => ?_) (fun h2 => ?_)
    · exact tn_sub [0, 1, 2] rfl (hx_75 (i1) (i2) (by omega) (by omega) hT (by omega) (by omega))
    · refine tn_iload_n dX1_registers_59 rfl 1 rfl ?_
      refine tn_aload_n dX1_registers_60 rfl 0 rfl ?_
      refine tn_iload_n dX1_registers_61 rfl 2 rfl ?_
      obtain ⟨hl6, hk5a, hk5b⟩ := cel_of (wf_5 hw h_a) hx
      have hk5i : IA T x := by unfold IA; omega
      have hk5c : CELL T a x := ⟨hk5a, hk5b⟩
      clear hk5a hk5b
      refine tn_callV (M := m_X1_registers) (pc := 62) (ix := 113) (ci := 1) (M' := m_X1_greatestIn) (As := [.int (iI i2)]) (rest := [.int (iI i1)]) dX1_registers_62 ok_X1_greatestIn im_X1_greatestIn se_X1_greatestIn ml1_113 np_X1_greatestIn rfl rfl h_a rfl (Nat.le_of_ble_eq_true rfl) (Nat.le_of_ble_eq_true rfl) rfl (k_X1_greatestIn_x (d) (T := T) (σ := σ) (a := a) (k := i2) (x := x) (n := n) (W := W) h_a (by omega) hw (hx) (hn) hW (by omega) (by omega) (by omega)) (fun r7 T9 σ8 gt10 hp => ?_)
      obtain ⟨v14, rfl, rfl, rfl, f11, f12, f13⟩ := hp
      clear gt10
      show Tn _ _ 65 T σ [(0, .ref a), (1, .int (iI i1)), (2, .int (iI i2))] [.int (iI v14), .int (iI i1)] _
      refine tn_mmax (x := i1) (y := v14) dX1_registers_65 mlm1_63 stM_max iniM cdM_max (by omega) (Nat.le_of_ble_eq_true rfl) ⟨by omega, by omega⟩ ⟨by omega, by omega⟩ (fun z15 g16 => ?_)
      refine tn_istore_n (L' := [(1, .int (iI z15)), (0, .ref a), (2, .int (iI i2))]) dX1_registers_68 rfl (by decide) rfl ?_
      refine tn_iinc (q0 := 2) (L' := [(2, .int (iI (i2 + 1))), (1, .int (iI z15)), (0, .ref a)]) dX1_registers_69 rfl (by decide) rfl ?_
      refine tn_goto (tgt := 51) dX1_registers_72 (by decide) ?_
      exact tn_sub [2, 1, 0] rfl (ih _ (by omega) (z15) (i2 + 1) (by omega) (by omega) (ITP.step hT (by omega) f12 (by omega)) (by omega) rfl)
set_option maxHeartbeats 1000000 in
set_option maxRecDepth 20000 in
theorem k_X1_registers_x (d : Nat) {T : CT} {σ : MS} {a : Nat} {x : Nat} {n : Int} {W : Int → It} {Fq : Int} {xn : Nat} {Rn : Int → Int} {xh : Nat} {Rh : Int → Int} (ha : OB T a 1) (hw : WT T σ) (hx : σ.2.1 5 a = (x : Int)) (hn : σ.2.1 6 a = n) (hW : cW σ x n = W) (hFq : σ.2.1 10 a = Fq) (hxn : σ.2.1 14 a = (xn : Int)) (hRn : σ.2.1 (1000 + xn) = Rn) (hxh : σ.2.1 15 a = (xh : Int)) (hRh : σ.2.1 (1000 + xh) = Rh) (hN : n ≤ 200) (hwok : WOK W n) (hna : HNO Rn Rh Fq) : Tn (d + 4) m_X1_registers 0 T σ [(0, .ref a)] [] (fun ro T2 σ2 => ∃ v : Int, ro = some (.int (iI v)) ∧ T = T2 ∧ σ = σ2 ∧ (0 ≤ v ∧ v ≤ 192) ∧ (mxV (rgV (vW W) n (hmC Fq Rn Rh)) v)) := by
  have h6 := wf_6 hw ha
  have h10 := wf_10 hw ha
  refine tn_iconst dX1_registers_0 ?_
  refine tn_istore_n (L' := [(1, .int (iI (-1))), (0, .ref a)]) dX1_registers_1 rfl (by decide) rfl ?_
  refine tn_iconst dX1_registers_2 ?_
  refine tn_istore_n (L' := [(2, .int (iI 0)), (1, .int (iI (-1))), (0, .ref a)]) dX1_registers_3 rfl (by decide) rfl ?_
  refine tn_sub [2, 1, 0] rfl (l_X1_registers_x_4 (d) (T := T) (σ := σ) (a := a) (x := x) (n := n) (W := (W)) (Fq := Fq) (xn := xn) (Rn := (Rn)) (xh := xh) (Rh := (Rh)) ha hw (hx) (hn) hW (hFq) (hxn) hRn (hxh) hRh hN hwok hna (fun i11 i22 r8 r9 f10 f11 f12 => ?_) _ (-1) (0) (by omega) (by omega) (UBQ.nil HMP.nil) (by omega) rfl)
  show Tn _ _ 49 T σ [(0, .ref a), (1, .int (iI i11)), (2, .int (iI i22))] [] _
  refine tn_iconst dX1_registers_49 ?_
  refine tn_istore_n (L' := [(2, .int (iI 0)), (0, .ref a), (1, .int (iI i11))]) dX1_registers_50 rfl (by decide) rfl ?_
  refine tn_sub [1, 2, 0] rfl (l_X1_registers_x_51 (d) (T := T) (σ := σ) (a := a) (x := x) (n := n) (W := (W)) (Fq := Fq) (xn := xn) (Rn := (Rn)) (xh := xh) (Rh := (Rh)) ha hw (by omega) (hx) (hn) hW (hFq) (hxn) hRn (hxh) hRh hN hwok hna (fun i113 i214 r20 r21 f22 f23 f24 => ?_) _ (i11) (0) (by omega) (by omega) (ITP.start f10 (by omega)) (by omega) rfl)
  show Tn _ _ 75 T σ [(0, .ref a), (1, .int (iI i113)), (2, .int (iI i214))] [] _
  refine tn_iload_n dX1_registers_75 rfl 1 rfl ?_
  refine tn_iconst dX1_registers_76 ?_
  refine tn_iadd dX1_registers_77 ?_
  exact tn_iret rfl dX1_registers_78 ⟨_, rfl, rfl, rfl, by omega, (ITP.fin f22 (by omega))⟩
end
section
section ACL
variable {d : Nat} {M : MT} {pc : Nat} {T : CT} {σ : MS} {L : List (Nat × Value)} {st : List Value} {post : Option Value → CT → MS → Prop} {a : Nat}
theorem tn_acopyLX {ix b : Nat} {sp dp n : Int} (hd : decode M.2.1 pc = .ok (.invokestatic ix, 3)) (hw : Cond.methodLink M.1.cls ix arraycopyName ∈ pWW) (hw2 : Cond.native arraycopyName ∈ pWW) (hw3 : Cond.static arraycopyName ∈ pWW) (hw4 : Cond.initialized "java/lang/System" ∈ pWW) (ha : (T a).1 = 3) (hb : (T b).1 = 3) (hl : (T a).2 ≤ 1000000 ∧ (T b).2 ≤ 1000000) (h1 : 0 ≤ sp) (h2 : 0 ≤ dp) (h3 : 0 ≤ n) (h4 : sp + n ≤ ((T a).2 : Int)) (h5 : dp + n ≤ ((T b).2 : Int)) (hd1 : 0 < d) (hcat : (st.map fun v => v.category).sum ≤ 8) (kk : ∀ f, (∀ z, 0 ≤ z → f z = if dp ≤ z ∧ z < dp + n then σ.2.2 a (sp + (z - dp)) else σ.2.2 b z) → Tn d M (pc + 3) T (rowL b f σ) L st post) : Tn d M pc T σ L (.int (iI n) :: .int (iI dp) :: .ref b :: .int (iI sp) :: .ref a :: st) post := fun P0 sz hs => by
  obtain ⟨r, T2, σ2, sz2, n9, w, hp⟩ := kk (fun z => va_cpy (fun j : Nat => σ.2.2 a j) (fun j : Nat => σ.2.2 b j) sp.toNat dp.toNat n.toNat z.toNat) (fun z hz => by
    show va_cpy _ _ _ _ _ _ = _
    unfold va_cpy
    by_cases h : dp.toNat ≤ z.toNat ∧ z.toNat < dp.toNat + n.toNat
    · rw [if_pos h, if_pos (by omega)]
      have e : ((sp.toNat + (z.toNat - dp.toNat) : Nat) : Int) = sp + (z - dp) := by omega
      show σ.2.2 a ((sp.toNat + (z.toNat - dp.toNat) : Nat) : Int) = _
      rw [e]
    · rw [if_neg h, if_neg (by omega)]
      have e : ((z.toNat : Nat) : Int) = z := by omega
      show σ.2.2 b ((z.toNat : Nat) : Int) = _
      rw [e]) P0 sz hs
  refine ⟨r, T2, σ2, sz2, n9, wp_acopyL hd hw hw2 hw3 hw4 (ovC_l ha) (ovC_l hb) (iI_n_lt (b := 0) ⟨by omega, by omega⟩ inR_0 (by omega)) (iI_n_lt (b := 0) ⟨by omega, by omega⟩ inR_0 (by omega)) (iI_n_lt (b := 0) ⟨by omega, by omega⟩ inR_0 (by omega)) (by rw [iI_toInt ⟨by omega, by omega⟩, iI_toInt ⟨by omega, by omega⟩]; exact h4) (by rw [iI_toInt ⟨by omega, by omega⟩, iI_toInt ⟨by omega, by omega⟩]; exact h5) hd1 hcat ?_, hp⟩
  rw [iI_nat h1 (by omega), iI_nat h2 (by omega), iI_nat h3 (by omega), ovC_new (T := T) (σ := σ) (T2 := T) (σ2 := rowL b (fun z => va_cpy (fun j : Nat => σ.2.2 a j) (fun j : Nat => σ.2.2 b j) sp.toNat dp.toNat n.toNat z.toNat) σ) (fun _ _ => rfl) (fun j c hj h => rfl) (fun c h h2 => rfl) (fun _ => rfl) (fun c h => if_neg h)]
  · exact w
  · rw [ovC_l hb]
    have e : (rowL b (fun z => va_cpy (fun j : Nat => σ.2.2 a j) (fun j : Nat => σ.2.2 b j) sp.toNat dp.toNat n.toNat z.toNat) σ).2.2 b = (fun z => va_cpy (fun j : Nat => σ.2.2 a j) (fun j : Nat => σ.2.2 b j) sp.toNat dp.toNat n.toNat z.toNat) := if_pos rfl
    rw [e]
    rfl
end ACL
def FFP (La M : Int → Int64) (Rh : Int → Int) (i : Int) : Prop := ∀ g, bT M 0 g ↔ bT La 0 g ∨ ∃ j, 0 ≤ j ∧ j < i ∧ Rh j = g ∧ 0 ≤ g ∧ g < 192
section FFS
variable {La M M2 : Int → Int64} {Rh : Int → Int} {i r : Int}
theorem FFP.nil (h : ∀ z, 0 ≤ z → M z = if 0 ≤ z ∧ z < 0 + 3 then La (0 + (z - 0)) else M2 z) : FFP La M Rh 0 := fun g => by
  have e : bT M 0 g ↔ bT La 0 g := bT_w (by rw [h _ (by decide)]; rfl) (by rw [h _ (by decide)]; rfl) (by rw [h _ (by decide)]; rfl)
  rw [e]
  exact ⟨Or.inl, fun q => q.elim id (fun ⟨j, a, b, _⟩ => by omega)⟩
theorem FFP.step (h : FFP La M Rh i) (h0 : 0 ≤ i) (hr : r = Rh i) (e : BTI M M2 0 r) : FFP La M2 Rh (i + 1) := fun g => by
  rw [e 0 g, h g]
  constructor
  · rintro ((q | ⟨j, a, b, c⟩) | ⟨-, q, c⟩)
    · exact Or.inl q
    · exact Or.inr ⟨j, a, by omega, c⟩
    · exact Or.inr ⟨i, h0, by omega, by rw [q, hr], by omega, by omega⟩
  · rintro (q | ⟨j, a, b, c⟩)
    · exact Or.inl (Or.inl q)
    · by_cases u : j = i
      · rw [u] at c; exact Or.inr ⟨rfl, by rw [hr]; exact c.1.symm, by rw [hr, c.1]; exact c.2⟩
      · exact Or.inl (Or.inr ⟨j, a, by omega, c⟩)
end FFS
def AOP (O O2 L : Int → Int64) (k r i : Int) : Prop := ∀ x y, bT O2 x y ↔ bT O x y ∨ ∃ q, (0 ≤ q ∧ q < i) ∧ q ≠ r ∧ bT L k q ∧ ((x = r ∧ y = q) ∨ (x = q ∧ y = r))
section AOS
variable {O O2 O3 O4 L : Int → Int64} {k r i : Int}
theorem AOP.nil : AOP O O L k r 0 := fun x y => ⟨Or.inl, fun q => q.elim id (fun ⟨q, a, _⟩ => by omega)⟩
theorem AOP.no (h : AOP O O2 L k r i) (q : ¬ (i ≠ r ∧ bT L k i)) : AOP O O2 L k r (i + 1) := fun x y => (h x y).trans ⟨fun z => z.imp id (fun ⟨j, a, b⟩ => ⟨j, by omega, b⟩), fun z => z.imp id (fun ⟨j, a, b, c, d⟩ => ⟨j, by
  by_cases u : j = i
  · subst u; exact absurd ⟨b, c⟩ q
  · omega, b, c, d⟩)⟩
theorem AOP.yes (h : AOP O O2 L k r i) (h0 : 0 ≤ i ∧ i < 192) (hr : 0 ≤ r ∧ r < 192) (q1 : i ≠ r) (q2 : bT L k i) (e1 : BTI O2 O3 r i) (e2 : BTI O3 O4 i r) : AOP O O4 L k r (i + 1) := fun x y => by
  rw [e2 x y, e1 x y, h x y]
  constructor
  · rintro (((z | ⟨j, a, b, c, d⟩) | ⟨z, w, -⟩) | ⟨z, w, -⟩)
    · exact Or.inl z
    · exact Or.inr ⟨j, by omega, b, c, d⟩
    · exact Or.inr ⟨i, by omega, q1, q2, Or.inl ⟨z, w⟩⟩
    · exact Or.inr ⟨i, by omega, q1, q2, Or.inr ⟨z, w⟩⟩
  · rintro (z | ⟨j, a, b, c, d⟩)
    · exact Or.inl (Or.inl (Or.inl z))
    · by_cases u : j = i
      · subst u
        rcases d with d | d
        · exact Or.inl (Or.inr ⟨d.1, d.2, h0⟩)
        · exact Or.inr ⟨d.1, d.2, hr⟩
      · exact Or.inl (Or.inl (Or.inr ⟨j, by omega, b, c, d⟩))
theorem AOP.to {t : Int} (h : AOP O O2 L k r i) (e : i = t) : AOP O O2 L k r t := by rw [← e]; exact h
end AOS
def ODP (W : Int → It) (N : Int) (Fi La O : Int → Int64) (a k : Int) : Prop := ∀ x y, 0 ≤ x → x < N → (bT O x y ↔ x ≠ y ∧ (0 ≤ y ∧ y < N) ∧ ((bT Fi 0 x ∧ bT Fi 0 y ∧ (x < a ∨ y < a)) ∨ ∃ i, (0 ≤ i ∧ i < k) ∧ ((wrT (W i) x ∧ bT La (i + 1) y) ∨ (wrT (W i) y ∧ bT La (i + 1) x))))
section ODS
variable {W : Int → It} {N n a k r : Int} {Fi La O O2 : Int → Int64}
theorem ODP.nil (h : ∀ x y, 0 ≤ x → x < N → ¬ bT O x y) : ODP W N Fi La O 0 0 := fun x y p q => ⟨fun z => absurd z (h x y p q), fun ⟨z, w, u⟩ => by
  rcases u with u | ⟨i, u, _⟩
  · omega
  · omega⟩
theorem ODP.f0 (h : ODP W N Fi La O a 0) (h0 : 0 ≤ a) (q : ¬ bT Fi 0 a) : ODP W N Fi La O (a + 1) 0 := fun x y p s => by
  rw [h x y p s]
  constructor
  · rintro ⟨c, d, e | ⟨i, e, _⟩⟩
    · exact ⟨c, d, Or.inl ⟨e.1, e.2.1, by omega⟩⟩
    · omega
  · rintro ⟨c, d, e | ⟨i, e, _⟩⟩
    · refine ⟨c, d, Or.inl ⟨e.1, e.2.1, ?_⟩⟩
      by_cases u : x = a
      · rw [u] at e; exact absurd e.1 q
      · by_cases v : y = a
        · rw [v] at e; exact absurd e.2.1 q
        · omega
    · omega
theorem ODP.f1 (h : ODP W N Fi La O a 0) (h0 : 0 ≤ a ∧ a < N) (q : bT Fi 0 a) (e : AOP O O2 Fi 0 a N) : ODP W N Fi La O2 (a + 1) 0 := fun x y p s => by
  rw [e x y, h x y p s]
  constructor
  · rintro (⟨c, d, f | ⟨i, f, _⟩⟩ | ⟨j, b, c, d, f⟩)
    · exact ⟨c, d, Or.inl ⟨f.1, f.2.1, by omega⟩⟩
    · omega
    · rcases f with ⟨f1, f2⟩ | ⟨f1, f2⟩
      · rw [f1, f2]; exact ⟨by omega, b, Or.inl ⟨q, d, by omega⟩⟩
      · rw [f1, f2]; exact ⟨by omega, by omega, Or.inl ⟨d, q, by omega⟩⟩
  · rintro ⟨c, d, f | ⟨i, f, _⟩⟩
    · by_cases u : x = a
      · exact Or.inr ⟨y, d, by omega, f.2.1, Or.inl ⟨u, rfl⟩⟩
      · by_cases v : y = a
        · exact Or.inr ⟨x, ⟨p, s⟩, u, f.1, Or.inr ⟨rfl, v⟩⟩
        · exact Or.inl ⟨c, d, Or.inl ⟨f.1, f.2.1, by omega⟩⟩
    · omega
theorem ODP.k0 (h : ODP W N Fi La O a k) (hw : iOK (W k)) (hk : 0 ≤ k ∧ k < n) (wb : WBQ W n k r) (q : r = -1) : ODP W N Fi La O a (k + 1) := fun x y p s => by
  have nw : ∀ g, ¬ wrT (W k) g := fun g z => by have := (wb_wr hw hk wb).mpr z; omega
  rw [h x y p s]
  constructor
  · rintro ⟨c, d, e | ⟨i, e, f⟩⟩
    · exact ⟨c, d, Or.inl e⟩
    · exact ⟨c, d, Or.inr ⟨i, by omega, f⟩⟩
  · rintro ⟨c, d, e | ⟨i, e, f⟩⟩
    · exact ⟨c, d, Or.inl e⟩
    · refine ⟨c, d, Or.inr ⟨i, ?_, f⟩⟩
      by_cases u : i = k
      · subst u; exact f.elim (fun y => absurd y.1 (nw _)) (fun y => absurd y.1 (nw _))
      · omega
theorem ODP.k1 (h : ODP W N Fi La O a k) (hw : iOK (W k)) (hk : 0 ≤ k ∧ k < n) (wb : WBQ W n k r) (q : r ≠ -1) (hr : r < N) (hN : N ≤ 192) (e : AOP O O2 La (k + 1) r N) : ODP W N Fi La O2 a (k + 1) := fun x y p s => by
  have ww : ∀ g, wrT (W k) g ↔ g = r := fun g => by
    rw [← wb_wr hw hk wb]
    have w2 := hw.2.1
    have w1 := hw.1
    unfold WBQ at wb
    exact ⟨fun z => z.1, fun z => ⟨z, by omega⟩⟩
  rw [e x y, h x y p s]
  constructor
  · rintro (⟨c, d, f | ⟨i, f, g⟩⟩ | ⟨j, b, c, d, f⟩)
    · exact ⟨c, d, Or.inl f⟩
    · exact ⟨c, d, Or.inr ⟨i, by omega, g⟩⟩
    · have rr := (ww r).mpr rfl
      have r0 : 0 ≤ r := ((wb_wr hw hk wb).mpr rr).2.1
      rcases f with ⟨f1, f2⟩ | ⟨f1, f2⟩
      · rw [f1, f2]; exact ⟨by omega, b, Or.inr ⟨k, by omega, Or.inl ⟨rr, d⟩⟩⟩
      · rw [f1, f2]; exact ⟨by omega, by omega, Or.inr ⟨k, by omega, Or.inr ⟨rr, d⟩⟩⟩
  · rintro ⟨c, d, f | ⟨i, f, g⟩⟩
    · exact Or.inl ⟨c, d, Or.inl f⟩
    · by_cases u : i = k
      · subst u
        rcases g with ⟨g1, g2⟩ | ⟨g1, g2⟩
        · have := (ww x).mp g1
          exact Or.inr ⟨y, d, by omega, g2, Or.inl ⟨this, rfl⟩⟩
        · have := (ww y).mp g1
          exact Or.inr ⟨x, ⟨p, s⟩, by omega, g2, Or.inr ⟨rfl, this⟩⟩
      · exact Or.inl ⟨c, d, Or.inr ⟨i, by omega, g⟩⟩
theorem ODP.to {a2 k2 : Int} (h : ODP W N Fi La O a k) (e : a = a2) (e2 : k = k2) : ODP W N Fi La O a2 k2 := by rw [← e, ← e2]; exact h
end ODS
def MTQ (G O : Int → Int64) (l r v : Int) : Prop := (v = 1 ∧ ∃ g, bT G l g ∧ bT O r g) ∨ (v = 0 ∧ ∀ g, ¬ (bT G l g ∧ bT O r g))
def MTP (G O : Int → Int64) (l r i : Int) : Prop := ∀ j, 0 ≤ j → j < i → G (3 * l + j) &&& O (3 * r + j) = 0
theorem bit_and (x y : Int64) (j : Nat) : (x &&& y).toBitVec.getLsbD j = (x.toBitVec.getLsbD j && y.toBitVec.getLsbD j) := by
  show (x.toBitVec &&& y.toBitVec).getLsbD j = _
  rw [BitVec.getLsbD_and]
theorem MTP.step {G O : Int → Int64} {l r i : Int} {u w : Int64} (h : MTP G O l r i) (e1 : u = G (3 * l + i)) (e2 : w = O (3 * r + i)) (q : u &&& w = 0) : MTP G O l r (i + 1) := fun j a b => by
  by_cases z : j = i
  · rw [z, ← e1, ← e2]; exact q
  · exact h j a (by omega)
theorem MTP.no {G O : Int → Int64} {l r i : Int} (h : MTP G O l r i) (hi : 3 ≤ i) : MTQ G O l r 0 := Or.inr ⟨rfl, fun g q => by
  have r0 := q.1.1
  have z := h (g / 64) (by omega) (by omega)
  have y := bit_and (G (3 * l + g / 64)) (O (3 * r + g / 64)) (g % 64).toNat
  rw [z, q.1.2, q.2.2] at y
  have z0 : (0 : Int64).toBitVec.getLsbD (g % 64).toNat = false := by show (0#64).getLsbD _ = false; simp
  rw [z0] at y
  exact absurd y (by decide)⟩
theorem MTP.yes {G O : Int → Int64} {l r i : Int} {u w : Int64} (h0 : 0 ≤ i ∧ i < 3) (e1 : u = G (3 * l + i)) (e2 : w = O (3 * r + i)) (q : u &&& w ≠ 0) : MTQ G O l r 1 := Or.inl ⟨rfl, by
  have ex : ∃ j, j < 64 ∧ (u &&& w).toBitVec.getLsbD j = true := Classical.byContradiction (fun no => q (by
    apply Int64.toBitVec_inj.mp
    apply BitVec.eq_of_getLsbD_eq
    intro j hj
    have z0 : (0 : Int64).toBitVec.getLsbD j = false := by show (0#64).getLsbD _ = false; simp
    rw [z0]
    cases c : (u &&& w).toBitVec.getLsbD j
    · rfl
    · exact absurd ⟨j, hj, c⟩ no))
  obtain ⟨j, j1, j2⟩ := ex
  rw [bit_and, Bool.and_eq_true_iff] at j2
  refine ⟨64 * i + j, ?_, ?_⟩
  · refine ⟨by omega, ?_⟩
    rw [show (64 * i + (j : Int)) / 64 = i by omega, show ((64 * i + (j : Int)) % 64).toNat = j by omega, ← e1]; exact j2.1
  · refine ⟨by omega, ?_⟩
    rw [show (64 * i + (j : Int)) / 64 = i by omega, show ((64 * i + (j : Int)) % 64).toNat = j by omega, ← e2]; exact j2.2⟩
def NAP (O G : Int → Int64) (R : Int → Int) (N r : Int) : Prop := (∀ g, 0 ≤ g → g < r → (0 ≤ R g ∧ R g ≤ g) ∧ (∀ b, 0 ≤ b → b < g → bT O g b → R b ≠ R g) ∧ ∀ m, 0 ≤ m → m < R g → ∃ b, 0 ≤ b ∧ b < g ∧ bT O g b ∧ R b = m) ∧ ∀ l g, 0 ≤ l → l < N → (bT G l g ↔ (0 ≤ g ∧ g < r) ∧ R g = l)
section NAS
variable {O G G2 : Int → Int64} {R R2 : Int → Int} {N r l : Int}
theorem NAP.nil (h : ∀ l g, 0 ≤ l → l < N → ¬ bT G l g) : NAP O G R N 0 := ⟨fun g a b => by omega, fun l g a b => ⟨fun q => absurd q (h l g a b), fun q => by omega⟩⟩
theorem NAP.step (h : NAP O G R N r) (h0 : 0 ≤ r ∧ r < N) (hN : N ≤ 192) (hl : 0 ≤ l ∧ l ≤ r) (q1 : ∀ m, 0 ≤ m → m < l → ∃ g, bT G m g ∧ bT O r g) (q2 : l = r ∨ ∀ g, ¬ (bT G l g ∧ bT O r g)) (e : R2 = uZ R r l) (e2 : BTI G G2 l r) : NAP O G2 R2 N (r + 1) := by
  obtain ⟨h1, h2⟩ := h
  have lo : ∀ g, g < r → R2 g = R g := fun g z => by rw [e, uZ_ne (by omega)]
  have at_ : R2 r = l := by rw [e, uZ_eq]
  refine ⟨fun g a b => ?_, fun m g a b => ?_⟩
  · by_cases z : g = r
    · subst z
      rw [at_]
      refine ⟨by omega, fun b c d f y => ?_, fun m c d => ?_⟩
      · rw [lo b d] at y
        rcases q2 with w | w
        · have := (h1 b c d).1.2; omega
        · exact w b ⟨(h2 l b hl.1 (by omega)).mpr ⟨⟨c, d⟩, y⟩, f⟩
      · obtain ⟨b, x, y⟩ := q1 m c d
        have w := (h2 m b c (by omega)).mp x
        exact ⟨b, w.1.1, w.1.2, y, by rw [lo b w.1.2]; exact w.2⟩
    · have y := h1 g a (by omega)
      rw [lo g (by omega)]
      refine ⟨y.1, fun b c d f => by rw [lo b (by omega)]; exact y.2.1 b c d f, fun m c d => ?_⟩
      obtain ⟨b, b0, b1, b2, b3⟩ := y.2.2 m c d
      exact ⟨b, b0, b1, b2, by rw [lo b (by omega)]; exact b3⟩
  · rw [e2 m g, h2 m g a b]
    constructor
    · rintro (⟨c, d⟩ | ⟨c, d, -⟩)
      · exact ⟨by omega, by rw [lo g c.2]; exact d⟩
      · rw [c, d]; exact ⟨by omega, at_⟩
    · rintro ⟨c, d⟩
      by_cases z : g = r
      · rw [z, at_] at d; exact Or.inr ⟨d.symm, z, by omega⟩
      · rw [lo g (by omega)] at d; exact Or.inl ⟨by omega, d⟩
theorem NAP.to {t : Int} (h : NAP O G R N r) (e : r = t) : NAP O G R N t := by rw [← e]; exact h
end NAS
end
section
set_option maxHeartbeats 1000000 in
set_option maxRecDepth 20000 in
theorem l_X8_findFirst_x_19 (d : Nat) {T : CT} {σ0 : MS} {a : Nat} {rx1 : Nat} {fl : Nat} {xa : Nat} {La : Int → Int64} {xf : Nat} {P : Int} {xh : Nat} {Rh : Int → Int} {post : Option Value → CT → MS → Prop} (h_a : OB T a 8) (h_rx1 : OB T rx1 1) (t_rx1 : (T rx1).1 = 50) (hw0 : WT T σ0) (hP9 : 0 ≤ P ∧ P ≤ 4) (hfl : σ0.2.1 72 a = (fl : Int)) (hxa : σ0.2.1 18 fl = (xa : Int)) (hLa : σ0.2.2 xa = La) (hxf : σ0.2.1 74 a = (xf : Int)) (hP : σ0.2.1 8 rx1 = P) (hxh : σ0.2.1 15 rx1 = (xh : Int)) (hRh : σ0.2.1 (1000 + xh) = Rh) (hne : xa ≠ xf) (hx_47 : ∀ (i2 : Int) (σ : MS) , (WT T σ) → (FrC T [] σ0 σ) → (0 ≤ i2 ∧ i2 ≤ 4) → (CHX [] [] [xf] σ0 σ) → (True) → (i2 ≤ P) → (FFP La (σ.2.2 xf) Rh P) → Tn (d + 3) m_X8_findFirst 47 T σ [(0, .ref a), (1, .ref rx1), (2, .int (iI i2))] [] post) : ∀ (nq9 : Nat) (i2 : Int) (σ : MS) , (WT T σ) → (FrC T [] σ0 σ) → (0 ≤ i2 ∧ i2 ≤ 4) → (CHX [] [] [xf] σ0 σ) → (FFP La (σ.2.2 xf) Rh i2) → (i2 ≤ P) → (2147483700 - i2).toNat = nq9 → Tn (d + 3) m_X8_findFirst 19 T σ [(0, .ref a), (1, .ref rx1), (2, .int (iI i2))] [] post := by
  intro nq9
  induction nq9 using Nat.strongRecOn with
  | _ nq9 ih =>
    intro i2 σ hw hF r_i2 hC hF_ h2 hm
    refine tn_iload_n dX8_findFirst_19 rfl 2 rfl ?_
    refine tn_aload_n dX8_findFirst_20 rfl 1 rfl ?_
    refine tn_getI (ci := 1) (i := 3) (n := 8) (t := σ0.2.1 8 rx1) dX8_findFirst_21 rfl lay_1 (by decide) fl8_98 h_rx1 rfl rfl (rc_F hF (Or.inl (by decide)) (by decide) (rfl)) ?_
    have g1 : ((0 : Int) ≤ σ0.2.1 8 rx1 ∧ σ0.2.1 8 rx1 ≤ 4) := wf_8 hw0 h_rx1
    refine tn_icmp_ge (tgt := 47) dX8_findFirst_24 (by decide) ⟨by omega, by omega⟩ ⟨by omega, by omega⟩ (fun h2 => ?_) (fun h2 => ?_)
    · exact tn_sub [0, 1, 2] rfl (hx_47 (i2) σ hw (FrC.rfl.trans (FrC.sub hF (by decide))) (by omega) hC True.intro (by omega) (by have z := hF_; rw [show i2 = P by omega] at z; exact z))
    · refine tn_aload_n dX8_findFirst_27 rfl 0 rfl ?_
      obtain ⟨hk5, hl6⟩ : AR T xf 3 3 3 := ar_of (wf_74 hw0 h_a) hxf
      refine tn_getR (ci := 8) (i := 2) (n := 74) (x := xf) dX8_findFirst_28 rfl lay_8 (by decide) fl8_15 h_a rfl rfl (rc_F hF (Or.inl (by decide)) (by decide) (hxf)) ?_
      refine tn_iconst dX8_findFirst_31 ?_
      refine tn_aload_n dX8_findFirst_32 rfl 1 rfl ?_
      refine tn_iconst dX8_findFirst_33 ?_
      refine tn_iload_n dX8_findFirst_34 rfl 2 rfl ?_
      obtain ⟨hk9, hl10⟩ : AR T xh 1 144 144 := ar_of (wf_15 hw0 h_rx1) hxh
      have hk9i : IA T xh := by unfold IA; omega
      have cv11 : σ.2.1 (1000 + xh) = Rh := (CHX.r hC (by first | (simp; done) | (simp only [List.mem_cons, List.not_mem_nil, or_false, not_or]; omega))).trans (hRh)
      refine tn_callV (M := m_X8_findFirst) (pc := 35) (ix := 101) (ci := 1) (M' := m_X1_homeOf) (As := [.int (iI 0), .int (iI i2)]) (rest := [.int (iI 0), .ref xf]) dX8_findFirst_35 ok_X1_homeOf im_X1_homeOf se_X1_homeOf ml8_101 np_X1_homeOf rfl rfl h_rx1 rfl (Nat.le_of_ble_eq_true rfl) (Nat.le_of_ble_eq_true rfl) rfl (k_X1_homeOf_x (d) (T := T) (σ := σ) (a := rx1) (f := 0) (m := i2) (xh := xh) (Rh := Rh) h_rx1 (by decide) (by omega) hw (rc_F hF (Or.inl (by decide)) (by decide) (hxh)) cv11 (by omega)) (fun r12 T14 σ13 gt15 hp => ?_)
      obtain ⟨v18, rfl, rfl, rfl, f16, f17⟩ := hp
      clear gt15
      show Tn _ _ 38 T σ [(0, .ref a), (1, .ref rx1), (2, .int (iI i2))] [.int (iI v18), .int (iI 0), .ref xf] _
      refine tn_callSN (M := m_X8_findFirst) (pc := 38) (ix := 104) (M' := m_X11_include) (As := [.ref xf, .int (iI 0), .int (iI v18)]) (rest := []) dX8_findFirst_38 ok_X11_include stt_X11_include nl8_104 np_X11_include rfl (Nat.le_of_ble_eq_true rfl) (Nat.le_of_ble_eq_true rfl) rfl (k_X11_include_x (d) (T := T) (σ := σ) (x := xf) (k := 0) (r := v18) (L := σ.2.2 xf) hk5 (by omega) (by decide) (by omega) hw rfl (by omega)) (fun r19 T21 σ20 gt22 hp => ?_)
      obtain ⟨rfl, rfl, w26, F27, f23, f24⟩ := hp
      clear gt22
      show Tn _ _ 41 T σ20 [(0, .ref a), (1, .ref rx1), (2, .int (iI i2))] [] _
      refine tn_iinc (q0 := 2) (L' := [(2, .int (iI (i2 + 1))), (0, .ref a), (1, .ref rx1)]) dX8_findFirst_41 rfl (by decide) rfl ?_
      refine tn_goto (tgt := 19) dX8_findFirst_44 (by decide) ?_
      exact tn_sub [1, 2, 0] rfl (ih _ (by omega) (i2 + 1) σ20 w26 ((FrC.rfl.trans (FrC.sub hF (by decide))).trans (FrC.sub F27 (by decide))) (by omega) (hC.trans (CHX.sub f23 (by simp) (by simp) (by simp))) (hF_.step (by omega) (by have z := f17; unfold ATQ at z; rw [show 12 * 0 + i2 = i2 by omega] at z; omega) f24) (by omega) rfl)
set_option maxHeartbeats 1000000 in
set_option maxRecDepth 20000 in
theorem k_X8_findFirst_x (d : Nat) {T : CT} {σ : MS} {a : Nat} {p1 : Nat} {fl : Nat} {xa : Nat} {La : Int → Int64} {xf : Nat} {P : Int} {xh : Nat} {Rh : Int → Int} (ha : OB T a 8) (h_p1 : OB T p1 1) (t_p1 : (T p1).1 = 50) (hw : WT T σ) (hfl : σ.2.1 72 a = (fl : Int)) (hxa : σ.2.1 18 fl = (xa : Int)) (hLa : σ.2.2 xa = La) (hxf : σ.2.1 74 a = (xf : Int)) (hP : σ.2.1 8 p1 = P) (hxh : σ.2.1 15 p1 = (xh : Int)) (hRh : σ.2.1 (1000 + xh) = Rh) (hne : xa ≠ xf) : Tn (d + 3) m_X8_findFirst 0 T σ [(0, .ref a), (1, .ref p1)] [] (fun ro T2 σ2 => ro = none ∧ T = T2 ∧ WT T2 σ2 ∧ FrC T [] σ σ2 ∧ (CHX [] [] [xf] σ σ2) ∧ (FFP La (σ2.2.2 xf) Rh P)) := by
  have h8 := wf_8 hw h_p1
  refine tn_aload_n dX8_findFirst_0 rfl 0 rfl ?_
  have hk3 : (T fl).1 = 33 := ob_of (wf_72 hw ha) hfl
  have hk3o : OB T fl 3 := ⟨by omega, by rw [hk3]; rfl, by omega⟩
  refine tn_getR (ci := 8) (i := 0) (n := 72) (x := fl) dX8_findFirst_1 rfl lay_8 (by decide) fl8_34 ha rfl rfl (hfl) ?_
  obtain ⟨hk7, hl8⟩ : AR T xa 3 603 603 := ar_of (wf_18 hw hk3o) hxa
  refine tn_getR (ci := 3) (i := 0) (n := 18) (x := xa) dX8_findFirst_4 rfl lay_3 (by decide) fl8_89 hk3o rfl rfl (hxa) ?_
  refine tn_iconst dX8_findFirst_7 ?_
  refine tn_aload_n dX8_findFirst_8 rfl 0 rfl ?_
  obtain ⟨hk11, hl12⟩ : AR T xf 3 3 3 := ar_of (wf_74 hw ha) hxf
  refine tn_getR (ci := 8) (i := 2) (n := 74) (x := xf) dX8_findFirst_9 rfl lay_8 (by decide) fl8_15 ha rfl rfl (hxf) ?_
  refine tn_iconst dX8_findFirst_12 ?_
  refine tn_iconst dX8_findFirst_13 ?_
  refine tn_acopyLX (a := xa) (b := xf) (sp := 0) (dp := 0) (n := 3) dX8_findFirst_14 mla8_92 acNat acSt acIni hk7 hk11 ⟨by omega, by omega⟩ (by omega) (by omega) (by omega) (by omega) (by omega) (by omega) (Nat.le_of_ble_eq_true rfl) (fun fl13 fl13e => ?_)
  refine tn_iconst dX8_findFirst_17 ?_
  refine tn_istore_n (L' := [(2, .int (iI 0)), (0, .ref a), (1, .ref p1)]) dX8_findFirst_18 rfl (by decide) rfl ?_
  have cv14 : (rowL xf fl13 σ).2.2 xa = La := (lv_rl (by omega)).trans (hLa)
  have cv15 : (rowL xf fl13 σ).2.1 (1000 + xh) = Rh := (id (hRh))
  refine tn_sub [1, 2, 0] rfl (l_X8_findFirst_x_19 (d) (T := T) (σ0 := (rowL xf fl13 σ)) (a := a) (rx1 := p1) (fl := fl) (xa := xa) (La := (La)) (xf := xf) (P := P) (xh := xh) (Rh := (Rh)) ha h_p1 t_p1 (hw.rowL) (by omega) ((hfl)) ((hxa)) cv14 ((hxf)) ((hP)) ((hxh)) cv15 hne (fun i216 σ17 w20 F21 r22 f23 f24 f25 f26 => ?_) _ (0) (rowL xf fl13 σ) (hw.rowL) FrC.rfl (by omega) CHX.rfl (by rw [show (rowL xf fl13 σ).2.2 xf = fl13 from if_pos rfl]; exact FFP.nil (by rw [← hLa]; exact fl13e)) (by omega) rfl)
  show Tn _ _ 47 T σ17 [(0, .ref a), (1, .ref p1), (2, .int (iI i216))] [] _
  exact tn_vret rfl dX8_findFirst_47 ⟨rfl, rfl, w20, ((FrC.rfl.rowL).trans (FrC.sub F21 (by decide))), ((CHX.rfl.rowL (by simp)).trans (CHX.sub f23 (by simp) (by simp) (by simp))), f26⟩
end
section
set_option maxHeartbeats 1000000 in
set_option maxRecDepth 20000 in
theorem l_X8_addOdds_x_3 (d : Nat) {T : CT} {σ0 : MS} {a : Nat} {rx1 : Nat} {c2 : Int} {c3 : Int} {c4 : Int} {O0 : Int → Int64} {L : Int → Int64} {xd : Nat} {Ld : Int → Int64} {post : Option Value → CT → MS → Prop} (h_a : OB T a 8) (h_rx1 : (T rx1).1 = 3) (l_rx1 : (T rx1).2 ≤ 1000000) (r_c2 : 0 ≤ c2 ∧ c2 ≤ 1000) (r_c3 : 0 ≤ c3 ∧ c3 ≤ 191) (r_c4 : 0 ≤ c4 ∧ c4 ≤ 192) (hw0 : WT T σ0) (hb : (0 ≤ c2 ∧ c2 ≤ 1000) ∧ 3 * c2 + 2 < ((T rx1).2 : Int)) (hrq : (0 ≤ c3 ∧ c3 < 192) ∧ 0 ≤ c4 ∧ c4 ≤ 192) (hL : σ0.2.2 rx1 = L) (hxd : σ0.2.1 73 a = (xd : Int)) (hne : rx1 ≠ xd) (hx_52 : ∀ (i5 : Int) (σ : MS) , (WT T σ) → (FrC T [] σ0 σ) → (0 ≤ i5 ∧ i5 ≤ 192) → (CHX [] [] [xd] σ0 σ) → (True) → (i5 ≤ 192 ∧ i5 ≤ c4) → (AOP O0 (σ.2.2 xd) L c2 c3 c4) → Tn (d + 3) m_X8_addOdds 52 T σ [(0, .ref a), (1, .ref rx1), (2, .int (iI c2)), (3, .int (iI c3)), (4, .int (iI c4)), (5, .int (iI i5))] [] post) : ∀ (nq9 : Nat) (i5 : Int) (σ : MS) , (WT T σ) → (FrC T [] σ0 σ) → (0 ≤ i5 ∧ i5 ≤ 192) → (CHX [] [] [xd] σ0 σ) → (AOP O0 (σ.2.2 xd) L c2 c3 i5) → (i5 ≤ 192 ∧ i5 ≤ c4) → (2147483700 - i5).toNat = nq9 → Tn (d + 3) m_X8_addOdds 3 T σ [(0, .ref a), (1, .ref rx1), (2, .int (iI c2)), (3, .int (iI c3)), (4, .int (iI c4)), (5, .int (iI i5))] [] post := by
  intro nq9
  induction nq9 using Nat.strongRecOn with
  | _ nq9 ih =>
    intro i5 σ hw hF r_i5 hC hA h5 hm
    refine tn_iload dX8_addOdds_3 5 rfl ?_
    refine tn_iload dX8_addOdds_5 4 rfl ?_
    refine tn_icmp_ge (tgt := 52) dX8_addOdds_7 (by decide) ⟨by omega, by omega⟩ ⟨by omega, by omega⟩ (fun h1 => ?_) (fun h1 => ?_)
    · exact tn_sub [0, 1, 2, 3, 4, 5] rfl (hx_52 (i5) σ hw (FrC.rfl.trans (FrC.sub hF (by decide))) (by omega) hC True.intro (by omega) (hA.to (by omega)))
    · refine tn_iload dX8_addOdds_10 5 rfl ?_
      refine tn_iload_n dX8_addOdds_12 rfl 3 rfl ?_
      refine tn_icmp_eq (tgt := 46) dX8_addOdds_13 (by decide) ⟨by omega, by omega⟩ ⟨by omega, by omega⟩ (fun h2 => ?_) (fun h2 => ?_)
      · refine tn_iinc (q0 := 5) (L' := [(5, .int (iI (i5 + 1))), (0, .ref a), (1, .ref rx1), (2, .int (iI c2)), (3, .int (iI c3)), (4, .int (iI c4))]) dX8_addOdds_46 rfl (by decide) rfl ?_
        refine tn_goto (tgt := 3) dX8_addOdds_49 (by decide) ?_
        exact tn_sub [1, 2, 3, 4, 5, 0] rfl (ih _ (by omega) (i5 + 1) σ hw (FrC.rfl.trans (FrC.sub hF (by decide))) (by omega) hC (hA.no (fun z => absurd z.1 (by omega))) (by omega) rfl)
      · refine tn_aload_n dX8_addOdds_16 rfl 1 rfl ?_
        refine tn_iload_n dX8_addOdds_17 rfl 2 rfl ?_
        refine tn_iload dX8_addOdds_18 5 rfl ?_
        have cv3 : σ.2.2 rx1 = L := (CHX.l hC (by first | (simp; done) | (simp only [List.mem_cons, List.not_mem_nil, or_false, not_or]; omega))).trans (hL)
        refine tn_callSN (M := m_X8_addOdds) (pc := 20) (ix := 112) (M' := m_X11_has) (As := [.ref rx1, .int (iI c2), .int (iI i5)]) (rest := []) dX8_addOdds_20 ok_X11_has stt_X11_has nl8_112 np_X11_has rfl (Nat.le_of_ble_eq_true rfl) (Nat.le_of_ble_eq_true rfl) rfl (k_X11_has_x (d) (T := T) (σ := σ) (x := rx1) (k := c2) (r := i5) (L := L) h_rx1 (by omega) (by omega) (by omega) hw cv3 (by omega)) (fun r4 T6 σ5 gt7 hp => ?_)
        obtain ⟨v10, rfl, rfl, rfl, f8, f9⟩ := hp
        clear gt7
        show Tn _ _ 23 T σ [(0, .ref a), (1, .ref rx1), (2, .int (iI c2)), (3, .int (iI c3)), (4, .int (iI c4)), (5, .int (iI i5))] [.int (iI v10)] _
        refine tn_if_eq (tgt := 46) dX8_addOdds_23 (by decide) ⟨by omega, by omega⟩ (fun h11 => ?_) (fun h11 => ?_)
        · refine tn_iinc (q0 := 5) (L' := [(5, .int (iI (i5 + 1))), (0, .ref a), (1, .ref rx1), (2, .int (iI c2)), (3, .int (iI c3)), (4, .int (iI c4))]) dX8_addOdds_46 rfl (by decide) rfl ?_
          refine tn_goto (tgt := 3) dX8_addOdds_49 (by decide) ?_
          exact tn_sub [1, 2, 3, 4, 5, 0] rfl (ih _ (by omega) (i5 + 1) σ hw (FrC.rfl.trans (FrC.sub hF (by decide))) (by omega) hC (hA.no (fun z => absurd (f9.mpr z.2) (by omega))) (by omega) rfl)
        · refine tn_aload_n dX8_addOdds_26 rfl 0 rfl ?_
          obtain ⟨hk14, hl15⟩ : AR T xd 3 576 576 := ar_of (wf_73 hw0 h_a) hxd
          refine tn_getR (ci := 8) (i := 1) (n := 73) (x := xd) dX8_addOdds_27 rfl lay_8 (by decide) fl8_9 h_a rfl rfl (rc_F hF (Or.inl (by decide)) (by decide) (hxd)) ?_
          refine tn_iload_n dX8_addOdds_30 rfl 3 rfl ?_
          refine tn_iload dX8_addOdds_31 5 rfl ?_
          refine tn_callSN (M := m_X8_addOdds) (pc := 33) (ix := 104) (M' := m_X11_include) (As := [.ref xd, .int (iI c3), .int (iI i5)]) (rest := []) dX8_addOdds_33 ok_X11_include stt_X11_include nl8_104 np_X11_include rfl (Nat.le_of_ble_eq_true rfl) (Nat.le_of_ble_eq_true rfl) rfl (k_X11_include_x (d) (T := T) (σ := σ) (x := xd) (k := c3) (r := i5) (L := σ.2.2 xd) hk14 (by omega) (by omega) (by omega) hw rfl (by omega)) (fun r16 T18 σ17 gt19 hp => ?_)
          obtain ⟨rfl, rfl, w23, F24, f20, f21⟩ := hp
          clear gt19
          show Tn _ _ 36 T σ17 [(0, .ref a), (1, .ref rx1), (2, .int (iI c2)), (3, .int (iI c3)), (4, .int (iI c4)), (5, .int (iI i5))] [] _
          refine tn_aload_n dX8_addOdds_36 rfl 0 rfl ?_
          refine tn_getR (ci := 8) (i := 1) (n := 73) (x := xd) dX8_addOdds_37 rfl lay_8 (by decide) fl8_9 h_a rfl rfl (rc_F F24 (Or.inl (by decide)) (by decide) (rc_F hF (Or.inl (by decide)) (by decide) (hxd))) ?_
          refine tn_iload dX8_addOdds_40 5 rfl ?_
          refine tn_iload_n dX8_addOdds_42 rfl 3 rfl ?_
          refine tn_callSN (M := m_X8_addOdds) (pc := 43) (ix := 104) (M' := m_X11_include) (As := [.ref xd, .int (iI i5), .int (iI c3)]) (rest := []) dX8_addOdds_43 ok_X11_include stt_X11_include nl8_104 np_X11_include rfl (Nat.le_of_ble_eq_true rfl) (Nat.le_of_ble_eq_true rfl) rfl (k_X11_include_x (d) (T := T) (σ := σ17) (x := xd) (k := i5) (r := c3) (L := σ17.2.2 xd) hk14 (by omega) (by omega) (by omega) w23 rfl (by omega)) (fun r25 T27 σ26 gt28 hp => ?_)
          obtain ⟨rfl, rfl, w32, F33, f29, f30⟩ := hp
          clear gt28
          show Tn _ _ 46 T σ26 [(0, .ref a), (1, .ref rx1), (2, .int (iI c2)), (3, .int (iI c3)), (4, .int (iI c4)), (5, .int (iI i5))] [] _
          refine tn_iinc (q0 := 5) (L' := [(5, .int (iI (i5 + 1))), (0, .ref a), (1, .ref rx1), (2, .int (iI c2)), (3, .int (iI c3)), (4, .int (iI c4))]) dX8_addOdds_46 rfl (by decide) rfl ?_
          refine tn_goto (tgt := 3) dX8_addOdds_49 (by decide) ?_
          exact tn_sub [1, 2, 3, 4, 5, 0] rfl (ih _ (by omega) (i5 + 1) σ26 w32 (((FrC.rfl.trans (FrC.sub hF (by decide))).trans (FrC.sub F24 (by decide))).trans (FrC.sub F33 (by decide))) (by omega) ((hC.trans (CHX.sub f20 (by simp) (by simp) (by simp))).trans (CHX.sub f29 (by simp) (by simp) (by simp))) (hA.yes ⟨by omega, by omega⟩ hrq.1 (by omega) (f9.mp (by omega)) f21 f30) (by omega) rfl)
set_option maxHeartbeats 1000000 in
set_option maxRecDepth 20000 in
theorem k_X8_addOdds_x (d : Nat) {T : CT} {σ : MS} {a : Nat} {x : Nat} {k : Int} {r : Int} {q : Int} {L : Int → Int64} {xd : Nat} {Ld : Int → Int64} (ha : OB T a 8) (h_x : (T x).1 = 3) (l_x : (T x).2 ≤ 1000000) (h_k : -2147483648 ≤ k ∧ k ≤ 2147483647) (h_r : -2147483648 ≤ r ∧ r ≤ 2147483647) (h_q : -2147483648 ≤ q ∧ q ≤ 2147483647) (hw : WT T σ) (hL : σ.2.2 x = L) (hxd : σ.2.1 73 a = (xd : Int)) (hLd : σ.2.2 xd = Ld) (hne : x ≠ xd) (hb : (0 ≤ k ∧ k ≤ 1000) ∧ 3 * k + 2 < ((T x).2 : Int)) (hrq : (0 ≤ r ∧ r < 192) ∧ 0 ≤ q ∧ q ≤ 192) : Tn (d + 3) m_X8_addOdds 0 T σ [(0, .ref a), (1, .ref x), (2, .int (iI k)), (3, .int (iI r)), (4, .int (iI q))] [] (fun ro T2 σ2 => ro = none ∧ T = T2 ∧ WT T2 σ2 ∧ FrC T [] σ σ2 ∧ (CHX [] [] [xd] σ σ2) ∧ (AOP Ld (σ2.2.2 xd) L k r q)) := by
  refine tn_iconst dX8_addOdds_0 ?_
  refine tn_istore (L' := [(5, .int (iI 0)), (0, .ref a), (1, .ref x), (2, .int (iI k)), (3, .int (iI r)), (4, .int (iI q))]) dX8_addOdds_1 (by decide) rfl ?_
  refine tn_sub [1, 2, 3, 4, 5, 0] rfl (l_X8_addOdds_x_3 (d) (T := T) (σ0 := σ) (a := a) (rx1 := x) (c2 := k) (c3 := r) (c4 := q) (L := (L)) (xd := xd) (Ld := Ld) (O0 := Ld) ha h_x (by omega) (by omega) (by omega) (by omega) hw (by omega) (by omega) hL (hxd) hne (fun i51 σ2 w5 F6 r7 f8 f9 f10 f11 => ?_) _ (0) σ hw FrC.rfl (by omega) CHX.rfl (by rw [hLd]; exact AOP.nil) (by omega) rfl)
  show Tn _ _ 52 T σ2 [(0, .ref a), (1, .ref x), (2, .int (iI k)), (3, .int (iI r)), (4, .int (iI q)), (5, .int (iI i51))] [] _
  exact tn_vret rfl dX8_addOdds_52 ⟨rfl, rfl, w5, (FrC.rfl.trans (FrC.sub F6 (by decide))), (CHX.rfl.trans (CHX.sub f8 (by simp) (by simp) (by simp))), f11⟩
end
section
set_option maxHeartbeats 1000000 in
set_option maxRecDepth 20000 in
theorem l_X8_findOdds_x_12 (d : Nat) {T : CT} {σ0 : MS} {a : Nat} {rx1 : Nat} {c2 : Int} {x : Nat} {n : Int} {W : Int → It} {fl : Nat} {xa : Nat} {La : Int → Int64} {xf : Nat} {Lf : Int → Int64} {xd : Nat} {post : Option Value → CT → MS → Prop} (h_a : OB T a 8) (h_rx1 : OB T rx1 1) (t_rx1 : (T rx1).1 = 50) (r_c2 : 0 ≤ c2 ∧ c2 ≤ 192) (hw0 : WT T σ0) (hq : 0 ≤ c2 ∧ c2 ≤ 192) (hn0 : 0 ≤ n) (hx : σ0.2.1 5 rx1 = (x : Int)) (hn : σ0.2.1 6 rx1 = n) (hW : cW σ0 x n = W) (hfl : σ0.2.1 72 a = (fl : Int)) (hxa : σ0.2.1 18 fl = (xa : Int)) (hLa : σ0.2.2 xa = La) (hxf : σ0.2.1 74 a = (xf : Int)) (hLf : σ0.2.2 xf = Lf) (hxd : σ0.2.1 73 a = (xd : Int)) (hN : n ≤ 200) (hwok : WOK W n) (hne : xa ≠ xd ∧ xf ≠ xd) (hx_46 : ∀ (i3 : Int) (σ : MS) , (WT T σ) → (FrC T [] σ0 σ) → (0 ≤ i3 ∧ i3 ≤ 192) → (CHX [] [] [xd] σ0 σ) → (ODP W c2 Lf La (σ.2.2 xd) i3 0) → (i3 ≤ c2) → (c2 ≤ i3) → Tn (d + 4) m_X8_findOdds 46 T σ [(0, .ref a), (1, .ref rx1), (2, .int (iI c2)), (3, .int (iI i3))] [] post) : ∀ (nq9 : Nat) (i3 : Int) (σ : MS) , (WT T σ) → (FrC T [] σ0 σ) → (0 ≤ i3 ∧ i3 ≤ 192) → (CHX [] [] [xd] σ0 σ) → (ODP W c2 Lf La (σ.2.2 xd) i3 0) → (i3 ≤ c2) → (2147483700 - i3).toNat = nq9 → Tn (d + 4) m_X8_findOdds 12 T σ [(0, .ref a), (1, .ref rx1), (2, .int (iI c2)), (3, .int (iI i3))] [] post := by
  intro nq9
  induction nq9 using Nat.strongRecOn with
  | _ nq9 ih =>
    intro i3 σ hw hF r_i3 hC hO h3 hm
    refine tn_iload_n dX8_findOdds_12 rfl 3 rfl ?_
    refine tn_iload_n dX8_findOdds_13 rfl 2 rfl ?_
    refine tn_icmp_ge (tgt := 46) dX8_findOdds_14 (by decide) ⟨by omega, by omega⟩ ⟨by omega, by omega⟩ (fun h1 => ?_) (fun h1 => ?_)
    · exact tn_sub [0, 1, 2, 3] rfl (hx_46 (i3) σ hw (FrC.rfl.trans (FrC.sub hF (by decide))) (by omega) hC hO (by omega) (by omega))
    · refine tn_aload_n dX8_findOdds_17 rfl 0 rfl ?_
      obtain ⟨hk4, hl5⟩ : AR T xf 3 3 3 := ar_of (wf_74 hw0 h_a) hxf
      refine tn_getR (ci := 8) (i := 2) (n := 74) (x := xf) dX8_findOdds_18 rfl lay_8 (by decide) fl8_15 h_a rfl rfl (rc_F hF (Or.inl (by decide)) (by decide) (hxf)) ?_
      refine tn_iconst dX8_findOdds_21 ?_
      refine tn_iload_n dX8_findOdds_22 rfl 3 rfl ?_
      have cv6 : σ.2.2 xf = Lf := (CHX.l hC (by first | (simp; done) | (simp only [List.mem_cons, List.not_mem_nil, or_false, not_or]; omega))).trans (hLf)
      refine tn_callSN (M := m_X8_findOdds) (pc := 23) (ix := 112) (M' := m_X11_has) (As := [.ref xf, .int (iI 0), .int (iI i3)]) (rest := []) dX8_findOdds_23 ok_X11_has stt_X11_has nl8_112 np_X11_has rfl (Nat.le_of_ble_eq_true rfl) (Nat.le_of_ble_eq_true rfl) rfl (k_X11_has_x (d + 1) (T := T) (σ := σ) (x := xf) (k := 0) (r := i3) (L := Lf) hk4 (by omega) (by decide) (by omega) hw cv6 (by omega)) (fun r7 T9 σ8 gt10 hp => ?_)
      obtain ⟨v13, rfl, rfl, rfl, f11, f12⟩ := hp
      clear gt10
      show Tn _ _ 26 T σ [(0, .ref a), (1, .ref rx1), (2, .int (iI c2)), (3, .int (iI i3))] [.int (iI v13)] _
      refine tn_if_eq (tgt := 40) dX8_findOdds_26 (by decide) ⟨by omega, by omega⟩ (fun h14 => ?_) (fun h14 => ?_)
      · refine tn_iinc (q0 := 3) (L' := [(3, .int (iI (i3 + 1))), (0, .ref a), (1, .ref rx1), (2, .int (iI c2))]) dX8_findOdds_40 rfl (by decide) rfl ?_
        refine tn_goto (tgt := 12) dX8_findOdds_43 (by decide) ?_
        exact tn_sub [1, 2, 3, 0] rfl (ih _ (by omega) (i3 + 1) σ hw (FrC.rfl.trans (FrC.sub hF (by decide))) (by omega) hC (hO.f0 (by omega) (fun z => absurd (f12.mpr z) (by omega))) (by omega) rfl)
      · refine tn_aload_n dX8_findOdds_29 rfl 0 rfl ?_
        refine tn_aload_n dX8_findOdds_30 rfl 0 rfl ?_
        refine tn_getR (ci := 8) (i := 2) (n := 74) (x := xf) dX8_findOdds_31 rfl lay_8 (by decide) fl8_15 h_a rfl rfl (rc_F hF (Or.inl (by decide)) (by decide) (hxf)) ?_
        refine tn_iconst dX8_findOdds_34 ?_
        refine tn_iload_n dX8_findOdds_35 rfl 3 rfl ?_
        refine tn_iload_n dX8_findOdds_36 rfl 2 rfl ?_
        obtain ⟨hk17, hl18⟩ : AR T xd 3 576 576 := ar_of (wf_73 hw0 h_a) hxd
        refine tn_callV (M := m_X8_findOdds) (pc := 37) (ix := 116) (ci := 8) (M' := m_X8_addOdds) (As := [.ref xf, .int (iI 0), .int (iI i3), .int (iI c2)]) (rest := []) dX8_findOdds_37 ok_X8_addOdds im_X8_addOdds se_X8_addOdds ml8_116 np_X8_addOdds rfl rfl h_a rfl (Nat.le_of_ble_eq_true rfl) (Nat.le_of_ble_eq_true rfl) rfl (k_X8_addOdds_x (d) (T := T) (σ := σ) (a := a) (x := xf) (k := 0) (r := i3) (q := c2) (L := Lf) (xd := xd) (Ld := σ.2.2 xd) h_a hk4 (by omega) (by decide) (by omega) (by omega) hw cv6 (rc_F hF (Or.inl (by decide)) (by decide) (hxd)) rfl (by omega) (by omega) (by omega)) (fun r19 T21 σ20 gt22 hp => ?_)
        obtain ⟨rfl, rfl, w26, F27, f23, f24⟩ := hp
        clear gt22
        show Tn _ _ 40 T σ20 [(0, .ref a), (1, .ref rx1), (2, .int (iI c2)), (3, .int (iI i3))] [] _
        refine tn_iinc (q0 := 3) (L' := [(3, .int (iI (i3 + 1))), (0, .ref a), (1, .ref rx1), (2, .int (iI c2))]) dX8_findOdds_40 rfl (by decide) rfl ?_
        refine tn_goto (tgt := 12) dX8_findOdds_43 (by decide) ?_
        exact tn_sub [1, 2, 3, 0] rfl (ih _ (by omega) (i3 + 1) σ20 w26 ((FrC.rfl.trans (FrC.sub hF (by decide))).trans (FrC.sub F27 (by decide))) (by omega) (hC.trans (CHX.sub f23 (by simp) (by simp) (by simp))) (hO.f1 ⟨by omega, by omega⟩ (f12.mp (by omega)) f24) (by omega) rfl)
set_option maxHeartbeats 1000000 in
set_option maxRecDepth 20000 in
theorem l_X8_findOdds_x_48 (d : Nat) {T : CT} {σ0 : MS} {a : Nat} {rx1 : Nat} {c2 : Int} {x : Nat} {n : Int} {W : Int → It} {fl : Nat} {xa : Nat} {La : Int → Int64} {xf : Nat} {Lf : Int → Int64} {xd : Nat} {post : Option Value → CT → MS → Prop} (h_a : OB T a 8) (h_rx1 : OB T rx1 1) (t_rx1 : (T rx1).1 = 50) (r_c2 : 0 ≤ c2 ∧ c2 ≤ 192) (hw0 : WT T σ0) (hq : 0 ≤ c2 ∧ c2 ≤ 192) (hrg : ∀ i g, 0 ≤ i → i < n → wrT (W i) g → g < c2) (hn0 : 0 ≤ n) (hx : σ0.2.1 5 rx1 = (x : Int)) (hn : σ0.2.1 6 rx1 = n) (hW : cW σ0 x n = W) (hfl : σ0.2.1 72 a = (fl : Int)) (hxa : σ0.2.1 18 fl = (xa : Int)) (hLa : σ0.2.2 xa = La) (hxf : σ0.2.1 74 a = (xf : Int)) (hLf : σ0.2.2 xf = Lf) (hxd : σ0.2.1 73 a = (xd : Int)) (hN : n ≤ 200) (hwok : WOK W n) (hne : xa ≠ xd ∧ xf ≠ xd) (hx_92 : ∀ (i3 : Int) (σ : MS) , (WT T σ) → (FrC T [] σ0 σ) → (0 ≤ i3 ∧ i3 ≤ 200) → (CHX [] [] [xd] σ0 σ) → (True) → (i3 ≤ n) → (ODP W c2 Lf La (σ.2.2 xd) c2 n) → Tn (d + 4) m_X8_findOdds 92 T σ [(0, .ref a), (1, .ref rx1), (2, .int (iI c2)), (3, .int (iI i3))] [] post) : ∀ (nq9 : Nat) (i3 : Int) (σ : MS) , (WT T σ) → (FrC T [] σ0 σ) → (0 ≤ i3 ∧ i3 ≤ 200) → (CHX [] [] [xd] σ0 σ) → (ODP W c2 Lf La (σ.2.2 xd) c2 i3) → (i3 ≤ n) → (2147483700 - i3).toNat = nq9 → Tn (d + 4) m_X8_findOdds 48 T σ [(0, .ref a), (1, .ref rx1), (2, .int (iI c2)), (3, .int (iI i3))] [] post := by
  intro nq9
  induction nq9 using Nat.strongRecOn with
  | _ nq9 ih =>
    intro i3 σ hw hF r_i3 hC hO h3 hm
    refine tn_iload_n dX8_findOdds_48 rfl 3 rfl ?_
    refine tn_aload_n dX8_findOdds_49 rfl 1 rfl ?_
    refine tn_getI (ci := 1) (i := 1) (n := 6) (t := σ0.2.1 6 rx1) dX8_findOdds_50 rfl lay_1 (by decide) fl8_70 h_rx1 rfl rfl (rc_F hF (Or.inl (by decide)) (by decide) (rfl)) ?_
    have g1 : ((0 : Int) ≤ σ0.2.1 6 rx1 ∧ σ0.2.1 6 rx1 ≤ 5000) ∧ ((T rx1).1 = 50 → σ0.2.1 6 rx1 ≤ 200) := wf_6 hw0 h_rx1
    have g1x := g1.2
    replace g1 := g1.1
    have g1x := g1x t_rx1
    refine tn_icmp_ge (tgt := 92) dX8_findOdds_53 (by decide) ⟨by omega, by omega⟩ ⟨by omega, by omega⟩ (fun h2 => ?_) (fun h2 => ?_)
    · exact tn_sub [0, 1, 2, 3] rfl (hx_92 (i3) σ hw (FrC.rfl.trans (FrC.sub hF (by decide))) (by omega) hC True.intro (by omega) (hO.to rfl (by omega)))
    · refine tn_aload_n dX8_findOdds_56 rfl 1 rfl ?_
      refine tn_iload_n dX8_findOdds_57 rfl 3 rfl ?_
      obtain ⟨hl6, hk5a, hk5b⟩ := cel_of (wf_5 hw0 h_rx1) hx
      have hk5 : (T x).1 = 1 := hk5a (by omega)
      clear hk5a hk5b
      have hk5i : IA T x := by unfold IA; omega
      have cv7 : cW σ x n = W := (cW_row (CHX.r hC (by first | (simp; done) | (simp only [List.mem_cons, List.not_mem_nil, or_false, not_or]; omega)))).trans (hW)
      refine tn_callV (M := m_X8_findOdds) (pc := 58) (ix := 120) (ci := 1) (M' := m_X1_writtenBy) (As := [.int (iI i3)]) (rest := []) dX8_findOdds_58 ok_X1_writtenBy im_X1_writtenBy se_X1_writtenBy ml8_120 np_X1_writtenBy rfl rfl h_rx1 rfl (Nat.le_of_ble_eq_true rfl) (Nat.le_of_ble_eq_true rfl) rfl (k_X1_writtenBy_x (d + 1) (T := T) (σ := σ) (a := rx1) (k := i3) (x := x) (n := n) (W := W) h_rx1 (by omega) hw (rc_F hF (Or.inl (by decide)) (by decide) (hx)) (rc_F hF (Or.inl (by decide)) (by decide) (hn)) cv7 (by omega)) (fun r8 T10 σ9 gt11 hp => ?_)
      obtain ⟨v14, rfl, rfl, rfl, f12, f13⟩ := hp
      clear gt11
      show Tn _ _ 61 T σ [(0, .ref a), (1, .ref rx1), (2, .int (iI c2)), (3, .int (iI i3))] [.int (iI v14)] _
      refine tn_istore (L' := [(4, .int (iI v14)), (0, .ref a), (1, .ref rx1), (2, .int (iI c2)), (3, .int (iI i3))]) dX8_findOdds_61 (by decide) rfl ?_
      refine tn_iload dX8_findOdds_63 0 rfl ?_
      refine tn_iconst dX8_findOdds_65 ?_
      refine tn_icmp_eq (tgt := 86) dX8_findOdds_66 (by decide) ⟨by omega, by omega⟩ ⟨by decide, by decide⟩ (fun h15 => ?_) (fun h15 => ?_)
      · refine tn_iinc (q0 := 4) (L' := [(3, .int (iI (i3 + 1))), (4, .int (iI v14)), (0, .ref a), (1, .ref rx1), (2, .int (iI c2))]) dX8_findOdds_86 rfl (by decide) rfl ?_
        refine tn_goto (tgt := 48) dX8_findOdds_89 (by decide) ?_
        exact tn_sub [2, 3, 4, 0] rfl (ih _ (by omega) (i3 + 1) σ hw (FrC.rfl.trans (FrC.sub hF (by decide))) (by omega) hC (hO.k0 (hwok i3 (by omega) (by omega)) ⟨by omega, by omega⟩ f13 (by omega)) (by omega) rfl)
      · refine tn_aload_n dX8_findOdds_69 rfl 1 rfl ?_
        refine tn_aload_n dX8_findOdds_70 rfl 1 rfl ?_
        have hk18 : (T fl).1 = 33 := ob_of (wf_72 hw0 h_a) hfl
        have hk18o : OB T fl 3 := ⟨by omega, by rw [hk18]; rfl, by omega⟩
        refine tn_getR (ci := 8) (i := 0) (n := 72) (x := fl) dX8_findOdds_71 rfl lay_8 (by decide) fl8_34 h_a rfl rfl (rc_F hF (Or.inl (by decide)) (by decide) (hfl)) ?_
        obtain ⟨hk22, hl23⟩ : AR T xa 3 603 603 := ar_of (wf_18 hw0 hk18o) hxa
        refine tn_getR (ci := 3) (i := 0) (n := 18) (x := xa) dX8_findOdds_74 rfl lay_3 (by decide) fl8_89 hk18o rfl rfl (rc_F hF (Or.inl (by decide)) (by decide) (hxa)) ?_
        refine tn_iload_n dX8_findOdds_77 rfl 4 rfl ?_
        refine tn_iconst dX8_findOdds_78 ?_
        refine tn_iadd dX8_findOdds_79 ?_
        refine tn_iload dX8_findOdds_80 0 rfl ?_
        refine tn_iload_n dX8_findOdds_82 rfl 3 rfl ?_
        have cv24 : σ.2.2 xa = La := (CHX.l hC (by first | (simp; done) | (simp only [List.mem_cons, List.not_mem_nil, or_false, not_or]; omega))).trans (hLa)
        obtain ⟨hk27, hl28⟩ : AR T xd 3 576 576 := ar_of (wf_73 hw0 h_a) hxd
        refine tn_callV (M := m_X8_findOdds) (pc := 83) (ix := 116) (ci := 8) (M' := m_X8_addOdds) (As := [.ref xa, .int (iI (i3 + 1)), .int (iI v14), .int (iI c2)]) (rest := []) dX8_findOdds_83 ok_X8_addOdds im_X8_addOdds se_X8_addOdds ml8_116 np_X8_addOdds rfl rfl h_a rfl (Nat.le_of_ble_eq_true rfl) (Nat.le_of_ble_eq_true rfl) rfl (k_X8_addOdds_x (d) (T := T) (σ := σ) (a := a) (x := xa) (k := i3 + 1) (r := v14) (q := c2) (L := La) (xd := xd) (Ld := σ.2.2 xd) h_a hk22 (by omega) (by omega) (by omega) (by omega) hw cv24 (rc_F hF (Or.inl (by decide)) (by decide) (hxd)) rfl (by omega) (by omega) ⟨(by have z := f13; unfold WBQ at z; have z2 := hwok i3 (by omega) (by omega); have z3 := z2.1; have z4 := z2.2.1; omega), by omega⟩) (fun r29 T31 σ30 gt32 hp => ?_)
        obtain ⟨rfl, rfl, w36, F37, f33, f34⟩ := hp
        clear gt32
        show Tn _ _ 86 T σ30 [(4, .int (iI v14)), (0, .ref a), (1, .ref rx1), (2, .int (iI c2)), (3, .int (iI i3))] [] _
        refine tn_iinc (q0 := 4) (L' := [(3, .int (iI (i3 + 1))), (4, .int (iI v14)), (0, .ref a), (1, .ref rx1), (2, .int (iI c2))]) dX8_findOdds_86 rfl (by decide) rfl ?_
        refine tn_goto (tgt := 48) dX8_findOdds_89 (by decide) ?_
        exact tn_sub [2, 3, 4, 0] rfl (ih _ (by omega) (i3 + 1) σ30 w36 ((FrC.rfl.trans (FrC.sub hF (by decide))).trans (FrC.sub F37 (by decide))) (by omega) (hC.trans (CHX.sub f33 (by simp) (by simp) (by simp))) (hO.k1 (hwok i3 (by omega) (by omega)) ⟨by omega, by omega⟩ f13 (by omega) (hrg i3 _ (by omega) (by omega) ((wb_wr (hwok i3 (by omega) (by omega)) ⟨by omega, by omega⟩ f13).mp ⟨rfl, (by have z := f13; unfold WBQ at z; have z2 := hwok i3 (by omega) (by omega); have z3 := z2.1; have z4 := z2.2.1; omega)⟩)) (by omega) f34) (by omega) rfl)
set_option maxHeartbeats 1000000 in
set_option maxRecDepth 20000 in
theorem k_X8_findOdds_x (d : Nat) {T : CT} {σ : MS} {a : Nat} {p1 : Nat} {p2 : Int} {x : Nat} {n : Int} {W : Int → It} {fl : Nat} {xa : Nat} {La : Int → Int64} {xf : Nat} {Lf : Int → Int64} {xd : Nat} (ha : OB T a 8) (h_p1 : OB T p1 1) (t_p1 : (T p1).1 = 50) (h_p2 : -2147483648 ≤ p2 ∧ p2 ≤ 2147483647) (hw : WT T σ) (hx : σ.2.1 5 p1 = (x : Int)) (hn : σ.2.1 6 p1 = n) (hW : cW σ x n = W) (hfl : σ.2.1 72 a = (fl : Int)) (hxa : σ.2.1 18 fl = (xa : Int)) (hLa : σ.2.2 xa = La) (hxf : σ.2.1 74 a = (xf : Int)) (hLf : σ.2.2 xf = Lf) (hxd : σ.2.1 73 a = (xd : Int)) (hN : n ≤ 200) (hwok : WOK W n) (hne : xa ≠ xd ∧ xf ≠ xd) (hq : 0 ≤ p2 ∧ p2 ≤ 192) (hrg : ∀ i g, 0 ≤ i → i < n → wrT (W i) g → g < p2) : Tn (d + 4) m_X8_findOdds 0 T σ [(0, .ref a), (1, .ref p1), (2, .int (iI p2))] [] (fun ro T2 σ2 => ro = none ∧ T = T2 ∧ WT T2 σ2 ∧ FrC T [] σ σ2 ∧ (CHX [] [] [xd] σ σ2) ∧ (ODP W p2 Lf La (σ2.2.2 xd) p2 n)) := by
  have h6 := wf_6 hw h_p1
  refine tn_aload_n dX8_findOdds_0 rfl 0 rfl ?_
  obtain ⟨hk3, hl4⟩ : AR T xd 3 576 576 := ar_of (wf_73 hw ha) hxd
  refine tn_getR (ci := 8) (i := 1) (n := 73) (x := xd) dX8_findOdds_1 rfl lay_8 (by decide) fl8_9 ha rfl rfl (hxd) ?_
  refine tn_iload_n dX8_findOdds_4 rfl 2 rfl ?_
  refine tn_iconst dX8_findOdds_5 ?_
  refine tn_imul dX8_findOdds_6 ?_
  refine tn_callSN (M := m_X8_findOdds) (pc := 7) (ix := 108) (M' := m_X11_clear) (As := [.ref xd, .int (iI (p2 * 3))]) (rest := []) dX8_findOdds_7 ok_X11_clear stt_X11_clear nl8_108 np_X11_clear rfl (Nat.le_of_ble_eq_true rfl) (Nat.le_of_ble_eq_true rfl) rfl (k_X11_clear_x (d) (T := T) (σ := σ) (x := xd) (n := p2 * 3) hk3 (by omega) (by omega) hw (by omega)) (fun r5 T7 σ6 gt8 hp => ?_)
  obtain ⟨rfl, rfl, w12, F13, f9, f10⟩ := hp
  clear gt8
  show Tn _ _ 10 T σ6 [(0, .ref a), (1, .ref p1), (2, .int (iI p2))] [] _
  refine tn_iconst dX8_findOdds_10 ?_
  refine tn_istore_n (L' := [(3, .int (iI 0)), (0, .ref a), (1, .ref p1), (2, .int (iI p2))]) dX8_findOdds_11 rfl (by decide) rfl ?_
  have cv14 : cW σ6 x n = W := (cW_row (CHX.r f9 (by first | (simp; done) | (simp only [List.mem_cons, List.not_mem_nil, or_false, not_or]; omega)))).trans (hW)
  have cv15 : σ6.2.2 xa = La := (CHX.l f9 (by first | (simp; done) | (simp only [List.mem_cons, List.not_mem_nil, or_false, not_or]; omega))).trans (hLa)
  have cv16 : σ6.2.2 xf = Lf := (CHX.l f9 (by first | (simp; done) | (simp only [List.mem_cons, List.not_mem_nil, or_false, not_or]; omega))).trans (hLf)
  refine tn_sub [1, 2, 3, 0] rfl (l_X8_findOdds_x_12 (d) (T := T) (σ0 := σ6) (a := a) (rx1 := p1) (c2 := p2) (x := x) (n := n) (W := (W)) (fl := fl) (xa := xa) (La := (La)) (xf := xf) (Lf := (Lf)) (xd := xd) ha h_p1 t_p1 (by omega) w12 (by omega) (by omega) (rc_F F13 (Or.inl (by decide)) (by decide) (hx)) (rc_F F13 (Or.inl (by decide)) (by decide) (hn)) cv14 (rc_F F13 (Or.inl (by decide)) (by decide) (hfl)) (rc_F F13 (Or.inl (by decide)) (by decide) (hxa)) cv15 (rc_F F13 (Or.inl (by decide)) (by decide) (hxf)) cv16 (rc_F F13 (Or.inl (by decide)) (by decide) (hxd)) hN hwok hne (fun i317 σ18 w21 F22 r23 f24 f25 f26 f27 => ?_) _ (0) σ6 w12 FrC.rfl (by omega) CHX.rfl (ODP.nil (fun x y a b => bT_z (fun i c d => f10.z (by omega) (by omega)))) (by omega) rfl)
  show Tn _ _ 46 T σ18 [(0, .ref a), (1, .ref p1), (2, .int (iI p2)), (3, .int (iI i317))] [] _
  refine tn_iconst dX8_findOdds_46 ?_
  refine tn_istore_n (L' := [(3, .int (iI 0)), (0, .ref a), (1, .ref p1), (2, .int (iI p2))]) dX8_findOdds_47 rfl (by decide) rfl ?_
  have cv28 : cW σ18 x n = W := (cW_row (CHX.r f24 (by first | (simp; done) | (simp only [List.mem_cons, List.not_mem_nil, or_false, not_or]; omega)))).trans (cv14)
  have cv29 : σ18.2.2 xa = La := (CHX.l f24 (by first | (simp; done) | (simp only [List.mem_cons, List.not_mem_nil, or_false, not_or]; omega))).trans (cv15)
  have cv30 : σ18.2.2 xf = Lf := (CHX.l f24 (by first | (simp; done) | (simp only [List.mem_cons, List.not_mem_nil, or_false, not_or]; omega))).trans (cv16)
  refine tn_sub [1, 2, 3, 0] rfl (l_X8_findOdds_x_48 (d) (T := T) (σ0 := σ18) (a := a) (rx1 := p1) (c2 := p2) (x := x) (n := n) (W := (W)) (fl := fl) (xa := xa) (La := (La)) (xf := xf) (Lf := (Lf)) (xd := xd) ha h_p1 t_p1 (by omega) w21 (by omega) hrg (by omega) (rc_F F22 (Or.inl (by decide)) (by decide) (rc_F F13 (Or.inl (by decide)) (by decide) (hx))) (rc_F F22 (Or.inl (by decide)) (by decide) (rc_F F13 (Or.inl (by decide)) (by decide) (hn))) cv28 (rc_F F22 (Or.inl (by decide)) (by decide) (rc_F F13 (Or.inl (by decide)) (by decide) (hfl))) (rc_F F22 (Or.inl (by decide)) (by decide) (rc_F F13 (Or.inl (by decide)) (by decide) (hxa))) cv29 (rc_F F22 (Or.inl (by decide)) (by decide) (rc_F F13 (Or.inl (by decide)) (by decide) (hxf))) cv30 (rc_F F22 (Or.inl (by decide)) (by decide) (rc_F F13 (Or.inl (by decide)) (by decide) (hxd))) hN hwok hne (fun i331 σ32 w35 F36 r37 f38 f39 f40 f41 => ?_) _ (0) σ18 w21 FrC.rfl (by omega) CHX.rfl (f25.to (by omega) rfl) (by omega) rfl)
  show Tn _ _ 92 T σ32 [(0, .ref a), (1, .ref p1), (2, .int (iI p2)), (3, .int (iI i331))] [] _
  exact tn_vret rfl dX8_findOdds_92 ⟨rfl, rfl, w35, (((FrC.rfl.trans (FrC.sub F13 (by decide))).trans (FrC.sub F22 (by decide))).trans (FrC.sub F36 (by decide))), (((CHX.rfl.trans (CHX.sub f9 (by simp) (by simp) (by simp))).trans (CHX.sub f24 (by simp) (by simp) (by simp))).trans (CHX.sub f38 (by simp) (by simp) (by simp))), f41⟩
end
section
set_option maxHeartbeats 1000000 in
set_option maxRecDepth 20000 in
theorem l_X8_meets_x_2 (d : Nat) {T : CT} {σ : MS} {a : Nat} {c1 : Int} {c2 : Int} {xg : Nat} {Lg : Int → Int64} {xd : Nat} {Ld : Int → Int64} {post : Option Value → CT → MS → Prop} (h_a : OB T a 8) (r_c1 : 0 ≤ c1 ∧ c1 ≤ 191) (r_c2 : 0 ≤ c2 ∧ c2 ≤ 191) (hw : WT T σ) (hlr : (0 ≤ c1 ∧ c1 < 192) ∧ 0 ≤ c2 ∧ c2 < 192) (hxg : σ.2.1 76 a = (xg : Int)) (hLg : σ.2.2 xg = Lg) (hxd : σ.2.1 73 a = (xd : Int)) (hLd : σ.2.2 xd = Ld) (hx_37 : ∀ (i3 : Int) , (0 ≤ i3 ∧ i3 ≤ 3) → (True) → (MTQ Lg Ld c1 c2 1) → Tn (d + 2) m_X8_meets 37 T σ [(0, .ref a), (1, .int (iI c1)), (2, .int (iI c2)), (3, .int (iI i3))] [] post) (hx_45 : ∀ (i3 : Int) , (0 ≤ i3 ∧ i3 ≤ 3) → (True) → (MTQ Lg Ld c1 c2 0) → Tn (d + 2) m_X8_meets 45 T σ [(0, .ref a), (1, .int (iI c1)), (2, .int (iI c2)), (3, .int (iI i3))] [] post) : ∀ (nq9 : Nat) (i3 : Int) , (0 ≤ i3 ∧ i3 ≤ 3) → (MTP Lg Ld c1 c2 i3) → (2147483700 - i3).toNat = nq9 → Tn (d + 2) m_X8_meets 2 T σ [(0, .ref a), (1, .int (iI c1)), (2, .int (iI c2)), (3, .int (iI i3))] [] post := by
  intro nq9
  induction nq9 using Nat.strongRecOn with
  | _ nq9 ih =>
    intro i3 r_i3 hM hm
    refine tn_iload_n dX8_meets_2 rfl 3 rfl ?_
    refine tn_iconst dX8_meets_3 ?_
    refine tn_icmp_ge (tgt := 45) dX8_meets_4 (by decide) ⟨by omega, by omega⟩ ⟨by decide, by decide⟩ (fun h1 => ?_) (fun h1 => ?_)
    · exact tn_sub [0, 1, 2, 3] rfl (hx_45 (i3) (by omega) True.intro (hM.no (by omega)))
    · refine tn_aload_n dX8_meets_7 rfl 0 rfl ?_
      obtain ⟨hk4, hl5⟩ : AR T xg 3 576 576 := ar_of (wf_76 hw h_a) hxg
      refine tn_getR (ci := 8) (i := 4) (n := 76) (x := xg) dX8_meets_8 rfl lay_8 (by decide) fl8_22 h_a rfl rfl (hxg) ?_
      refine tn_iload_n dX8_meets_11 rfl 1 rfl ?_
      refine tn_iconst dX8_meets_12 ?_
      refine tn_imul dX8_meets_13 ?_
      refine tn_iload_n dX8_meets_14 rfl 3 rfl ?_
      refine tn_iadd dX8_meets_15 ?_
      refine tn_callSN (M := m_X8_meets) (pc := 16) (ix := 132) (M' := m_X11_bitsAt) (As := [.ref xg, .int (iI ((c1 * 3) + i3))]) (rest := []) dX8_meets_16 ok_X11_bitsAt stt_X11_bitsAt nl8_132 np_X11_bitsAt rfl (Nat.le_of_ble_eq_true rfl) (Nat.le_of_ble_eq_true rfl) rfl (k_X11_bitsAt_x (d) (T := T) (σ := σ) (x := xg) (i := (c1 * 3) + i3) hk4 (by omega) (by omega) hw ) (fun r6 T8 σ7 gt9 hp => ?_)
      obtain ⟨v11, rfl, rfl, rfl, f10⟩ := hp
      clear gt9
      show Tn _ _ 19 T σ [(0, .ref a), (1, .int (iI c1)), (2, .int (iI c2)), (3, .int (iI i3))] [.long (v11)] _
      refine tn_aload_n dX8_meets_19 rfl 0 rfl ?_
      obtain ⟨hk14, hl15⟩ : AR T xd 3 576 576 := ar_of (wf_73 hw h_a) hxd
      refine tn_getR (ci := 8) (i := 1) (n := 73) (x := xd) dX8_meets_20 rfl lay_8 (by decide) fl8_9 h_a rfl rfl (hxd) ?_
      refine tn_iload_n dX8_meets_23 rfl 2 rfl ?_
      refine tn_iconst dX8_meets_24 ?_
      refine tn_imul dX8_meets_25 ?_
      refine tn_iload_n dX8_meets_26 rfl 3 rfl ?_
      refine tn_iadd dX8_meets_27 ?_
      refine tn_callSN (M := m_X8_meets) (pc := 28) (ix := 132) (M' := m_X11_bitsAt) (As := [.ref xd, .int (iI ((c2 * 3) + i3))]) (rest := [.long (v11)]) dX8_meets_28 ok_X11_bitsAt stt_X11_bitsAt nl8_132 np_X11_bitsAt rfl (Nat.le_of_ble_eq_true rfl) (Nat.le_of_ble_eq_true rfl) rfl (k_X11_bitsAt_x (d) (T := T) (σ := σ) (x := xd) (i := (c2 * 3) + i3) hk14 (by omega) (by omega) hw ) (fun r16 T18 σ17 gt19 hp => ?_)
      obtain ⟨v21, rfl, rfl, rfl, f20⟩ := hp
      clear gt19
      show Tn _ _ 31 T σ [(0, .ref a), (1, .int (iI c1)), (2, .int (iI c2)), (3, .int (iI i3))] [.long (v21), .long (v11)] _
      refine tn_land dX8_meets_31 ?_
      refine tn_lconst (v := 0) dX8_meets_32 rfl ?_
      refine tn_lcmpX dX8_meets_33 ?_
      refine tn_lcmpE (fun z22 g23 g23w => ?_)
      refine tn_if_eq (tgt := 39) dX8_meets_34 (by decide) ⟨by omega, by omega⟩ (fun h24 => ?_) (fun h24 => ?_)
      · refine tn_iinc (q0 := 3) (L' := [(3, .int (iI (i3 + 1))), (0, .ref a), (1, .int (iI c1)), (2, .int (iI c2))]) dX8_meets_39 rfl (by decide) rfl ?_
        refine tn_goto (tgt := 2) dX8_meets_42 (by decide) ?_
        exact tn_sub [1, 2, 3, 0] rfl (ih _ (by omega) (i3 + 1) (by omega) (hM.step (ltv_in f10 hLg (show _ = 3 * c1 + i3 by omega) ⟨by omega, by omega⟩) (ltv_in f20 hLd (show _ = 3 * c2 + i3 by omega) ⟨by omega, by omega⟩) (g23w.mp (by omega))) rfl)
      · exact tn_sub [0, 1, 2, 3] rfl (hx_37 (i3) (by omega) True.intro (MTP.yes ⟨by omega, by omega⟩ (ltv_in f10 hLg (show _ = 3 * c1 + i3 by omega) ⟨by omega, by omega⟩) (ltv_in f20 hLd (show _ = 3 * c2 + i3 by omega) ⟨by omega, by omega⟩) (fun q => absurd (g23w.mpr q) (by omega))))
set_option maxHeartbeats 1000000 in
set_option maxRecDepth 20000 in
theorem k_X8_meets_x (d : Nat) {T : CT} {σ : MS} {a : Nat} {p1 : Int} {p2 : Int} {xg : Nat} {Lg : Int → Int64} {xd : Nat} {Ld : Int → Int64} (ha : OB T a 8) (h_p1 : -2147483648 ≤ p1 ∧ p1 ≤ 2147483647) (h_p2 : -2147483648 ≤ p2 ∧ p2 ≤ 2147483647) (hw : WT T σ) (hxg : σ.2.1 76 a = (xg : Int)) (hLg : σ.2.2 xg = Lg) (hxd : σ.2.1 73 a = (xd : Int)) (hLd : σ.2.2 xd = Ld) (hlr : (0 ≤ p1 ∧ p1 < 192) ∧ 0 ≤ p2 ∧ p2 < 192) : Tn (d + 2) m_X8_meets 0 T σ [(0, .ref a), (1, .int (iI p1)), (2, .int (iI p2))] [] (fun ro T2 σ2 => ∃ v : Int, ro = some (.int (iI v)) ∧ T = T2 ∧ σ = σ2 ∧ (v = 0 ∨ v = 1) ∧ (MTQ Lg Ld p1 p2 v)) := by
  refine tn_iconst dX8_meets_0 ?_
  refine tn_istore_n (L' := [(3, .int (iI 0)), (0, .ref a), (1, .int (iI p1)), (2, .int (iI p2))]) dX8_meets_1 rfl (by decide) rfl ?_
  refine tn_sub [1, 2, 3, 0] rfl (l_X8_meets_x_2 (d) (T := T) (σ := σ) (a := a) (c1 := p1) (c2 := p2) (xg := xg) (Lg := (Lg)) (xd := xd) (Ld := (Ld)) ha (by omega) (by omega) hw (by omega) (hxg) hLg (hxd) hLd (fun i31 r7 f8 f9 => ?_) (fun i310 r16 f17 f18 => ?_) _ (0) (by omega) (fun j a b => by omega) rfl)
  · show Tn _ _ 37 T σ [(0, .ref a), (1, .int (iI p1)), (2, .int (iI p2)), (3, .int (iI i31))] [] _
    refine tn_iconst dX8_meets_37 ?_
    exact tn_zret (v := 1) rfl (by decide) dX8_meets_38 ⟨_, rfl, rfl, rfl, by omega, f9⟩
  · show Tn _ _ 45 T σ [(0, .ref a), (1, .int (iI p1)), (2, .int (iI p2)), (3, .int (iI i310))] [] _
    refine tn_iconst dX8_meets_45 ?_
    exact tn_zret (v := 0) rfl (by decide) dX8_meets_46 ⟨_, rfl, rfl, rfl, by omega, f18⟩
end
section
set_option maxHeartbeats 1000000 in
set_option maxRecDepth 20000 in
theorem l_X8_numberAnew_x_19 (d : Nat) {T : CT} {σ : MS} {a : Nat} {c1 : Int} {c2 : Int} {Lg : Int → Int64} {xg : Nat} {xd : Nat} {Ld : Int → Int64} {xm_ : Nat} {post : Option Value → CT → MS → Prop} (h_a : OB T a 8) (r_c1 : 1 ≤ c1 ∧ c1 ≤ 192) (r_c2 : 0 ≤ c2 ∧ c2 ≤ 191) (hw : WT T σ) (h2c : 0 ≤ c2 ∧ c2 < 192) (hLg : σ.2.2 xg = Lg) (hxg : σ.2.1 76 a = (xg : Int)) (hxd : σ.2.1 73 a = (xd : Int)) (hLd : σ.2.2 xd = Ld) (hxm_ : σ.2.1 75 a = (xm_ : Int)) (hne : xg ≠ xd) (hx_39 : ∀ (i3 : Int) , (0 ≤ i3 ∧ i3 ≤ 191) → (∀ m, 0 ≤ m → m < i3 → ∃ g, bT Lg m g ∧ bT Ld c2 g) → (i3 ≤ c2) → (c2 ≤ i3 ∨ ∀ g, ¬ (bT Lg i3 g ∧ bT Ld c2 g)) → Tn (d + 4) m_X8_numberAnew 39 T σ [(0, .ref a), (1, .int (iI c1)), (2, .int (iI c2)), (3, .int (iI i3))] [] post) : ∀ (nq9 : Nat) (i3 : Int) , (0 ≤ i3 ∧ i3 ≤ 191) → (∀ m, 0 ≤ m → m < i3 → ∃ g, bT Lg m g ∧ bT Ld c2 g) → (i3 ≤ c2) → (2147483700 - i3).toNat = nq9 → Tn (d + 4) m_X8_numberAnew 19 T σ [(0, .ref a), (1, .int (iI c1)), (2, .int (iI c2)), (3, .int (iI i3))] [] post := by
  intro nq9
  induction nq9 using Nat.strongRecOn with
  | _ nq9 ih =>
    intro i3 r_i3 hL_ h3 hm
    refine tn_iload_n dX8_numberAnew_19 rfl 3 rfl ?_
    refine tn_iload_n dX8_numberAnew_20 rfl 2 rfl ?_
    refine tn_icmp_ge (tgt := 39) dX8_numberAnew_21 (by decide) ⟨by omega, by omega⟩ ⟨by omega, by omega⟩ (fun h1 => ?_) (fun h1 => ?_)
    · exact tn_sub [0, 1, 2, 3] rfl (hx_39 (i3) (by omega) hL_ (by omega) (Or.inl (by omega)))
    · refine tn_aload_n dX8_numberAnew_24 rfl 0 rfl ?_
      refine tn_iload_n dX8_numberAnew_25 rfl 3 rfl ?_
      refine tn_iload_n dX8_numberAnew_26 rfl 2 rfl ?_
      obtain ⟨hk4, hl5⟩ : AR T xg 3 576 576 := ar_of (wf_76 hw h_a) hxg
      obtain ⟨hk8, hl9⟩ : AR T xd 3 576 576 := ar_of (wf_73 hw h_a) hxd
      refine tn_callV (M := m_X8_numberAnew) (pc := 27) (ix := 124) (ci := 8) (M' := m_X8_meets) (As := [.int (iI i3), .int (iI c2)]) (rest := []) dX8_numberAnew_27 ok_X8_meets im_X8_meets se_X8_meets ml8_124 np_X8_meets rfl rfl h_a rfl (Nat.le_of_ble_eq_true rfl) (Nat.le_of_ble_eq_true rfl) rfl (k_X8_meets_x (d + 1) (T := T) (σ := σ) (a := a) (p1 := i3) (p2 := c2) (xg := xg) (Lg := Lg) (xd := xd) (Ld := Ld) h_a (by omega) (by omega) hw (hxg) hLg (hxd) hLd (by omega)) (fun r10 T12 σ11 gt13 hp => ?_)
      obtain ⟨v16, rfl, rfl, rfl, f14, f15⟩ := hp
      clear gt13
      show Tn _ _ 30 T σ [(0, .ref a), (1, .int (iI c1)), (2, .int (iI c2)), (3, .int (iI i3))] [.int (iI v16)] _
      refine tn_if_eq (tgt := 39) dX8_numberAnew_30 (by decide) ⟨by omega, by omega⟩ (fun h17 => ?_) (fun h17 => ?_)
      · exact tn_sub [0, 1, 2, 3] rfl (hx_39 (i3) (by omega) hL_ (by omega) (Or.inr (f15.resolve_left (fun q => absurd q.1 (by omega))).2))
      · refine tn_iinc (q0 := 3) (L' := [(3, .int (iI (i3 + 1))), (0, .ref a), (1, .int (iI c1)), (2, .int (iI c2))]) dX8_numberAnew_33 rfl (by decide) rfl ?_
        refine tn_goto (tgt := 19) dX8_numberAnew_36 (by decide) ?_
        exact tn_sub [1, 2, 3, 0] rfl (ih _ (by omega) (i3 + 1) (by omega) (fun m a b => (Classical.em (m = i3)).elim (fun e => by rw [e]; exact (f15.resolve_right (fun q => absurd q.1 (by omega))).2) (fun e => hL_ m a (by omega))) (by omega) rfl)
set_option maxHeartbeats 1000000 in
set_option maxRecDepth 20000 in
theorem l_X8_numberAnew_x_12 (d : Nat) {T : CT} {σ0 : MS} {a : Nat} {c1 : Int} {xg : Nat} {xd : Nat} {Ld : Int → Int64} {xm_ : Nat} {post : Option Value → CT → MS → Prop} (h_a : OB T a 8) (r_c1 : 0 ≤ c1 ∧ c1 ≤ 192) (hw0 : WT T σ0) (hq : 0 ≤ c1 ∧ c1 ≤ 192) (hxg : σ0.2.1 76 a = (xg : Int)) (hxd : σ0.2.1 73 a = (xd : Int)) (hLd : σ0.2.2 xd = Ld) (hxm_ : σ0.2.1 75 a = (xm_ : Int)) (hne : xg ≠ xd) (hx_63 : ∀ (i2 : Int) (σ : MS) , (WT T σ) → (FrC T [] σ0 σ) → (0 ≤ i2 ∧ i2 ≤ 192) → (CHX [] [xm_] [xg] σ0 σ) → (True) → (i2 ≤ c1) → (NAP Ld (σ.2.2 xg) (σ.2.1 (1000 + xm_)) c1 c1) → Tn (d + 4) m_X8_numberAnew 63 T σ [(0, .ref a), (1, .int (iI c1)), (2, .int (iI i2))] [] post) : ∀ (nq9 : Nat) (i2 : Int) (σ : MS) , (WT T σ) → (FrC T [] σ0 σ) → (0 ≤ i2 ∧ i2 ≤ 192) → (CHX [] [xm_] [xg] σ0 σ) → (NAP Ld (σ.2.2 xg) (σ.2.1 (1000 + xm_)) c1 i2) → (i2 ≤ c1) → (2147483700 - i2).toNat = nq9 → Tn (d + 4) m_X8_numberAnew 12 T σ [(0, .ref a), (1, .int (iI c1)), (2, .int (iI i2))] [] post := by
  intro nq9
  induction nq9 using Nat.strongRecOn with
  | _ nq9 ih =>
    intro i2 σ hw hF r_i2 hC hN_ h2 hm
    refine tn_iload_n dX8_numberAnew_12 rfl 2 rfl ?_
    refine tn_iload_n dX8_numberAnew_13 rfl 1 rfl ?_
    refine tn_icmp_ge (tgt := 63) dX8_numberAnew_14 (by decide) ⟨by omega, by omega⟩ ⟨by omega, by omega⟩ (fun h1 => ?_) (fun h1 => ?_)
    · exact tn_sub [0, 1, 2] rfl (hx_63 (i2) σ hw (FrC.rfl.trans (FrC.sub hF (by decide))) (by omega) hC True.intro (by omega) (hN_.to (by omega)))
    · refine tn_iconst dX8_numberAnew_17 ?_
      refine tn_istore_n (L' := [(3, .int (iI 0)), (0, .ref a), (1, .int (iI c1)), (2, .int (iI i2))]) dX8_numberAnew_18 rfl (by decide) rfl ?_
      have cv2 : σ.2.2 xd = Ld := (CHX.l hC (by first | (simp; done) | (simp only [List.mem_cons, List.not_mem_nil, or_false, not_or]; omega))).trans (hLd)
      refine tn_sub [1, 2, 3, 0] rfl (l_X8_numberAnew_x_19 (d) (T := T) (σ := σ) (a := a) (c1 := c1) (c2 := i2) (xg := xg) (xd := xd) (Ld := (Ld)) (xm_ := xm_) (Lg := (σ.2.2 xg)) h_a (by omega) (by omega) hw (by omega) rfl (rc_F hF (Or.inl (by decide)) (by decide) (hxg)) (rc_F hF (Or.inl (by decide)) (by decide) (hxd)) cv2 (rc_F hF (Or.inl (by decide)) (by decide) (hxm_)) hne (fun i33 r9 f10 f11 f12 => ?_) _ (0) (by omega) (fun m a b => by omega) (by omega) rfl)
      show Tn _ _ 39 T σ [(0, .ref a), (1, .int (iI c1)), (2, .int (iI i2)), (3, .int (iI i33))] [] _
      refine tn_aload_n dX8_numberAnew_39 rfl 0 rfl ?_
      obtain ⟨hk15, hl16⟩ : AR T xm_ 1 192 192 := ar_of (wf_75 hw0 h_a) hxm_
      have hk15i : IA T xm_ := by unfold IA; omega
      refine tn_getR (ci := 8) (i := 3) (n := 75) (x := xm_) dX8_numberAnew_40 rfl lay_8 (by decide) fl8_18 h_a rfl rfl (rc_F hF (Or.inl (by decide)) (by decide) (hxm_)) ?_
      refine tn_iload_n dX8_numberAnew_43 rfl 2 rfl ?_
      refine tn_iload_n dX8_numberAnew_44 rfl 3 rfl ?_
      refine tn_callSN (M := m_X8_numberAnew) (pc := 45) (ix := 128) (M' := m_X11_put) (As := [.ref xm_, .int (iI i2), .int (iI i33)]) (rest := []) dX8_numberAnew_45 ok_X11_put stt_X11_put nl8_128 np_X11_put rfl (Nat.le_of_ble_eq_true rfl) (Nat.le_of_ble_eq_true rfl) rfl (k_X11_put_x (d + 2) (T := T) (σ := σ) (x := xm_) (i := i2) (y := i33) hk15i (by omega) (by omega) (by omega) hw (nh_k hk15 (by unfold HT; omega)) (vok_1 (by have q9 := hk15; omega) (by omega))) (fun r17 T19 σ18 gt20 hp => ?_)
      obtain ⟨rfl, rfl, w24, F25, f21, f22⟩ := hp
      clear gt20
      show Tn _ _ 48 T σ18 [(0, .ref a), (1, .int (iI c1)), (2, .int (iI i2)), (3, .int (iI i33))] [] _
      refine tn_aload_n dX8_numberAnew_48 rfl 0 rfl ?_
      obtain ⟨hk28, hl29⟩ : AR T xg 3 576 576 := ar_of (wf_76 hw0 h_a) hxg
      refine tn_getR (ci := 8) (i := 4) (n := 76) (x := xg) dX8_numberAnew_49 rfl lay_8 (by decide) fl8_22 h_a rfl rfl (rc_F F25 (Or.inl (by decide)) (by decide) (rc_F hF (Or.inl (by decide)) (by decide) (hxg))) ?_
      refine tn_iload_n dX8_numberAnew_52 rfl 3 rfl ?_
      refine tn_iload_n dX8_numberAnew_53 rfl 2 rfl ?_
      have cv30 : σ18.2.2 xg = σ.2.2 xg := (CHX.l f21 (by first | (simp; done) | (simp only [List.mem_cons, List.not_mem_nil, or_false, not_or]; omega))).trans (rfl)
      refine tn_callSN (M := m_X8_numberAnew) (pc := 54) (ix := 104) (M' := m_X11_include) (As := [.ref xg, .int (iI i33), .int (iI i2)]) (rest := []) dX8_numberAnew_54 ok_X11_include stt_X11_include nl8_104 np_X11_include rfl (Nat.le_of_ble_eq_true rfl) (Nat.le_of_ble_eq_true rfl) rfl (k_X11_include_x (d + 1) (T := T) (σ := σ18) (x := xg) (k := i33) (r := i2) (L := σ.2.2 xg) hk28 (by omega) (by omega) (by omega) w24 cv30 (by omega)) (fun r31 T33 σ32 gt34 hp => ?_)
      obtain ⟨rfl, rfl, w38, F39, f35, f36⟩ := hp
      clear gt34
      show Tn _ _ 57 T σ32 [(0, .ref a), (1, .int (iI c1)), (2, .int (iI i2)), (3, .int (iI i33))] [] _
      refine tn_iinc (q0 := 2) (L' := [(2, .int (iI (i2 + 1))), (0, .ref a), (1, .int (iI c1)), (3, .int (iI i33))]) dX8_numberAnew_57 rfl (by decide) rfl ?_
      refine tn_goto (tgt := 12) dX8_numberAnew_60 (by decide) ?_
      exact tn_sub [1, 2, 0] rfl (ih _ (by omega) (i2 + 1) σ32 w38 (((FrC.rfl.trans (FrC.sub hF (by decide))).trans (FrC.sub F25 (by decide))).trans (FrC.sub F39 (by decide))) (by omega) ((hC.trans (CHX.sub f21 (by simp) (by simp) (by simp))).trans (CHX.sub f35 (by simp) (by simp) (by simp))) ((hN_.step ⟨by omega, by omega⟩ (by omega) ⟨by omega, by omega⟩ f10 (f12.imp (fun z => by omega) id) ((CHX.r f35 (by first | (simp; done) | (simp only [List.mem_cons, List.not_mem_nil, or_false, not_or]; omega))).trans (ptf_row f22 ⟨by omega, by omega⟩)) f36)) (by omega) rfl)
set_option maxHeartbeats 1000000 in
set_option maxRecDepth 20000 in
theorem k_X8_numberAnew_x (d : Nat) {T : CT} {σ : MS} {a : Nat} {p1 : Int} {xg : Nat} {xd : Nat} {Ld : Int → Int64} {xm_ : Nat} (ha : OB T a 8) (h_p1 : -2147483648 ≤ p1 ∧ p1 ≤ 2147483647) (hw : WT T σ) (hxg : σ.2.1 76 a = (xg : Int)) (hxd : σ.2.1 73 a = (xd : Int)) (hLd : σ.2.2 xd = Ld) (hxm_ : σ.2.1 75 a = (xm_ : Int)) (hne : xg ≠ xd) (hq : 0 ≤ p1 ∧ p1 ≤ 192) : Tn (d + 4) m_X8_numberAnew 0 T σ [(0, .ref a), (1, .int (iI p1))] [] (fun ro T2 σ2 => ro = none ∧ T = T2 ∧ WT T2 σ2 ∧ FrC T [] σ σ2 ∧ (CHX [] [xm_] [xg] σ σ2) ∧ (NAP Ld (σ2.2.2 xg) (σ2.2.1 (1000 + xm_)) p1 p1)) := by
  refine tn_aload_n dX8_numberAnew_0 rfl 0 rfl ?_
  obtain ⟨hk3, hl4⟩ : AR T xg 3 576 576 := ar_of (wf_76 hw ha) hxg
  refine tn_getR (ci := 8) (i := 4) (n := 76) (x := xg) dX8_numberAnew_1 rfl lay_8 (by decide) fl8_22 ha rfl rfl (hxg) ?_
  refine tn_iload_n dX8_numberAnew_4 rfl 1 rfl ?_
  refine tn_iconst dX8_numberAnew_5 ?_
  refine tn_imul dX8_numberAnew_6 ?_
  refine tn_callSN (M := m_X8_numberAnew) (pc := 7) (ix := 108) (M' := m_X11_clear) (As := [.ref xg, .int (iI (p1 * 3))]) (rest := []) dX8_numberAnew_7 ok_X11_clear stt_X11_clear nl8_108 np_X11_clear rfl (Nat.le_of_ble_eq_true rfl) (Nat.le_of_ble_eq_true rfl) rfl (k_X11_clear_x (d) (T := T) (σ := σ) (x := xg) (n := p1 * 3) hk3 (by omega) (by omega) hw (by omega)) (fun r5 T7 σ6 gt8 hp => ?_)
  obtain ⟨rfl, rfl, w12, F13, f9, f10⟩ := hp
  clear gt8
  show Tn _ _ 10 T σ6 [(0, .ref a), (1, .int (iI p1))] [] _
  refine tn_iconst dX8_numberAnew_10 ?_
  refine tn_istore_n (L' := [(2, .int (iI 0)), (0, .ref a), (1, .int (iI p1))]) dX8_numberAnew_11 rfl (by decide) rfl ?_
  have cv14 : σ6.2.2 xd = Ld := (CHX.l f9 (by first | (simp; done) | (simp only [List.mem_cons, List.not_mem_nil, or_false, not_or]; omega))).trans (hLd)
  refine tn_sub [1, 2, 0] rfl (l_X8_numberAnew_x_12 (d) (T := T) (σ0 := σ6) (a := a) (c1 := p1) (xg := xg) (xd := xd) (Ld := (Ld)) (xm_ := xm_) ha (by omega) w12 (by omega) (rc_F F13 (Or.inl (by decide)) (by decide) (hxg)) (rc_F F13 (Or.inl (by decide)) (by decide) (hxd)) cv14 (rc_F F13 (Or.inl (by decide)) (by decide) (hxm_)) hne (fun i215 σ16 w19 F20 r21 f22 f23 f24 f25 => ?_) _ (0) σ6 w12 FrC.rfl (by omega) CHX.rfl (NAP.nil (fun l g a b => bT_z (fun i c d => f10.z (by omega) (by omega)))) (by omega) rfl)
  show Tn _ _ 63 T σ16 [(0, .ref a), (1, .int (iI p1)), (2, .int (iI i215))] [] _
  exact tn_vret rfl dX8_numberAnew_63 ⟨rfl, rfl, w19, ((FrC.rfl.trans (FrC.sub F13 (by decide))).trans (FrC.sub F20 (by decide))), ((CHX.rfl.trans (CHX.sub f9 (by simp) (by simp) (by simp))).trans (CHX.sub f22 (by simp) (by simp) (by simp))), f25⟩
end
section
def nwL (L M : Int → Int64) (k an j : Int) : Int64 := if an = 1 then M j else L (3 * k + j) &&& M j
def CTP (L L2 M : Int → Int64) (k an c0 i c : Int) : Prop := (∀ z, L2 z = if 3 * k ≤ z ∧ z < 3 * k + i then nwL L M k an (z - 3 * k) else L z) ∧ (c = 0 ∨ c = 1) ∧ (c = 0 ↔ c0 = 0 ∧ ∀ j, 0 ≤ j → j < i → an = 0 ∧ nwL L M k an j = L (3 * k + j))
section CTS
variable {L L2 L3 M : Int → Int64} {k an c0 i c c2 f : Int} {w : Int64}
theorem CTP.nil (h : c = 0 ∨ c = 1) : CTP L L M k an c 0 c := ⟨fun z => by rw [if_neg (by omega)], h, ⟨fun q => ⟨q, fun j a b => by omega⟩, fun q => q.1⟩⟩
theorem CTP.was (h : CTP L L2 M k an c0 i c) : L2 (3 * k + i) = L (3 * k + i) := by rw [h.1, if_neg (by omega)]
theorem CTP.step (h : CTP L L2 M k an c0 i c) (h0 : 0 ≤ i) (ha : an = 0 ∨ an = 1) (hw : w = nwL L M k an i) (hf : f = 0 ∨ f = 1) (f1 : f = 0 ↔ an = 0 ∧ w = L (3 * k + i)) (h2 : c2 = 0 ∨ c2 = 1) (hc : c2 = 0 ↔ c = 0 ∧ f = 0) (e : L3 = fun q => if q = 3 * k + i then w else L2 q) : CTP L L3 M k an c0 (i + 1) c2 := by
  obtain ⟨a, b, d⟩ := h
  refine ⟨fun z => ?_, h2, ?_⟩
  · rw [e]
    show (if z = 3 * k + i then w else L2 z) = _
    by_cases y : z = 3 * k + i
    · rw [if_pos y, if_pos (by omega), y, show 3 * k + i - 3 * k = i by omega]; exact hw
    · rw [if_neg y, a z]
      by_cases x : 3 * k ≤ z ∧ z < 3 * k + i
      · rw [if_pos x, if_pos (by omega)]
      · rw [if_neg x, if_neg (by omega)]
  · rw [hc, d, f1]
    constructor
    · rintro ⟨⟨x, y⟩, z, u⟩
      refine ⟨x, fun j p q => ?_⟩
      by_cases v : j = i
      · rw [v, ← hw]; exact ⟨z, u⟩
      · exact y j p (by omega)
    · rintro ⟨x, y⟩
      have q := y i h0 (by omega)
      rw [← hw] at q
      exact ⟨⟨x, fun j p r => y j p (by omega)⟩, q⟩
end CTS
def CTX (n t : Int) (M L : Int → Int64) (R : Int → Int) (c : Int) (L2 : Int → Int64) (R2 : Int → Int) (c2 : Int) : Prop := (¬ (0 ≤ t ∧ t ≤ n) ∧ L2 = L ∧ R2 = R ∧ c2 = c) ∨ ((0 ≤ t ∧ t ≤ n) ∧ (∀ k g, k ≠ t → (bT L2 k g ↔ bT L k g)) ∧ (∀ g, bT L2 t g ↔ bT M 0 g ∧ (R t = 0 ∨ bT L t g)) ∧ R2 = uZ R t 1 ∧ (c2 = 0 ∨ c2 = 1) ∧ (c2 = 0 ↔ c = 0 ∧ R t ≠ 0 ∧ ∀ g, bT L2 t g ↔ bT L t g))
theorem CTX.mk {n k an c0 c : Int} {L L2 M : Int → Int64} {R R2 : Int → Int} (hk : 0 ≤ k ∧ k ≤ n) (h : CTP L L2 M k an c0 3 c) (ha : (an = 1 ∧ R k = 0) ∨ (an = 0 ∧ R k ≠ 0)) (e : R2 = uZ R k 1) : CTX n k M L R c0 L2 R2 c := by
  obtain ⟨a, b, d⟩ := h
  have wd : ∀ j, 0 ≤ j → j < 3 → L2 (3 * k + j) = nwL L M k an j := fun j x y => by rw [a, if_pos (by omega), show 3 * k + j - 3 * k = j by omega]
  have bt : ∀ g, bT L2 k g ↔ bT M 0 g ∧ (R k = 0 ∨ bT L k g) := fun g => by
    unfold bT
    by_cases hr : 0 ≤ g ∧ g < 192
    · rw [wd (g / 64) (by omega) (by omega), show 3 * 0 + g / 64 = g / 64 by omega]
      unfold nwL
      rcases ha with ⟨x, y⟩ | ⟨x, y⟩
      · rw [if_pos x]
        exact ⟨fun q => ⟨q, Or.inl y⟩, fun q => q.1⟩
      · rw [if_neg (by omega), bit_and, Bool.and_eq_true_iff]
        exact ⟨fun q => ⟨⟨hr, q.2.2⟩, Or.inr ⟨hr, q.2.1⟩⟩, fun q => ⟨hr, (q.2.resolve_left y).2, q.1.2⟩⟩
    · exact ⟨fun q => absurd q.1 hr, fun q => absurd q.1.1 hr⟩
  refine Or.inr ⟨hk, fun k2 g q => bT_w (by rw [a, if_neg (by omega)]) (by rw [a, if_neg (by omega)]) (by rw [a, if_neg (by omega)]), bt, e, b, ?_⟩
  rw [d]
  constructor
  · rintro ⟨x, y⟩
    have y0 := y 0 (by decide) (by decide)
    have y1 := y 1 (by decide) (by decide)
    have y2 := y 2 (by decide) (by decide)
    refine ⟨x, by rcases ha with z | z; omega; exact z.2, fun g => bT_w ((wd 0 (by decide) (by decide)).trans y0.2) ((wd 1 (by decide) (by decide)).trans y1.2) ((wd 2 (by decide) (by decide)).trans y2.2)⟩
  · rintro ⟨x, y, z⟩
    have an0 : an = 0 := by rcases ha with w | w; exact absurd w.2 y; exact w.1
    refine ⟨x, fun j p q => ⟨an0, ?_⟩⟩
    have w := bT_ext (L2 := L2) (L := L) (k2 := k) (k := k) j.toNat (by omega) z
    rw [show ((j.toNat : Nat) : Int) = j by omega, wd j p q] at w
    exact w
def GTM (L G M : Int → Int64) (R : Int → Int) (k r : Int) : Prop := ∀ g, bT M 0 g ↔ (bT L k g ∧ ¬ (r ≠ -1 ∧ bT G (R r) g)) ∨ (g = r ∧ 0 ≤ r ∧ r < 192)
def gtw (L G : Int → Int64) (k r l j : Int) : Int64 := L (3 * k + j) &&& ((if r = -1 then 0 else G (3 * l + j)) ^^^ (-1))
def GTP (L G M : Int → Int64) (k r l i : Int) : Prop := ∀ j, 0 ≤ j → j < i → M j = gtw L G k r l j
theorem bit_xn (x : Int64) (j : Nat) (hj : j < 64) : (x ^^^ (-1)).toBitVec.getLsbD j = !x.toBitVec.getLsbD j := by
  show (x.toBitVec ^^^ (-1 : Int64).toBitVec).getLsbD j = _
  have e : (-1 : Int64).toBitVec = BitVec.allOnes 64 := by decide
  rw [e, BitVec.getLsbD_xor, BitVec.getLsbD_allOnes]
  simp [hj]
theorem GTP.step {L G M M2 : Int → Int64} {k r l i : Int} {w : Int64} (h : GTP L G M k r l i) (e : M2 = fun q => if q = i then w else M q) (hw : w = gtw L G k r l i) : GTP L G M2 k r l (i + 1) := fun j x y => by
  rw [e]
  show (if j = i then w else M j) = _
  by_cases z : j = i
  · rw [if_pos z, hw, z]
  · rw [if_neg z]; exact h j x (by omega)
theorem GTM.of {L G M M2 : Int → Int64} {R : Int → Int} {k r l : Int} (h : GTP L G M k r l 3) (hl : r ≠ -1 → l = R r) (e : BTI M M2 0 r) : GTM L G M2 R k r := fun g => by
  rw [e 0 g]
  have q : bT M 0 g ↔ bT L k g ∧ ¬ (r ≠ -1 ∧ bT G (R r) g) := by
    unfold bT
    by_cases hr : 0 ≤ g ∧ g < 192
    · have w := h (g / 64) (by omega) (by omega)
      rw [show 3 * 0 + g / 64 = g / 64 by omega, w]
      unfold gtw
      rw [bit_and, bit_xn _ _ (by omega), Bool.and_eq_true_iff]
      by_cases c : r = -1
      · rw [if_pos c]
        have z0 : (0 : Int64).toBitVec.getLsbD (g % 64).toNat = false := by show (0#64).getLsbD _ = false; simp
        rw [z0]
        exact ⟨fun y => ⟨⟨hr, y.2.1⟩, fun z => z.1 c⟩, fun y => ⟨hr, y.1.2, rfl⟩⟩
      · rw [if_neg c, hl c]
        constructor
        · rintro ⟨-, y, z⟩
          exact ⟨⟨hr, y⟩, fun x => by rw [x.2.2] at z; exact absurd z (by decide)⟩
        · rintro ⟨y, z⟩
          refine ⟨hr, y.2, ?_⟩
          cases x : (G (3 * R r + g / 64)).toBitVec.getLsbD (g % 64).toNat
          · rfl
          · exact absurd ⟨c, hr, x⟩ z
    · exact ⟨fun y => absurd y.1 hr, fun y => absurd y.1.1 hr⟩
  rw [q]
  exact ⟨fun y => y.imp id (fun z => ⟨z.2.1, z.2.2⟩), fun y => y.imp id (fun z => ⟨rfl, z⟩)⟩
def GTQ (W : Int → It) (n k : Int) (G L : Int → Int64) (N R : Int → Int) (c : Int) (L2 : Int → Int64) (R2 : Int → Int) (c2 : Int) : Prop := ∃ b t r M L1 R1 c1, FLQ W n k b ∧ TGQ W n k t ∧ WBQ W n k r ∧ GTM L G M N k r ∧ ((b = 1 ∧ CTX n (k + 1) M L R c L1 R1 c1) ∨ (b ≠ 1 ∧ L1 = L ∧ R1 = R ∧ c1 = c)) ∧ CTX n t M L1 R1 c1 L2 R2 c2
def lsX (L : Int → Int64) (R : Int → Int) (k g : Int) : Prop := R k ≠ 0 ∧ (g = 192 ∨ ¬ bT L k g)
noncomputable def muX (m : Nat) (L : Int → Int64) (R : Int → Int) : Int := cN (fun j => lsX L R (j / 193) (j % 193)) 0 m
def LSD2 (V : Int → It) (n Q : Int) (nb : Int → Int) (bg : Int → Prop) (L : Int → Int64) (R : Int → Int) : Prop := (∀ k, R k ≠ 0 → RCG V n 0 (fun _ => False) k ∧ ∀ u, 0 ≤ u → u < Q → ¬ bT L k u → lsV V n nb bg k u) ∧ (R 0 ≠ 0 ∧ ∀ u, 0 ≤ u → u < Q → ¬ bg u → ¬ bT L 0 u)
section LSR
variable {V : Int → It} {W : Int → It} {n Q k t c c2 c1 b r u : Int} {N : Int → Int} {nb : Int → Int} {bg : Int → Prop} {L L2 L1 G M : Int → Int64} {R R2 R1 : Int → Int}
theorem CTX.up {m : Nat} (hm : m = 38793) (h : CTX n t M L R c L2 R2 c2) : (∀ k g, lsX L R k g → lsX L2 R2 k g) ∧ (c2 = 0 → c = 0 ∧ (∀ k, R2 k ≠ 0 ↔ R k ≠ 0) ∧ ∀ k g, R k ≠ 0 → (bT L2 k g ↔ bT L k g)) ∧ ((c = 0 ∨ c = 1) → c2 = 0 ∨ c2 = 1) ∧ (c2 ≠ 0 → c = 0 → n ≤ 200 → muX m L R + 1 ≤ muX m L2 R2) := by
  rcases h with ⟨a, e1, e2, e3⟩ | ⟨a, h1, h2, h3, h4, h5⟩
  · subst e1 e2 e3
    exact ⟨fun _ _ z => z, fun z => ⟨z, fun _ => Iff.rfl, fun _ _ _ => Iff.rfl⟩, id, fun x y => absurd y x⟩
  · have rt : R2 t ≠ 0 := by rw [h3, uZ_eq]; first | done | decide
    have rn : ∀ k, k ≠ t → R2 k = R k := fun k z => by rw [h3, uZ_ne z]
    have up : ∀ k g, lsX L R k g → lsX L2 R2 k g := fun k g z => by
      by_cases e : k = t
      · rw [e] at z ⊢
        refine ⟨rt, z.2.imp id (fun y x => y (((h2 g).mp x).2.resolve_left z.1))⟩
      · exact ⟨by rw [rn k e]; exact z.1, z.2.imp id (fun y x => y ((h1 k g e).mp x))⟩
    refine ⟨up, fun z => ?_, fun _ => h4, fun x y hn => ?_⟩
    · have q := h5.mp z
      refine ⟨q.1, fun k => ?_, fun k g _ => ?_⟩
      · by_cases e : k = t
        · rw [e]; exact ⟨fun _ => q.2.1, fun _ => rt⟩
        · rw [rn k e]
      · by_cases e : k = t
        · rw [e]; exact q.2.2 g
        · exact h1 k g e
    · have ex : ∃ g, (0 ≤ g ∧ g ≤ 192) ∧ lsX L2 R2 t g ∧ ¬ lsX L R t g := Classical.byContradiction (fun no => x (h5.mpr ⟨y, ?_, ?_⟩))
      · obtain ⟨g, g0, g1, g2⟩ := ex
        have e1 : (193 * t + g) / 193 = t := by omega
        have e2 : (193 * t + g) % 193 = g := by omega
        exact cN_lt (n := m) (a := 0) (k := 193 * t + g) (fun j z => up _ _ z) (by omega) (by show lsX L2 R2 ((193 * t + g) / 193) ((193 * t + g) % 193); rw [e1, e2]; exact g1) (by show ¬ lsX L R ((193 * t + g) / 193) ((193 * t + g) % 193); rw [e1, e2]; exact g2)
      · intro z
        exact no ⟨192, by decide, ⟨rt, Or.inl rfl⟩, fun w => w.1 z⟩
      · intro g
        have rz : R t ≠ 0 := fun z => no ⟨192, by decide, ⟨rt, Or.inl rfl⟩, fun w => w.1 z⟩
        refine ⟨fun z => ((h2 g).mp z).2.resolve_left rz, fun z => Classical.byContradiction (fun w => no ⟨g, by have := z.1; omega, ⟨rt, Or.inr w⟩, fun v => v.2.elim (fun e => by have := z.1; omega) (fun e => e z)⟩)⟩
theorem CTX.snd (h : CTX n t M L R c L2 R2 c2) (s : LSD2 V n Q nb bg L R) (hr : 0 ≤ t → RCG V n 0 (fun _ => False) t) (hm : 0 ≤ t → ∀ u, 0 ≤ u → u < Q → ¬ bT M 0 u → lsV V n nb bg t u) : LSD2 V n Q nb bg L2 R2 := by
  rcases h with ⟨a, e1, e2, e3⟩ | ⟨a, h1, h2, h3, h4, h5⟩
  · subst e1 e2 e3; exact s
  · have rn : ∀ k, k ≠ t → R2 k = R k := fun k z => by rw [h3, uZ_ne z]
    have rt : R2 t ≠ 0 := by rw [h3, uZ_eq]; first | done | decide
    refine ⟨fun k z => ?_, ?_, fun u x y w => ?_⟩
    · by_cases e : k = t
      · rw [e]
        refine ⟨hr a.1, fun u x y w => ?_⟩
        by_cases v : bT M 0 u
        · have q : R t ≠ 0 ∧ ¬ bT L t u := by
            constructor
            · intro i; exact w ((h2 u).mpr ⟨v, Or.inl i⟩)
            · intro i; exact w ((h2 u).mpr ⟨v, Or.inr i⟩)
          exact (s.1 t q.1).2 u x y q.2
        · exact hm a.1 u x y v
      · rw [rn k e] at z
        have q := s.1 k z
        exact ⟨q.1, fun u x y w => q.2 u x y (fun i => w ((h1 k u e).mpr i))⟩
    · by_cases e : (0 : Int) = t
      · exact fun z => rt (by rw [← e]; exact z)
      · rw [rn 0 e]; exact s.2.1
    · intro i
      by_cases e : (0 : Int) = t
      · subst e
        exact s.2.2 u x y w (((h2 u).mp i).2.resolve_left s.2.1)
      · exact s.2.2 u x y w ((h1 0 u e).mp i)
end LSR
def GRP (G : Int → Int64) (N : Int → Int) (Q : Int) : Prop := (∀ g, 0 ≤ g → g < Q → 0 ≤ N g ∧ N g ≤ g) ∧ ∀ l u, 0 ≤ l → l < Q → (bT G l u ↔ (0 ≤ u ∧ u < Q) ∧ N u = l)
theorem gtm_ls {W : Int → It} {n k r Q u : Int} {L G M : Int → Int64} {N : Int → Int} (h : GTM L G M N k r) (hk : 0 ≤ k ∧ k < n) (hw : iOK (W k)) (wb : WBQ W n k r) (hg : GRP G N Q) (hq : ∀ g, wrT (W k) g → 0 ≤ g ∧ g < Q) (hu : 0 ≤ u ∧ u < Q) : ¬ bT M 0 u ↔ lsT (vW W) N (fun u => ¬ bT L k u) k u := by
  have h0 := hw.1
  have hm := h u
  unfold lsT
  rw [vW_0, vW_1]
  by_cases c : W k 0 ≤ 5 ∨ W k 0 = 10
  · have r1 : r = W k 1 := by unfold WBQ at wb; omega
    have rq := hq (W k 1) ⟨c, rfl⟩
    rw [← r1] at rq ⊢
    have nr := hg.1 r rq.1 rq.2
    have gg := hg.2 (N r) u nr.1 (by omega)
    have r192 : r < 192 := by have z := (wb_wr hw hk wb).mpr (show wrT (W k) r from ⟨c, r1.symm⟩); exact z.2.2
    rw [hm, gg]
    constructor
    · intro z
      refine Or.inl ⟨c, fun e => z (Or.inr ⟨e, by omega⟩), ?_⟩
      by_cases y : bT L k u
      · exact Or.inl (Classical.byContradiction (fun w => z (Or.inl ⟨y, fun v => w v.2.2⟩)))
      · exact Or.inr y
    · rintro (⟨-, z, y⟩ | ⟨z, -⟩)
      · rintro (⟨a, b⟩ | ⟨a, -⟩)
        · rcases y with y | y
          · exact b ⟨by omega, hu, y⟩
          · exact y a
        · exact z a
      · exact absurd c z
  · have r1 : r = -1 := by unfold WBQ at wb; omega
    rw [hm]
    constructor
    · intro z
      exact Or.inr ⟨c, fun y => z (Or.inl ⟨y, fun w => w.1 r1⟩)⟩
    · rintro (⟨z, -⟩ | ⟨-, z⟩)
      · exact absurd z c
      · rintro (y | y)
        · exact z y.1
        · omega
def CLsd (V : Int → It) (n Q : Int) (nb : Int → Int) (L : Int → Int64) (R : Int → Int) (k : Int) : Prop := ∀ t, EDv V n k t → R t ≠ 0 ∧ ∀ u, 0 ≤ u → u < Q → lsT V nb (fun u => ¬ bT L k u) k u → ¬ bT L t u
theorem CLsd.to {V : Int → It} {n Q k : Int} {nb : Int → Int} {L L2 : Int → Int64} {R R2 : Int → Int} (h : CLsd V n Q nb L R k) (hk : R k ≠ 0) (e1 : ∀ k, R2 k ≠ 0 ↔ R k ≠ 0) (e2 : ∀ k g, R k ≠ 0 → (bT L2 k g ↔ bT L k g)) : CLsd V n Q nb L2 R2 k := fun t e => by
  have q := h t e
  refine ⟨(e1 t).mpr q.1, fun u a b c d => ?_⟩
  exact q.2 u a b (c.mono (fun z y => z ((e2 k u hk).mpr y))) ((e2 t u q.1).mp d)
section GTS
variable {m : Nat} {W : Int → It} {n Q k c c2 : Int} {N R R2 R0 : Int → Int} {bg : Int → Prop} {L L2 L0 G : Int → Int64}
theorem muX_up (h : ∀ k g, lsX L R k g → lsX L2 R2 k g) : muX m L R ≤ muX m L2 R2 := by
  unfold muX
  exact cN_mono (fun j z => h (j / 193) (j % 193) z)
theorem muX_b : 0 ≤ muX m L R ∧ muX m L R ≤ m := by
  unfold muX
  exact ⟨cN_0.1, cN_le⟩
theorem GTQ.go (hm : m = 38793) (h : GTQ W n k G L N R c L2 R2 c2) (hk : 0 ≤ k ∧ k < n) (hn : n ≤ 200) (hw : iOK (W k)) (hL : LNK W n) (hU : UNQ (vW W) n) (hg : GRP G N Q) (hq : ∀ g, wrT (W k) g → 0 ≤ g ∧ g < Q) (hR : R k ≠ 0) (s : LSD2 (vW W) n Q N bg L R) : LSD2 (vW W) n Q N bg L2 R2 ∧ (∀ k g, lsX L R k g → lsX L2 R2 k g) ∧ ((c = 0 ∨ c = 1) → c2 = 0 ∨ c2 = 1) ∧ (c2 = 0 → c = 0 ∧ (∀ k, R2 k ≠ 0 ↔ R k ≠ 0) ∧ (∀ k g, R k ≠ 0 → (bT L2 k g ↔ bT L k g)) ∧ CLsd (vW W) n Q N L2 R2 k) ∧ (c2 ≠ 0 → c = 0 → muX m L R + 1 ≤ muX m L2 R2) := by
  obtain ⟨b, t, r, M, L1, R1, c1, f, tg, wb, gm, one, two⟩ := h
  have ed := fun x => ed_c (t := x) hL hU hk f tg
  have tl := tg_lt hL hk tg
  have k1 : 0 ≤ k + 1 ∧ k + 1 ≤ n := by clear ed; omega
  have t1 : t ≤ n := by clear ed; omega
  have ml : ∀ u, 0 ≤ u → u < Q → (¬ bT M 0 u ↔ lsT (vW W) N (fun u => ¬ bT L k u) k u) := fun u x y => gtm_ls gm hk hw wb hg hq ⟨x, y⟩
  have sk := s.1 k hR
  have snd : ∀ x, EDv (vW W) n k x → RCG (vW W) n 0 (fun _ => False) x ∧ ∀ u, 0 ≤ u → u < Q → ¬ bT M 0 u → lsV (vW W) n N bg x u := fun x e => ⟨sk.1.s hk.1 hk.2 (fun z => z) e, fun u y z w => lsV.s hk.1 hk.2 sk.1 e (((ml u y z).mp w).mono (fun v => sk.2 u y z v))⟩
  -- the first
  have first : LSD2 (vW W) n Q N bg L1 R1 ∧ (∀ k g, lsX L R k g → lsX L1 R1 k g) ∧ ((c = 0 ∨ c = 1) → c1 = 0 ∨ c1 = 1) ∧ (c1 = 0 → c = 0 ∧ (∀ k, R1 k ≠ 0 ↔ R k ≠ 0) ∧ (∀ k g, R k ≠ 0 → (bT L1 k g ↔ bT L k g)) ∧ (b = 1 → R1 (k + 1) ≠ 0 ∧ ∀ u, bT L1 (k + 1) u → bT M 0 u)) ∧ (c1 ≠ 0 → c = 0 → muX m L R + 1 ≤ muX m L1 R1) := by
    rcases one with ⟨b1, q⟩ | ⟨b1, e1, e2, e3⟩
    · have e := (ed (k + 1)).mpr (Or.inl ⟨b1, rfl⟩)
      have up := CTX.up hm q
      refine ⟨q.snd s (fun _ => (snd _ e).1) (fun _ => (snd _ e).2), up.1, up.2.2.1, fun z => ⟨(up.2.1 z).1, (up.2.1 z).2.1, (up.2.1 z).2.2, fun _ => ?_⟩, fun x y => up.2.2.2 x y hn⟩
      rcases q with ⟨x, -⟩ | ⟨x, h1, h2, h3, -⟩
      · exact absurd k1 x
      · exact ⟨by rw [h3, uZ_eq]; first | done | decide, fun u y => ((h2 u).mp y).1⟩
    · subst e1 e2 e3
      exact ⟨s, fun _ _ z => z, id, fun z => ⟨z, fun _ => Iff.rfl, fun _ _ _ => Iff.rfl, fun z => absurd z b1⟩, fun x y => absurd y x⟩
  obtain ⟨f1, f2, f3, f4, f5⟩ := first
  have up := CTX.up hm two
  refine ⟨two.snd f1 (fun z => (snd t ((ed t).mpr (Or.inr ⟨z, rfl⟩))).1) (fun z => (snd t ((ed t).mpr (Or.inr ⟨z, rfl⟩))).2), fun k g z => up.1 k g (f2 k g z), fun z => up.2.2.1 (f3 z), fun z => ?_, fun x y => ?_⟩
  · have u2 := up.2.1 z
    have u1 := f4 u2.1
    have ee : ∀ k g, R k ≠ 0 → (bT L2 k g ↔ bT L k g) := fun k g y => (u2.2.2 k g ((u1.2.1 k).mpr y)).trans (u1.2.2.1 k g y)
    refine ⟨u1.1, fun k => (u2.2.1 k).trans (u1.2.1 k), ee, fun x e => ?_⟩
    have key : R2 x ≠ 0 ∧ ∀ u, bT L2 x u → bT M 0 u := by
      rcases (ed x).mp e with ⟨b1, e1⟩ | ⟨b1, e1⟩
      · have w := u1.2.2.2 b1
        rw [e1]
        exact ⟨(u2.2.1 _).mpr w.1, fun u y => w.2 u ((u2.2.2 _ u w.1).mp y)⟩
      · rcases two with ⟨y, -⟩ | ⟨y, h1, h2, h3, -⟩
        · exact absurd ⟨b1, t1⟩ y
        · rw [e1]
          exact ⟨by rw [h3, uZ_eq]; first | done | decide, fun u y => ((h2 u).mp y).1⟩
    refine ⟨key.1, fun u y w v q => ?_⟩
    exact (ml u y w).mpr (v.mono (fun z y => z ((ee k u hR).mpr y))) (key.2 u q)
  · by_cases z : c1 = 0
    · exact Int.le_trans (Int.add_le_add_right (muX_up f2) 1) (up.2.2.2 x z hn)
    · exact Int.le_trans (f5 z y) (muX_up up.1)
def LRI (m : Nat) (V : Int → It) (n Q : Int) (nb : Int → Int) (bg : Int → Prop) (L0 : Int → Int64) (R0 : Int → Int) (L : Int → Int64) (R : Int → Int) (k c : Int) : Prop := LSD2 V n Q nb bg L R ∧ (c = 0 ∨ c = 1) ∧ (c = 0 → ∀ i, 0 ≤ i → i < k → R i ≠ 0 → CLsd V n Q nb L R i) ∧ (c = 1 → muX m L0 R0 + 1 ≤ muX m L R) ∧ muX m L0 R0 ≤ muX m L R
theorem LRI.nil {V : Int → It} (s : LSD2 V n Q N bg L R) : LRI m V n Q N bg L R L R 0 0 := ⟨s, Or.inl rfl, fun _ i a b => by omega, fun z => by omega, Int.le_refl _⟩
theorem LRI.no {V : Int → It} (h : LRI m V n Q N bg L0 R0 L R k c) (hR : R k = 0) : LRI m V n Q N bg L0 R0 L R (k + 1) c := ⟨h.1, h.2.1, fun z i a b d => by
  by_cases e : i = k
  · rw [e] at d; exact absurd hR d
  · exact h.2.2.1 z i a (by omega) d, h.2.2.2⟩
theorem LRI.yes (hm : m = 38793) (h : LRI m (vW W) n Q N bg L0 R0 L R k c) (g : GTQ W n k G L N R c L2 R2 c2) (hk : 0 ≤ k ∧ k < n) (hn : n ≤ 200) (hw : iOK (W k)) (hL : LNK W n) (hU : UNQ (vW W) n) (hg : GRP G N Q) (hq : ∀ g, wrT (W k) g → 0 ≤ g ∧ g < Q) (hR : R k ≠ 0) : LRI m (vW W) n Q N bg L0 R0 L2 R2 (k + 1) c2 := by
  obtain ⟨g1, g2, g3, g4, g5⟩ := GTQ.go hm g hk hn hw hL hU hg hq hR h.1
  have mu := muX_up (m := m) g2
  refine ⟨g1, g3 h.2.1, fun z i a b d => ?_, fun z => ?_, Int.le_trans h.2.2.2.2 mu⟩
  · obtain ⟨x1, x2, x3, x4⟩ := g4 z
    by_cases e : i = k
    · rw [e]; exact x4
    · have ri := (x2 i).mp d
      exact (h.2.2.1 x1 i a (by omega) ri).to ri x2 x3
  · rcases h.2.1 with y | y
    · exact Int.le_trans (Int.add_le_add_right h.2.2.2.2 1) (g5 (by rw [z]; decide) y)
    · exact Int.le_trans (h.2.2.2.1 y) mu
def LRR (m : Nat) (V : Int → It) (n Q : Int) (nb : Int → Int) (bg : Int → Prop) (L : Int → Int64) (R : Int → Int) (r c : Int) : Prop := LSD2 V n Q nb bg L R ∧ ((c = 1 ∧ 0 ≤ r ∧ r ≤ muX m L R) ∨ (c = 0 ∧ ∀ i, 0 ≤ i → i < n → R i ≠ 0 → CLsd V n Q nb L R i))
theorem LRR.next {V : Int → It} {r : Int} (h : LRR m V n Q N bg L0 R0 r 1) (g : LRI m V n Q N bg L0 R0 L R k c) (hk : n ≤ k) : LRR m V n Q N bg L R (r + 1) c := by
  refine ⟨g.1, ?_⟩
  rcases g.2.1 with z | z
  · exact Or.inr ⟨z, fun i a b => g.2.2.1 z i a (by omega)⟩
  · rcases h.2 with ⟨-, x, y⟩ | ⟨x, -⟩
    · have := g.2.2.2.1 z
      exact Or.inl ⟨z, by omega, by omega⟩
    · omega
theorem LRR.start {V : Int → It} {Lf : Int → Int64} (hb : ∀ u, 0 ≤ u → u < Q → (bT Lf 0 u ↔ bg u)) (e : ∀ u, bT L 0 u ↔ bT Lf 0 u) (r0 : R 0 ≠ 0) (r1 : ∀ k, k ≠ 0 → R k = 0) : LRR m V n Q N bg L R 0 1 := by
  refine ⟨⟨fun k z => ?_, r0, fun u a b c d => c ((hb u a b).mp ((e u).mp d))⟩, Or.inl ⟨rfl, by decide, muX_b.1⟩⟩
  have k0 : k = 0 := Classical.byContradiction (fun y => z (r1 k y))
  rw [k0]
  exact ⟨RCG.z, fun u a b c => lsV.z (fun y => c ((e u).mpr ((hb u a b).mpr y)))⟩
def LATE (V : Int → It) (n Q : Int) (nb : Int → Int) (bg : Int → Prop) (L : Int → Int64) (R : Int → Int) : Prop := ∀ k, (R k ≠ 0 ↔ RCG V n 0 (fun _ => False) k) ∧ (R k ≠ 0 → ∀ u, 0 ≤ u → u < Q → (¬ bT L k u ↔ lsV V n nb bg k u))
theorem LRR.fin (hm : m = 38793) {V : Int → It} {r : Int} (h : LRR m V n Q N bg L R r c) (he : c = 0 ∨ 1000000 ≤ r) : LATE V n Q N bg L R := fun k => by
  obtain ⟨s, q⟩ := h
  have cl : ∀ i, 0 ≤ i → i < n → R i ≠ 0 → CLsd V n Q N L R i := by
    rcases q with ⟨a, b, d⟩ | ⟨-, a⟩
    · have := (muX_b (m := m) (L := L) (R := R)).2
      omega
    · exact a
  have rc : ∀ k, RCG V n 0 (fun _ => False) k → R k ≠ 0 := fun k z => z (fun i => R i ≠ 0) s.2.1 (fun i t a b x _ e => (cl i a b x t e).1)
  refine ⟨⟨fun z => (s.1 k z).1, rc k⟩, fun z u a b => ⟨fun w => (s.1 k z).2 u a b w, fun w => ?_⟩⟩
  exact w (fun i v => R i ≠ 0 → 0 ≤ v → v < Q → ¬ bT L i v) (fun v x _ y z => s.2.2 v y z x) (fun i t v x y g e l _ p o => (cl i x y (rc i g) t e).2 v p o (l.mono (fun m => m (rc i g) p o))) z a b
end GTS
def trR (n : Int) (R : Int → Int) : Int → Int := fun k => if 0 ≤ k ∧ k ≤ n then R k else 0
section TRS
variable {W : Int → It} {n t k c c2 v : Int} {M L L2 G : Int → Int64} {N R R2 : Int → Int}
theorem trR_in (h : 0 ≤ k ∧ k ≤ n) : trR n R k = R k := if_pos h
theorem trR_out (h : ¬ (0 ≤ k ∧ k ≤ n)) : trR n R k = 0 := if_neg h
theorem trR_put (h : 0 ≤ t ∧ t ≤ n) : trR n (uZ R t v) = uZ (trR n R) t v := by
  funext k
  by_cases e : k = t
  · rw [e, trR_in h, uZ_eq, uZ_eq]
  · rw [uZ_ne e]
    by_cases q : 0 ≤ k ∧ k ≤ n
    · rw [trR_in q, trR_in q, uZ_ne e]
    · rw [trR_out q, trR_out q]
theorem CTX.tr (h : CTX n t M L R c L2 R2 c2) : CTX n t M L (trR n R) c L2 (trR n R2) c2 := by
  rcases h with ⟨a, e1, e2, e3⟩ | ⟨a, h1, h2, h3, h4, h5⟩
  · exact Or.inl ⟨a, e1, by rw [e2], e3⟩
  · refine Or.inr ⟨a, h1, ?_, ?_, h4, ?_⟩
    · rw [trR_in a]; exact h2
    · rw [h3, trR_put a]
    · rw [trR_in a]; exact h5
theorem GTQ.tr (h : GTQ W n k G L N R c L2 R2 c2) : GTQ W n k G L N (trR n R) c L2 (trR n R2) c2 := by
  obtain ⟨b, t, r, M, L1, R1, c1, f, tg, wb, gm, one, two⟩ := h
  exact ⟨b, t, r, M, L1, trR n R1, c1, f, tg, wb, gm, one.imp (fun q => ⟨q.1, q.2.tr⟩) (fun q => ⟨q.1, q.2.1, by rw [q.2.2.1], q.2.2.2⟩), two.tr⟩
end TRS
end
section
set_option maxHeartbeats 1000000 in
set_option maxRecDepth 20000 in
theorem l_X8_comeTo_x_33 (d : Nat) {T : CT} {σ0 : MS} {a : Nat} {c2 : Int} {c3 : Int} {L0 : Int → Int64} {c0 : Int} {n : Int} {xy : Nat} {Ly : Int → Int64} {xz : Nat} {Lz : Int → Int64} {xr : Nat} {Rr : Int → Int} {cc : Int} {post : Option Value → CT → MS → Prop} (h_a : OB T a 8) (r_c2 : 0 ≤ c2 ∧ c2 ≤ 200) (r_c3 : 0 ≤ c3 ∧ c3 ≤ 1) (hw0 : WT T σ0) (h2 : 0 ≤ c2 ∧ c2 ≤ 200) (h3 : c3 = 0 ∨ c3 = 1) (hxy : σ0.2.1 77 a = (xy : Int)) (hxz : σ0.2.1 79 a = (xz : Int)) (hLz : σ0.2.2 xz = Lz) (hxr : σ0.2.1 78 a = (xr : Int)) (hN : n ≤ 200) (hne : xy ≠ xz) (hx_131 : ∀ (i4 : Int) (σ : MS) , (WT T σ) → (FrC T [80] σ0 σ) → (0 ≤ i4 ∧ i4 ≤ 3) → (CHX [(80, a)] [] [xy] σ0 σ) → (True) → (i4 ≤ 3 ∧ ((σ.2.1 80 a) = 0 ∨ (σ.2.1 80 a) = 1)) → (CTP L0 (σ.2.2 xy) Lz c2 c3 c0 3 (σ.2.1 80 a)) → Tn (d + 2) m_X8_comeTo 131 T σ [(0, .ref a), (2, .int (iI c2)), (3, .int (iI c3)), (4, .int (iI i4))] [] post) : ∀ (nq9 : Nat) (i4 : Int) (σ : MS) , (WT T σ) → (FrC T [80] σ0 σ) → (0 ≤ i4 ∧ i4 ≤ 3) → (CHX [(80, a)] [] [xy] σ0 σ) → (CTP L0 (σ.2.2 xy) Lz c2 c3 c0 i4 (σ.2.1 80 a)) → (i4 ≤ 3 ∧ ((σ.2.1 80 a) = 0 ∨ (σ.2.1 80 a) = 1)) → (2147483700 - i4).toNat = nq9 → Tn (d + 2) m_X8_comeTo 33 T σ [(0, .ref a), (2, .int (iI c2)), (3, .int (iI c3)), (4, .int (iI i4))] [] post := by
  intro nq9
  induction nq9 using Nat.strongRecOn with
  | _ nq9 ih =>
    intro i4 σ hw hF r_i4 hC hP h4 hm
    refine tn_iload dX8_comeTo_33 3 rfl ?_
    refine tn_iconst dX8_comeTo_35 ?_
    refine tn_icmp_ge (tgt := 131) dX8_comeTo_36 (by decide) ⟨by omega, by omega⟩ ⟨by decide, by decide⟩ (fun h1 => ?_) (fun h1 => ?_)
    · exact tn_sub [0, 1, 2, 3] rfl (hx_131 (i4) σ hw (FrC.rfl.trans (FrC.sub hF (by decide))) (by omega) hC True.intro (by omega) (by have z := hP; rw [show i4 = 3 by omega] at z; exact z))
    · refine tn_aload_n dX8_comeTo_39 rfl 0 rfl ?_
      obtain ⟨hk4, hl5⟩ : AR T xy 3 603 603 := ar_of (wf_77 hw0 h_a) hxy
      refine tn_getR (ci := 8) (i := 5) (n := 77) (x := xy) dX8_comeTo_40 rfl lay_8 (by decide) fl8_25 h_a rfl rfl (rc_F hF (Or.inl (by decide)) (by decide) (hxy)) ?_
      refine tn_iload_n dX8_comeTo_43 rfl 1 rfl ?_
      refine tn_iconst dX8_comeTo_44 ?_
      refine tn_imul dX8_comeTo_45 ?_
      refine tn_iload dX8_comeTo_46 3 rfl ?_
      refine tn_iadd dX8_comeTo_48 ?_
      refine tn_callSN (M := m_X8_comeTo) (pc := 49) (ix := 132) (M' := m_X11_bitsAt) (As := [.ref xy, .int (iI ((c2 * 3) + i4))]) (rest := []) dX8_comeTo_49 ok_X11_bitsAt stt_X11_bitsAt nl8_132 np_X11_bitsAt rfl (Nat.le_of_ble_eq_true rfl) (Nat.le_of_ble_eq_true rfl) rfl (k_X11_bitsAt_x (d) (T := T) (σ := σ) (x := xy) (i := (c2 * 3) + i4) hk4 (by omega) (by omega) hw ) (fun r6 T8 σ7 gt9 hp => ?_)
      obtain ⟨v11, rfl, rfl, rfl, f10⟩ := hp
      clear gt9
      show Tn _ _ 52 T σ [(0, .ref a), (2, .int (iI c2)), (3, .int (iI c3)), (4, .int (iI i4))] [.long (v11)] _
      refine tn_lstore (L' := [(5, .long (v11)), (0, .ref a), (2, .int (iI c2)), (3, .int (iI c3)), (4, .int (iI i4))]) dX8_comeTo_52 (by decide) rfl ?_
      refine tn_iload_n dX8_comeTo_54 rfl 3 rfl ?_
      refine tn_if_eq (tgt := 70) dX8_comeTo_55 (by decide) ⟨by omega, by omega⟩ (fun h12 => ?_) (fun h12 => ?_)
      · refine tn_lload dX8_comeTo_70 0 rfl ?_
        refine tn_aload_n dX8_comeTo_72 rfl 1 rfl ?_
        obtain ⟨hk15, hl16⟩ : AR T xz 3 3 3 := ar_of (wf_79 hw0 h_a) hxz
        refine tn_getR (ci := 8) (i := 7) (n := 79) (x := xz) dX8_comeTo_73 rfl lay_8 (by decide) fl8_31 h_a rfl rfl (rc_F hF (Or.inl (by decide)) (by decide) (hxz)) ?_
        refine tn_iload dX8_comeTo_76 4 rfl ?_
        refine tn_callSN (M := m_X8_comeTo) (pc := 78) (ix := 132) (M' := m_X11_bitsAt) (As := [.ref xz, .int (iI i4)]) (rest := [.long (v11)]) dX8_comeTo_78 ok_X11_bitsAt stt_X11_bitsAt nl8_132 np_X11_bitsAt rfl (Nat.le_of_ble_eq_true rfl) (Nat.le_of_ble_eq_true rfl) rfl (k_X11_bitsAt_x (d) (T := T) (σ := σ) (x := xz) (i := i4) hk15 (by omega) (by omega) hw ) (fun r17 T19 σ18 gt20 hp => ?_)
        obtain ⟨v22, rfl, rfl, rfl, f21⟩ := hp
        clear gt20
        show Tn _ _ 81 T σ [(5, .long (v11)), (0, .ref a), (2, .int (iI c2)), (3, .int (iI c3)), (4, .int (iI i4))] [.long (v22), .long (v11)] _
        have cv23 : σ.2.2 xz = Lz := (CHX.l hC (by first | (simp; done) | (simp only [List.mem_cons, List.not_mem_nil, or_false, not_or]; omega))).trans (hLz)
        refine tn_land dX8_comeTo_81 ?_
        refine tn_lstore (L' := [(7, .long ((v11) &&& (v22))), (5, .long (v11)), (0, .ref a), (2, .int (iI c2)), (3, .int (iI c3)), (4, .int (iI i4))]) dX8_comeTo_82 (by decide) rfl ?_
        refine tn_aload_n dX8_comeTo_84 rfl 2 rfl ?_
        refine tn_dup dX8_comeTo_85 rfl ?_
        refine tn_getI (ci := 8) (i := 8) (n := 80) (t := σ.2.1 80 a) dX8_comeTo_86 rfl lay_8 (by decide) fl8_142 h_a rfl rfl (rfl) ?_
        have g24 : ((0 : Int) ≤ σ.2.1 80 a ∧ σ.2.1 80 a ≤ 1) := wf_80 hw h_a
        refine tn_iload_n dX8_comeTo_89 rfl 4 rfl ?_
        refine tn_if_ne (tgt := 101) dX8_comeTo_90 (by decide) ⟨by omega, by omega⟩ (fun h25 => absurd h25 (by omega)) (fun h25 => ?_)
        refine tn_lload dX8_comeTo_93 0 rfl ?_
        refine tn_lload dX8_comeTo_95 1 rfl ?_
        refine tn_lcmpX dX8_comeTo_97 ?_
        refine tn_lcmpE (fun z26 g27 g27w => ?_)
        refine tn_if_eq (tgt := 105) dX8_comeTo_98 (by decide) ⟨by omega, by omega⟩ (fun h28 => ?_) (fun h28 => ?_)
        · refine tn_iconst dX8_comeTo_105 ?_
          refine tn_ior dX8_comeTo_106 ?_
          refine tn_borX (x := σ.2.1 80 a) (y := 0) (by omega) (by omega) (fun z31 g32 g32w => ?_)
          refine tn_putV (ci := 8) (i := 8) (n := 80) (r := false) (v := z31) tyX8 tyX8_ok nmX8 dX8_comeTo_107 rfl lay_8 (by decide) fl8_142 rfl (tyX8_ok 8 (by decide)) rfl (nz_b (by omega)) (fz_b (by omega)) h_a rfl rfl ?_
          refine tn_aload_n dX8_comeTo_110 rfl 2 rfl ?_
          refine tn_getR (ci := 8) (i := 5) (n := 77) (x := xy) dX8_comeTo_111 rfl lay_8 (by decide) fl8_25 h_a rfl rfl (rc_o (by decide) (rc_F hF (Or.inl (by decide)) (by decide) (hxy))) ?_
          refine tn_iload_n dX8_comeTo_114 rfl 3 rfl ?_
          refine tn_iconst dX8_comeTo_115 ?_
          refine tn_imul dX8_comeTo_116 ?_
          refine tn_iload dX8_comeTo_117 5 rfl ?_
          refine tn_iadd dX8_comeTo_119 ?_
          refine tn_lload dX8_comeTo_120 0 rfl ?_
          refine tn_callSN (M := m_X8_comeTo) (pc := 122) (ix := 152) (M' := m_X11_putBits) (As := [.ref xy, .int (iI ((c2 * 3) + i4)), .long ((v11) &&& (v22))]) (rest := []) dX8_comeTo_122 ok_X11_putBits stt_X11_putBits nl8_152 np_X11_putBits rfl (Nat.le_of_ble_eq_true rfl) (Nat.le_of_ble_eq_true rfl) rfl (k_X11_putBits_x (d) (T := T) (σ := (sA 80 a (z31) σ)) (x := xy) (i := (c2 * 3) + i4) (w := (v11) &&& (v22)) hk4 (by omega) (by omega) (hw.put (by decide) (by decide) (fo_80 (by omega))) ) (fun r33 T35 σ34 gt36 hp => ?_)
          obtain ⟨rfl, rfl, w40, F41, f37, f38⟩ := hp
          clear gt36
          show Tn _ _ 125 T σ34 [(7, .long ((v11) &&& (v22))), (5, .long (v11)), (0, .ref a), (2, .int (iI c2)), (3, .int (iI c3)), (4, .int (iI i4))] [] _
          refine tn_iinc (q0 := 5) (L' := [(4, .int (iI (i4 + 1))), (7, .long ((v11) &&& (v22))), (5, .long (v11)), (0, .ref a), (2, .int (iI c2)), (3, .int (iI c3))]) dX8_comeTo_125 rfl (by decide) rfl ?_
          refine tn_goto (tgt := 33) dX8_comeTo_128 (by decide) ?_
          exact tn_sub [3, 4, 5, 0] rfl (ih _ (by omega) (i4 + 1) σ34 w40 (((FrC.rfl.trans (FrC.sub hF (by decide))).put (by decide) (by decide)).trans (FrC.sub F41 (by decide))) (by omega) ((hC.fld (by simp) (by decide)).trans (CHX.sub f37 (by simp) (by simp) (by simp))) (by rw [show σ34.2.1 80 a = z31 from rc_F F41 (Or.inl (by decide)) (by decide) (ra_eq)]; exact hP.step (f := 0) (w := (v11) &&& (v22)) (by omega) (by omega) (by unfold nwL; rw [if_neg (by omega), ltv_in f10 rfl (show _ = 3 * c2 + i4 by omega) ⟨by omega, by omega⟩, ltv_in f21 cv23 (show _ = i4 by omega) ⟨by omega, by omega⟩, hP.was]) (by omega) ⟨fun q => ⟨by omega, (g27w.mp (by omega)).trans ((ltv_in f10 rfl (show _ = 3 * c2 + i4 by omega) ⟨by omega, by omega⟩).trans hP.was)⟩, fun q => by have z := g27w.mpr (q.2.trans ((ltv_in f10 rfl (show _ = 3 * c2 + i4 by omega) ⟨by omega, by omega⟩).trans hP.was).symm); omega⟩ (by omega) g32w (by rw [ptl_row f38 ⟨by omega, by omega⟩]; funext q; rw [show c2 * 3 + i4 = 3 * c2 + i4 by omega]; rfl)) (by rw [show σ34.2.1 80 a = z31 from rc_F F41 (Or.inl (by decide)) (by decide) (ra_eq)]; omega) rfl)
        · refine tn_iconst dX8_comeTo_101 ?_
          refine tn_goto (tgt := 106) dX8_comeTo_102 (by decide) ?_
          refine tn_ior dX8_comeTo_106 ?_
          refine tn_borX (x := σ.2.1 80 a) (y := 1) (by omega) (by omega) (fun z44 g45 g45w => ?_)
          refine tn_putV (ci := 8) (i := 8) (n := 80) (r := false) (v := z44) tyX8 tyX8_ok nmX8 dX8_comeTo_107 rfl lay_8 (by decide) fl8_142 rfl (tyX8_ok 8 (by decide)) rfl (nz_b (by omega)) (fz_b (by omega)) h_a rfl rfl ?_
          refine tn_aload_n dX8_comeTo_110 rfl 2 rfl ?_
          refine tn_getR (ci := 8) (i := 5) (n := 77) (x := xy) dX8_comeTo_111 rfl lay_8 (by decide) fl8_25 h_a rfl rfl (rc_o (by decide) (rc_F hF (Or.inl (by decide)) (by decide) (hxy))) ?_
          refine tn_iload_n dX8_comeTo_114 rfl 3 rfl ?_
          refine tn_iconst dX8_comeTo_115 ?_
          refine tn_imul dX8_comeTo_116 ?_
          refine tn_iload dX8_comeTo_117 5 rfl ?_
          refine tn_iadd dX8_comeTo_119 ?_
          refine tn_lload dX8_comeTo_120 0 rfl ?_
          refine tn_callSN (M := m_X8_comeTo) (pc := 122) (ix := 152) (M' := m_X11_putBits) (As := [.ref xy, .int (iI ((c2 * 3) + i4)), .long ((v11) &&& (v22))]) (rest := []) dX8_comeTo_122 ok_X11_putBits stt_X11_putBits nl8_152 np_X11_putBits rfl (Nat.le_of_ble_eq_true rfl) (Nat.le_of_ble_eq_true rfl) rfl (k_X11_putBits_x (d) (T := T) (σ := (sA 80 a (z44) σ)) (x := xy) (i := (c2 * 3) + i4) (w := (v11) &&& (v22)) hk4 (by omega) (by omega) (hw.put (by decide) (by decide) (fo_80 (by omega))) ) (fun r46 T48 σ47 gt49 hp => ?_)
          obtain ⟨rfl, rfl, w53, F54, f50, f51⟩ := hp
          clear gt49
          show Tn _ _ 125 T σ47 [(7, .long ((v11) &&& (v22))), (5, .long (v11)), (0, .ref a), (2, .int (iI c2)), (3, .int (iI c3)), (4, .int (iI i4))] [] _
          refine tn_iinc (q0 := 5) (L' := [(4, .int (iI (i4 + 1))), (7, .long ((v11) &&& (v22))), (5, .long (v11)), (0, .ref a), (2, .int (iI c2)), (3, .int (iI c3))]) dX8_comeTo_125 rfl (by decide) rfl ?_
          refine tn_goto (tgt := 33) dX8_comeTo_128 (by decide) ?_
          exact tn_sub [3, 4, 5, 0] rfl (ih _ (by omega) (i4 + 1) σ47 w53 (((FrC.rfl.trans (FrC.sub hF (by decide))).put (by decide) (by decide)).trans (FrC.sub F54 (by decide))) (by omega) ((hC.fld (by simp) (by decide)).trans (CHX.sub f50 (by simp) (by simp) (by simp))) (by rw [show σ47.2.1 80 a = z44 from rc_F F54 (Or.inl (by decide)) (by decide) (ra_eq)]; exact hP.step (f := 1) (w := (v11) &&& (v22)) (by omega) (by omega) (by unfold nwL; rw [if_neg (by omega), ltv_in f10 rfl (show _ = 3 * c2 + i4 by omega) ⟨by omega, by omega⟩, ltv_in f21 cv23 (show _ = i4 by omega) ⟨by omega, by omega⟩, hP.was]) (by omega) ⟨fun q => ⟨by omega, (g27w.mp (by omega)).trans ((ltv_in f10 rfl (show _ = 3 * c2 + i4 by omega) ⟨by omega, by omega⟩).trans hP.was)⟩, fun q => by have z := g27w.mpr (q.2.trans ((ltv_in f10 rfl (show _ = 3 * c2 + i4 by omega) ⟨by omega, by omega⟩).trans hP.was).symm); omega⟩ (by omega) g45w (by rw [ptl_row f51 ⟨by omega, by omega⟩]; funext q; rw [show c2 * 3 + i4 = 3 * c2 + i4 by omega]; rfl)) (by rw [show σ47.2.1 80 a = z44 from rc_F F54 (Or.inl (by decide)) (by decide) (ra_eq)]; omega) rfl)
      · refine tn_aload_n dX8_comeTo_58 rfl 1 rfl ?_
        obtain ⟨hk57, hl58⟩ : AR T xz 3 3 3 := ar_of (wf_79 hw0 h_a) hxz
        refine tn_getR (ci := 8) (i := 7) (n := 79) (x := xz) dX8_comeTo_59 rfl lay_8 (by decide) fl8_31 h_a rfl rfl (rc_F hF (Or.inl (by decide)) (by decide) (hxz)) ?_
        refine tn_iload dX8_comeTo_62 4 rfl ?_
        refine tn_callSN (M := m_X8_comeTo) (pc := 64) (ix := 132) (M' := m_X11_bitsAt) (As := [.ref xz, .int (iI i4)]) (rest := []) dX8_comeTo_64 ok_X11_bitsAt stt_X11_bitsAt nl8_132 np_X11_bitsAt rfl (Nat.le_of_ble_eq_true rfl) (Nat.le_of_ble_eq_true rfl) rfl (k_X11_bitsAt_x (d) (T := T) (σ := σ) (x := xz) (i := i4) hk57 (by omega) (by omega) hw ) (fun r59 T61 σ60 gt62 hp => ?_)
        obtain ⟨v64, rfl, rfl, rfl, f63⟩ := hp
        clear gt62
        show Tn _ _ 67 T σ [(5, .long (v11)), (0, .ref a), (2, .int (iI c2)), (3, .int (iI c3)), (4, .int (iI i4))] [.long (v64)] _
        have cv65 : σ.2.2 xz = Lz := (CHX.l hC (by first | (simp; done) | (simp only [List.mem_cons, List.not_mem_nil, or_false, not_or]; omega))).trans (hLz)
        refine tn_goto (tgt := 82) dX8_comeTo_67 (by decide) ?_
        refine tn_lstore (L' := [(7, .long (v64)), (5, .long (v11)), (0, .ref a), (2, .int (iI c2)), (3, .int (iI c3)), (4, .int (iI i4))]) dX8_comeTo_82 (by decide) rfl ?_
        refine tn_aload_n dX8_comeTo_84 rfl 2 rfl ?_
        refine tn_dup dX8_comeTo_85 rfl ?_
        refine tn_getI (ci := 8) (i := 8) (n := 80) (t := σ.2.1 80 a) dX8_comeTo_86 rfl lay_8 (by decide) fl8_142 h_a rfl rfl (rfl) ?_
        have g66 : ((0 : Int) ≤ σ.2.1 80 a ∧ σ.2.1 80 a ≤ 1) := wf_80 hw h_a
        refine tn_iload_n dX8_comeTo_89 rfl 4 rfl ?_
        refine tn_if_ne (tgt := 101) dX8_comeTo_90 (by decide) ⟨by omega, by omega⟩ (fun h67 => ?_) (fun h67 => absurd h67 (by omega))
        refine tn_iconst dX8_comeTo_101 ?_
        refine tn_goto (tgt := 106) dX8_comeTo_102 (by decide) ?_
        refine tn_ior dX8_comeTo_106 ?_
        refine tn_borX (x := σ.2.1 80 a) (y := 1) (by omega) (by omega) (fun z70 g71 g71w => ?_)
        refine tn_putV (ci := 8) (i := 8) (n := 80) (r := false) (v := z70) tyX8 tyX8_ok nmX8 dX8_comeTo_107 rfl lay_8 (by decide) fl8_142 rfl (tyX8_ok 8 (by decide)) rfl (nz_b (by omega)) (fz_b (by omega)) h_a rfl rfl ?_
        refine tn_aload_n dX8_comeTo_110 rfl 2 rfl ?_
        refine tn_getR (ci := 8) (i := 5) (n := 77) (x := xy) dX8_comeTo_111 rfl lay_8 (by decide) fl8_25 h_a rfl rfl (rc_o (by decide) (rc_F hF (Or.inl (by decide)) (by decide) (hxy))) ?_
        refine tn_iload_n dX8_comeTo_114 rfl 3 rfl ?_
        refine tn_iconst dX8_comeTo_115 ?_
        refine tn_imul dX8_comeTo_116 ?_
        refine tn_iload dX8_comeTo_117 5 rfl ?_
        refine tn_iadd dX8_comeTo_119 ?_
        refine tn_lload dX8_comeTo_120 0 rfl ?_
        refine tn_callSN (M := m_X8_comeTo) (pc := 122) (ix := 152) (M' := m_X11_putBits) (As := [.ref xy, .int (iI ((c2 * 3) + i4)), .long (v64)]) (rest := []) dX8_comeTo_122 ok_X11_putBits stt_X11_putBits nl8_152 np_X11_putBits rfl (Nat.le_of_ble_eq_true rfl) (Nat.le_of_ble_eq_true rfl) rfl (k_X11_putBits_x (d) (T := T) (σ := (sA 80 a (z70) σ)) (x := xy) (i := (c2 * 3) + i4) (w := v64) hk4 (by omega) (by omega) (hw.put (by decide) (by decide) (fo_80 (by omega))) ) (fun r72 T74 σ73 gt75 hp => ?_)
        obtain ⟨rfl, rfl, w79, F80, f76, f77⟩ := hp
        clear gt75
        show Tn _ _ 125 T σ73 [(7, .long (v64)), (5, .long (v11)), (0, .ref a), (2, .int (iI c2)), (3, .int (iI c3)), (4, .int (iI i4))] [] _
        refine tn_iinc (q0 := 5) (L' := [(4, .int (iI (i4 + 1))), (7, .long (v64)), (5, .long (v11)), (0, .ref a), (2, .int (iI c2)), (3, .int (iI c3))]) dX8_comeTo_125 rfl (by decide) rfl ?_
        refine tn_goto (tgt := 33) dX8_comeTo_128 (by decide) ?_
        exact tn_sub [3, 4, 5, 0] rfl (ih _ (by omega) (i4 + 1) σ73 w79 (((FrC.rfl.trans (FrC.sub hF (by decide))).put (by decide) (by decide)).trans (FrC.sub F80 (by decide))) (by omega) ((hC.fld (by simp) (by decide)).trans (CHX.sub f76 (by simp) (by simp) (by simp))) (by rw [show σ73.2.1 80 a = z70 from rc_F F80 (Or.inl (by decide)) (by decide) (ra_eq)]; exact hP.step (f := 1) (w := v64) (by omega) (by omega) (by unfold nwL; rw [if_pos (by omega)]; exact ltv_in f63 cv65 (show _ = i4 by omega) ⟨by omega, by omega⟩) (by omega) ⟨fun q => by omega, fun q => by omega⟩ (by omega) g71w (by rw [ptl_row f77 ⟨by omega, by omega⟩]; funext q; rw [show c2 * 3 + i4 = 3 * c2 + i4 by omega]; rfl)) (by rw [show σ73.2.1 80 a = z70 from rc_F F80 (Or.inl (by decide)) (by decide) (ra_eq)]; omega) rfl)
set_option maxHeartbeats 1000000 in
set_option maxRecDepth 20000 in
theorem k_X8_comeTo_x (d : Nat) {T : CT} {σ : MS} {a : Nat} {p1 : Nat} {p2 : Int} {n : Int} {xy : Nat} {Ly : Int → Int64} {xz : Nat} {Lz : Int → Int64} {xr : Nat} {Rr : Int → Int} {cc : Int} (ha : OB T a 8) (h_p1 : OB T p1 1) (t_p1 : (T p1).1 = 50) (h_p2 : -2147483648 ≤ p2 ∧ p2 ≤ 2147483647) (hw : WT T σ) (hn : σ.2.1 6 p1 = n) (hxy : σ.2.1 77 a = (xy : Int)) (hLy : σ.2.2 xy = Ly) (hxz : σ.2.1 79 a = (xz : Int)) (hLz : σ.2.2 xz = Lz) (hxr : σ.2.1 78 a = (xr : Int)) (hRr : σ.2.1 (1000 + xr) = Rr) (hcc : σ.2.1 80 a = cc) (hN : n ≤ 200) (hne : xy ≠ xz) : Tn (d + 2) m_X8_comeTo 0 T σ [(0, .ref a), (1, .ref p1), (2, .int (iI p2))] [] (fun ro T2 σ2 => ro = none ∧ T = T2 ∧ WT T2 σ2 ∧ FrC T [80] σ σ2 ∧ (CHX [(80, a)] [xr] [xy] σ σ2) ∧ (CTX n p2 Lz Ly Rr cc (σ2.2.2 xy) (σ2.2.1 (1000 + xr)) (σ2.2.1 80 a)) ∧ (σ2.2.1 80 a = 0 ∨ σ2.2.1 80 a = 1)) := by
  have h6 := wf_6 hw h_p1
  have h80 := wf_80 hw ha
  refine tn_iload_n dX8_comeTo_0 rfl 2 rfl ?_
  refine tn_if_lt (tgt := 12) dX8_comeTo_1 (by decide) ⟨by omega, by omega⟩ (fun h1 => ?_) (fun h1 => ?_)
  · exact tn_vret rfl dX8_comeTo_12 ⟨rfl, rfl, hw, FrC.rfl, CHX.rfl, (Or.inl ⟨by omega, hLy, hRr, hcc⟩), (by rw [show σ.2.1 80 a = σ.2.1 80 a from rfl]; omega)⟩
  · refine tn_iload_n dX8_comeTo_4 rfl 2 rfl ?_
    refine tn_aload_n dX8_comeTo_5 rfl 1 rfl ?_
    refine tn_getI (ci := 1) (i := 1) (n := 6) (t := σ.2.1 6 p1) dX8_comeTo_6 rfl lay_1 (by decide) fl8_70 h_p1 rfl rfl (rfl) ?_
    have g2 : ((0 : Int) ≤ σ.2.1 6 p1 ∧ σ.2.1 6 p1 ≤ 5000) ∧ ((T p1).1 = 50 → σ.2.1 6 p1 ≤ 200) := wf_6 hw h_p1
    have g2x := g2.2
    replace g2 := g2.1
    have g2x := g2x t_p1
    refine tn_icmp_le (tgt := 13) dX8_comeTo_9 (by decide) ⟨by omega, by omega⟩ ⟨by omega, by omega⟩ (fun h3 => ?_) (fun h3 => ?_)
    · refine tn_aload_n dX8_comeTo_13 rfl 0 rfl ?_
      obtain ⟨hk6, hl7⟩ : AR T xr 1 201 201 := ar_of (wf_78 hw ha) hxr
      have hk6i : IA T xr := by unfold IA; omega
      refine tn_getR (ci := 8) (i := 6) (n := 78) (x := xr) dX8_comeTo_14 rfl lay_8 (by decide) fl8_28 ha rfl rfl (hxr) ?_
      refine tn_iload_n dX8_comeTo_17 rfl 2 rfl ?_
      refine tn_callSN (M := m_X8_comeTo) (pc := 18) (ix := 74) (M' := m_X11_at) (As := [.ref xr, .int (iI p2)]) (rest := []) dX8_comeTo_18 ok_X11_at stt_X11_at nl8_74 np_X11_at rfl (Nat.le_of_ble_eq_true rfl) (Nat.le_of_ble_eq_true rfl) rfl (k_X11_at_x (d) (T := T) (σ := σ) (x := xr) (i := p2) (R := Rr) hk6i (by omega) (by omega) hw hRr) (fun r8 T10 σ9 gt11 hp => ?_)
      obtain ⟨v15, rfl, rfl, rfl, f12, f13, f14⟩ := hp
      clear gt11
      clear f13
      have f14u := f14
      unfold ATQ at f14u
      show Tn _ _ 21 T σ [(0, .ref a), (1, .ref p1), (2, .int (iI p2))] [.int (iI v15)] _
      refine tn_if_ne (tgt := 28) dX8_comeTo_21 (by decide) ⟨by omega, by omega⟩ (fun h16 => ?_) (fun h16 => ?_)
      · refine tn_iconst dX8_comeTo_28 ?_
        refine tn_istore_n (L' := [(3, .int (iI 0)), (0, .ref a), (1, .ref p1), (2, .int (iI p2))]) dX8_comeTo_29 rfl (by decide) rfl ?_
        refine tn_iconst dX8_comeTo_30 ?_
        refine tn_istore (L' := [(4, .int (iI 0)), (3, .int (iI 0)), (0, .ref a), (1, .ref p1), (2, .int (iI p2))]) dX8_comeTo_31 (by decide) rfl ?_
        refine tn_sub [2, 4, 1, 0] rfl (l_X8_comeTo_x_33 (d) (T := T) (σ0 := σ) (a := a) (c2 := p2) (c3 := 0) (n := n) (xy := xy) (Ly := Ly) (xz := xz) (Lz := (Lz)) (xr := xr) (Rr := Rr) (cc := cc) (L0 := Ly) (c0 := cc) ha (by omega) (by omega) hw (by omega) (by omega) (hxy) (hxz) hLz (hxr) hN hne (fun i417 σ18 w21 F22 r23 f24 f25 f26 f27 => ?_) _ (0) σ hw FrC.rfl (by omega) CHX.rfl (by rw [hLy, hcc]; exact CTP.nil (by omega)) (by omega) rfl)
        show Tn _ _ 131 T σ18 [(0, .ref a), (2, .int (iI p2)), (3, .int (iI 0)), (4, .int (iI i417))] [] _
        have cv28 : σ18.2.1 (1000 + xr) = Rr := (CHX.r f24 (by first | (simp; done) | (simp only [List.mem_cons, List.not_mem_nil, or_false, not_or]; omega))).trans (hRr)
        refine tn_aload_n dX8_comeTo_131 rfl 0 rfl ?_
        refine tn_getR (ci := 8) (i := 6) (n := 78) (x := xr) dX8_comeTo_132 rfl lay_8 (by decide) fl8_28 ha rfl rfl (rc_F F22 (Or.inl (by decide)) (by decide) (hxr)) ?_
        refine tn_iload_n dX8_comeTo_135 rfl 1 rfl ?_
        refine tn_iconst dX8_comeTo_136 ?_
        refine tn_callSN (M := m_X8_comeTo) (pc := 137) (ix := 128) (M' := m_X11_put) (As := [.ref xr, .int (iI p2), .int (iI 1)]) (rest := []) dX8_comeTo_137 ok_X11_put stt_X11_put nl8_128 np_X11_put rfl (Nat.le_of_ble_eq_true rfl) (Nat.le_of_ble_eq_true rfl) rfl (k_X11_put_x (d) (T := T) (σ := σ18) (x := xr) (i := p2) (y := 1) hk6i (by omega) (by omega) (by decide) w21 (nh_k hk6 (by unfold HT; omega)) (vok_1 (by have q9 := hk6; omega) (by omega))) (fun r29 T31 σ30 gt32 hp => ?_)
        obtain ⟨rfl, rfl, w36, F37, f33, f34⟩ := hp
        clear gt32
        show Tn _ _ 140 T σ30 [(0, .ref a), (2, .int (iI p2)), (3, .int (iI 0)), (4, .int (iI i417))] [] _
        have cv38 : σ30.2.2 xy = σ18.2.2 xy := (CHX.l f33 (by first | (simp; done) | (simp only [List.mem_cons, List.not_mem_nil, or_false, not_or]; omega))).trans (rfl)
        exact tn_vret rfl dX8_comeTo_140 ⟨rfl, rfl, w36, ((FrC.rfl.trans (FrC.sub F22 (by decide))).trans (FrC.sub F37 (by decide))), ((CHX.rfl.trans (CHX.sub f24 (by simp) (by simp) (by simp))).trans (CHX.sub f33 (by simp) (by simp) (by simp))), (by rw [cv38]; rw [show σ30.2.1 80 a = σ18.2.1 80 a from rc_F F37 (Or.inl (by decide)) (by decide) (rfl)]; exact CTX.mk ⟨by omega, by omega⟩ f27 (by have z := f14; unfold ATQ at z; omega) (by rw [ptf_row f34 ⟨by omega, by omega⟩, cv28])), (by rw [show σ30.2.1 80 a = σ18.2.1 80 a from rc_F F37 (Or.inl (by decide)) (by decide) (rfl)]; omega)⟩
      · refine tn_iconst dX8_comeTo_24 ?_
        refine tn_goto (tgt := 29) dX8_comeTo_25 (by decide) ?_
        refine tn_istore_n (L' := [(3, .int (iI 1)), (0, .ref a), (1, .ref p1), (2, .int (iI p2))]) dX8_comeTo_29 rfl (by decide) rfl ?_
        refine tn_iconst dX8_comeTo_30 ?_
        refine tn_istore (L' := [(4, .int (iI 0)), (3, .int (iI 1)), (0, .ref a), (1, .ref p1), (2, .int (iI p2))]) dX8_comeTo_31 (by decide) rfl ?_
        refine tn_sub [2, 4, 1, 0] rfl (l_X8_comeTo_x_33 (d) (T := T) (σ0 := σ) (a := a) (c2 := p2) (c3 := 1) (n := n) (xy := xy) (Ly := Ly) (xz := xz) (Lz := (Lz)) (xr := xr) (Rr := Rr) (cc := cc) (L0 := Ly) (c0 := cc) ha (by omega) (by omega) hw (by omega) (by omega) (hxy) (hxz) hLz (hxr) hN hne (fun i439 σ40 w43 F44 r45 f46 f47 f48 f49 => ?_) _ (0) σ hw FrC.rfl (by omega) CHX.rfl (by rw [hLy, hcc]; exact CTP.nil (by omega)) (by omega) rfl)
        show Tn _ _ 131 T σ40 [(0, .ref a), (2, .int (iI p2)), (3, .int (iI 1)), (4, .int (iI i439))] [] _
        have cv50 : σ40.2.1 (1000 + xr) = Rr := (CHX.r f46 (by first | (simp; done) | (simp only [List.mem_cons, List.not_mem_nil, or_false, not_or]; omega))).trans (hRr)
        refine tn_aload_n dX8_comeTo_131 rfl 0 rfl ?_
        refine tn_getR (ci := 8) (i := 6) (n := 78) (x := xr) dX8_comeTo_132 rfl lay_8 (by decide) fl8_28 ha rfl rfl (rc_F F44 (Or.inl (by decide)) (by decide) (hxr)) ?_
        refine tn_iload_n dX8_comeTo_135 rfl 1 rfl ?_
        refine tn_iconst dX8_comeTo_136 ?_
        refine tn_callSN (M := m_X8_comeTo) (pc := 137) (ix := 128) (M' := m_X11_put) (As := [.ref xr, .int (iI p2), .int (iI 1)]) (rest := []) dX8_comeTo_137 ok_X11_put stt_X11_put nl8_128 np_X11_put rfl (Nat.le_of_ble_eq_true rfl) (Nat.le_of_ble_eq_true rfl) rfl (k_X11_put_x (d) (T := T) (σ := σ40) (x := xr) (i := p2) (y := 1) hk6i (by omega) (by omega) (by decide) w43 (nh_k hk6 (by unfold HT; omega)) (vok_1 (by have q9 := hk6; omega) (by omega))) (fun r51 T53 σ52 gt54 hp => ?_)
        obtain ⟨rfl, rfl, w58, F59, f55, f56⟩ := hp
        clear gt54
        show Tn _ _ 140 T σ52 [(0, .ref a), (2, .int (iI p2)), (3, .int (iI 1)), (4, .int (iI i439))] [] _
        have cv60 : σ52.2.2 xy = σ40.2.2 xy := (CHX.l f55 (by first | (simp; done) | (simp only [List.mem_cons, List.not_mem_nil, or_false, not_or]; omega))).trans (rfl)
        exact tn_vret rfl dX8_comeTo_140 ⟨rfl, rfl, w58, ((FrC.rfl.trans (FrC.sub F44 (by decide))).trans (FrC.sub F59 (by decide))), ((CHX.rfl.trans (CHX.sub f46 (by simp) (by simp) (by simp))).trans (CHX.sub f55 (by simp) (by simp) (by simp))), (by rw [cv60]; rw [show σ52.2.1 80 a = σ40.2.1 80 a from rc_F F59 (Or.inl (by decide)) (by decide) (rfl)]; exact CTX.mk ⟨by omega, by omega⟩ f49 (by have z := f14; unfold ATQ at z; omega) (by rw [ptf_row f56 ⟨by omega, by omega⟩, cv50])), (by rw [show σ52.2.1 80 a = σ40.2.1 80 a from rc_F F59 (Or.inl (by decide)) (by decide) (rfl)]; omega)⟩
    · exact tn_vret rfl dX8_comeTo_12 ⟨rfl, rfl, hw, FrC.rfl, CHX.rfl, (Or.inl ⟨by omega, hLy, hRr, hcc⟩), (by rw [show σ.2.1 80 a = σ.2.1 80 a from rfl]; omega)⟩
end
