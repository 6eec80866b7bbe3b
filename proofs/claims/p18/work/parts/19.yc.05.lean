section
theorem SEJ.nil {V : Int → It} {n s : Int} {B : Int → Prop} {S Q : Int → Int} (hn : 0 ≤ n ∧ n ≤ 200) (h : ∀ j, 0 ≤ j → j < 201 → S j = 0) : SEJ V n s B S Q 0 0 (-1) := ⟨fun k a b c => absurd (h k a (by omega)) c, fun k a b c => absurd (h k a (by omega)) c, fun j a b => by omega, by have := cN_le (P := fun k => S k = 0) (a := 0) (n := n.toNat); omega⟩
def PDN (V : Int → It) (n : Int) (B : Int → Prop) (S : Int → Int) (p : Int) : Prop := p < 0 ∨ n ≤ p ∨ B p ∨ ∀ t, EDv V n p t → t < n → S t ≠ 0
def SEH (V : Int → It) (n s : Int) (B : Int → Prop) (S Q : Int → Int) (w i : Int) : Prop := (∃ p, SEJ V n s B S Q w i p ∧ PDN V n B S p) ∧ (0 ≤ s → s < n → S s ≠ 0)
section SEH
variable {W : Int → It} {n s w w1 w2 i p b t0 k v r : Int} {B : Int → Prop} {S S1 S2 Q Q1 Q2 : Int → Int}
theorem SEH.num {V : Int → It} (h : SEH V n s B S Q w i) : 0 ≤ w ∧ i + w ≤ n := by
  obtain ⟨⟨p, h, -⟩, -⟩ := h
  have z := h.2.2.2
  have y := (cN_0 (P := fun k => S k = 0) (a := 0) (n := n.toNat)).1
  omega
theorem SEH.start {V : Int → It} (hn : 0 ≤ n ∧ n ≤ 200) (h : ∀ j, 0 ≤ j → j < 201 → S j = 0) (q : SEQ S S2 Q Q2 n s 0 w2) : SEH V n s B S2 Q2 w2 0 := by
  have z := (SEJ.nil (V := V) (s := s) (B := B) (Q := Q) hn h).see q (fun _ _ => RCG.z) (fun q => by omega)
  exact ⟨⟨-1, z.1, Or.inl (by omega)⟩, z.2.1⟩
theorem SEH.pop {V : Int → It} (h : SEH V n s B S Q w i) (hw : 0 < w) : SEJ V n s B S Q (w - 1) (i + 1) (Q (w - 1)) ∧ (0 ≤ Q (w - 1) ∧ Q (w - 1) < n) ∧ S (Q (w - 1)) ≠ 0 := by
  obtain ⟨⟨p, h, d⟩, -⟩ := h
  exact h.pop d hw
theorem ed_f (h0 : 0 ≤ p ∧ p < n) (f : FLQ W n p b) (hb : b = 1) : EDv (vW W) n p (p + 1) := Or.inl ⟨by rw [vW_0]; unfold FLQ at f; omega, rfl⟩
theorem SEH.stop {V : Int → It} (h : SEJ V n s B S Q w i p) (hs : 0 ≤ s → s < n → S s ≠ 0) (hb : B p) : SEH V n s B S Q w i := ⟨⟨p, h, Or.inr (Or.inr (Or.inl hb))⟩, hs⟩
theorem SEH.fall (hL : LNK W n) (hU : UNQ (vW W) n) (h : SEJ (vW W) n s B S Q w i p) (hs : 0 ≤ s → s < n → S s ≠ 0) (h0 : 0 ≤ p ∧ p < n) (hp : S p ≠ 0) (hb : ¬ B p) (f : FLQ W n p b) (hb1 : b = 1) (g : TGQ W n p t0) (q1 : SEQ S S1 Q Q1 n (p + 1) w w1) (q2 : SEQ S1 S2 Q1 Q2 n t0 w1 w2) : SEH (vW W) n s B S2 Q2 w2 i := by
  have rp := h.1 p h0.1 h0.2 hp
  have z1 := h.see q1 (fun _ _ => rp.s h0.1 h0.2 hb (ed_f h0 f hb1)) (fun _ => hp)
  have z2 := z1.1.see q2 (fun a _ => rp.s h0.1 h0.2 hb ((ed_c hL hU h0 f g).mpr (Or.inr ⟨a, rfl⟩))) (fun _ => z1.2.2 p hp)
  refine ⟨⟨p, z2.1, Or.inr (Or.inr (Or.inr (fun t e l => ?_)))⟩, fun a b => z2.2.2 s (z1.2.2 s (hs a b))⟩
  rcases (ed_c hL hU h0 f g).mp e with ⟨-, e⟩ | ⟨e1, e⟩
  · rw [e] at l ⊢; exact z2.2.2 _ (z1.2.1 (by omega) l)
  · rw [e] at l ⊢; exact z2.2.1 e1 l
theorem SEH.turn (hL : LNK W n) (hU : UNQ (vW W) n) (h : SEJ (vW W) n s B S Q w i p) (hs : 0 ≤ s → s < n → S s ≠ 0) (h0 : 0 ≤ p ∧ p < n) (hp : S p ≠ 0) (hb : ¬ B p) (f : FLQ W n p b) (hb1 : b ≠ 1) (g : TGQ W n p t0) (q2 : SEQ S S2 Q Q2 n t0 w w2) : SEH (vW W) n s B S2 Q2 w2 i := by
  have rp := h.1 p h0.1 h0.2 hp
  have z2 := h.see q2 (fun a _ => rp.s h0.1 h0.2 hb ((ed_c hL hU h0 f g).mpr (Or.inr ⟨a, rfl⟩))) (fun _ => hp)
  refine ⟨⟨p, z2.1, Or.inr (Or.inr (Or.inr (fun t e l => ?_)))⟩, fun a b => z2.2.2 s (hs a b)⟩
  rcases (ed_c hL hU h0 f g).mp e with ⟨e0, -⟩ | ⟨e1, e⟩
  · exact absurd e0 hb1
  · rw [e] at l ⊢; exact z2.2.1 e1 l
theorem SEH.fin {V : Int → It} (h : SEH V n s B S Q w i) (hw : w ≤ 0) : ∀ k, 0 ≤ k → k < n → (S k ≠ 0 ↔ RCG V n s B k) := fun k a b => by
  obtain ⟨⟨p, h, d⟩, hs⟩ := h
  exact h.fin d hw hs ⟨a, b⟩
def RBQ (W : Int → It) (n r : Int) (B : Int → Prop) : Prop := ∀ k v, 0 ≤ k → k < n → WBQ W n k v → (B k ↔ (r ≠ -1 ∧ v = r))
theorem wbq_ex : ∃ v, WBQ W n k v := by
  by_cases h : (0 ≤ k ∧ k < n) ∧ ((0 ≤ W k 0 ∧ W k 0 ≤ 5) ∨ W k 0 = 10)
  · exact ⟨W k 1, Or.inl ⟨h.1, h.2, rfl⟩⟩
  · exact ⟨-1, Or.inr ⟨h, rfl⟩⟩
theorem RBQ.no1 (h : RBQ W n r B) (h0 : 0 ≤ k ∧ k < n) (e : r = -1) : ¬ B k := fun q => by
  obtain ⟨v, w⟩ := wbq_ex (W := W) (n := n) (k := k)
  exact ((h k v h0.1 h0.2 w).mp q).1 e
theorem RBQ.no2 (h : RBQ W n r B) (h0 : 0 ≤ k ∧ k < n) (w : WBQ W n k v) (e : v ≠ r) : ¬ B k := fun q => e ((h k v h0.1 h0.2 w).mp q).2
theorem RBQ.yes (h : RBQ W n r B) (h0 : 0 ≤ k ∧ k < n) (w : WBQ W n k v) (e : v = r) (e2 : r ≠ -1) : B k := (h k v h0.1 h0.2 w).mpr ⟨e2, e⟩
end SEH
set_option maxHeartbeats 1000000 in
set_option maxRecDepth 20000 in
theorem l_X3_seeFrom_x_22 (d : Nat) {T : CT} {σ0 : MS} {a : Nat} {rx1 : Nat} {c3 : Int} {s0 : Int} {x : Nat} {n : Int} {W : Int → It} {xs : Nat} {Sv : Int → Int} {xt : Nat} {Qv : Int → Int} {wq : Int} {B : Int → Prop} {post : Option Value → CT → MS → Prop} (h_a : OB T a 3) (h_rx1 : OB T rx1 1) (r_c3 : -2147483648 ≤ c3 ∧ c3 ≤ 2147483647) (hw0 : WT T σ0) (hB : RBQ W n c3 B) (hn0 : 0 ≤ n) (hx : σ0.2.1 5 rx1 = (x : Int)) (hn : σ0.2.1 6 rx1 = n) (hW : cW σ0 x n = W) (hxs : σ0.2.1 20 a = (xs : Int)) (hxt : σ0.2.1 21 a = (xt : Int)) (hN : n ≤ 200) (hne : xs ≠ xt ∧ x ≠ xs ∧ x ≠ xt) (hLk : LNK W n) (hU : UNQ (vW W) n) (hx_112 : ∀ (i4 : Int) (σ : MS) , (WT T σ) → (FrC T [22] σ0 σ) → (0 ≤ i4 ∧ i4 ≤ 201) → (CHX [(22, a)] [xs, xt] [] σ0 σ) → (True) → (∀ k, 0 ≤ k → k < n → ((σ.2.1 (1000 + xs)) k ≠ 0 ↔ RCG (vW W) n s0 B k)) → Tn (d + 4) m_X3_seeFrom 112 T σ [(0, .ref a), (1, .ref rx1), (3, .int (iI c3)), (4, .int (iI i4))] [] post) : ∀ (nq9 : Nat) (i4 : Int) (σ : MS) , (WT T σ) → (FrC T [22] σ0 σ) → (0 ≤ i4 ∧ i4 ≤ 201) → (CHX [(22, a)] [xs, xt] [] σ0 σ) → (SEH (vW W) n s0 B (σ.2.1 (1000 + xs)) (σ.2.1 (1000 + xt)) (σ.2.1 22 a) i4) → (2147483700 - i4).toNat = nq9 → Tn (d + 4) m_X3_seeFrom 22 T σ [(0, .ref a), (1, .ref rx1), (3, .int (iI c3)), (4, .int (iI i4))] [] post := by
  intro nq9
  induction nq9 using Nat.strongRecOn with
  | _ nq9 ih =>
    intro i4 σ hw hF r_i4 hC hH hm
    have hHn := hH.num
    refine tn_aload_n dX3_seeFrom_22 rfl 0 rfl ?_
    refine tn_getI (ci := 3) (i := 4) (n := 22) (t := σ.2.1 22 a) dX3_seeFrom_23 rfl lay_3 (by decide) fl3_94 h_a rfl rfl (rfl) ?_
    have g1 : ((-2147483648 : Int) ≤ σ.2.1 22 a ∧ σ.2.1 22 a ≤ 2147483647) := wf_22 hw h_a
    refine tn_if_le (tgt := 112) dX3_seeFrom_26 (by decide) ⟨by omega, by omega⟩ (fun h2 => ?_) (fun h2 => ?_)
    · exact tn_sub [0, 1, 2, 3] rfl (hx_112 (i4) σ hw (FrC.rfl.trans (FrC.sub hF (by decide))) (by omega) hC True.intro (hH.fin (by omega)))
    · refine tn_iload dX3_seeFrom_29 3 rfl ?_
      refine tn_ldc (n := 1000000) dX3_seeFrom_31 cst3_39 rfl ?_
      refine tn_icmp_ge (tgt := 112) dX3_seeFrom_33 (by decide) ⟨by omega, by omega⟩ ⟨by decide, by decide⟩ (fun h3 => absurd h3 (by omega)) (fun h3 => ?_)
      refine tn_aload_n dX3_seeFrom_36 rfl 0 rfl ?_
      refine tn_dup dX3_seeFrom_37 rfl ?_
      refine tn_getI (ci := 3) (i := 4) (n := 22) (t := σ.2.1 22 a) dX3_seeFrom_38 rfl lay_3 (by decide) fl3_94 h_a rfl rfl (rfl) ?_
      refine tn_iconst dX3_seeFrom_41 ?_
      refine tn_isub dX3_seeFrom_42 ?_
      refine tn_putV (ci := 3) (i := 4) (n := 22) (r := false) (v := (σ.2.1 22 a) - 1) tyX3 tyX3_ok nmX3 dX3_seeFrom_43 rfl lay_3 (by decide) fl3_94 rfl (tyX3_ok 4 (by decide)) rfl rfl rfl h_a rfl rfl ?_
      refine tn_aload_n dX3_seeFrom_46 rfl 0 rfl ?_
      obtain ⟨hk6, hl7⟩ : AR T xt 1 201 201 := ar_of (wf_21 hw0 h_a) hxt
      have hk6i : IA T xt := by unfold IA; omega
      refine tn_getR (ci := 3) (i := 3) (n := 21) (x := xt) dX3_seeFrom_47 rfl lay_3 (by decide) fl3_22 h_a rfl rfl (rc_o (by decide) (rc_F hF (Or.inl (by decide)) (by decide) (hxt))) ?_
      refine tn_aload_n dX3_seeFrom_50 rfl 0 rfl ?_
      refine tn_getI (ci := 3) (i := 4) (n := 22) (t := (σ.2.1 22 a) - 1) dX3_seeFrom_51 rfl lay_3 (by decide) fl3_94 h_a rfl rfl (ra_eq) ?_
      have cv8 : (sA 22 a ((σ.2.1 22 a) - 1) σ).2.1 (1000 + xt) = σ.2.1 (1000 + xt) := (rv_fld (by decide)).trans (rfl)
      refine tn_callSN (M := m_X3_seeFrom) (pc := 54) (ix := 84) (M' := m_X11_at) (As := [.ref xt, .int (iI ((σ.2.1 22 a) - 1))]) (rest := []) dX3_seeFrom_54 ok_X11_at stt_X11_at nl3_84 np_X11_at rfl (Nat.le_of_ble_eq_true rfl) (Nat.le_of_ble_eq_true rfl) rfl (k_X11_at_x (d + 2) (T := T) (σ := (sA 22 a ((σ.2.1 22 a) - 1) σ)) (x := xt) (i := (σ.2.1 22 a) - 1) (R := σ.2.1 (1000 + xt)) hk6i (by omega) (by omega) (hw.put (by decide) (by decide) (fo_22 (by omega))) cv8) (fun r9 T11 σ10 gt12 hp => ?_)
      obtain ⟨v16, rfl, rfl, rfl, f13, f14, f15⟩ := hp
      clear gt12
      clear f14
      have f15u := f15
      unfold ATQ at f15u
      show Tn _ _ 57 T (sA 22 a ((σ.2.1 22 a) - 1) σ) [(0, .ref a), (1, .ref rx1), (3, .int (iI c3)), (4, .int (iI i4))] [.int (iI v16)] _
      have pp17 := hH.pop (by omega)
      have ep18 : (σ.2.1 (1000 + xt)) (σ.2.1 22 a - 1) = v16 := by have z := f15; unfold ATQ at z; omega
      rw [ep18] at pp17
      have pp17r := pp17.2.1
      refine tn_istore (L' := [(5, .int (iI v16)), (0, .ref a), (1, .ref rx1), (3, .int (iI c3)), (4, .int (iI i4))]) dX3_seeFrom_57 (by decide) rfl ?_
      refine tn_iload_n dX3_seeFrom_59 rfl 3 rfl ?_
      refine tn_iconst dX3_seeFrom_60 ?_
      refine tn_icmp_eq (tgt := 77) dX3_seeFrom_61 (by decide) ⟨by omega, by omega⟩ ⟨by decide, by decide⟩ (fun h19 => ?_) (fun h19 => ?_)
      · refine tn_aload_n dX3_seeFrom_77 rfl 2 rfl ?_
        refine tn_iload dX3_seeFrom_78 0 rfl ?_
        obtain ⟨hl23, hk22a, hk22b⟩ := cel_of (wf_5 hw0 h_rx1) hx
        have hk22i : IA T x := by unfold IA; omega
        have hk22c : CELL T rx1 x := ⟨hk22a, hk22b⟩
        clear hk22a hk22b
        have cv24 : cW (sA 22 a ((σ.2.1 22 a) - 1) σ) x n = W := (cW_fld (by decide)).trans ((cW_row (CHX.r hC (by first | (simp; done) | (simp only [List.mem_cons, List.not_mem_nil, or_false, not_or]; omega)))).trans (hW))
        refine tn_callV (M := m_X3_seeFrom) (pc := 80) (ix := 48) (ci := 1) (M' := m_X1_fallsOn) (As := [.int (iI v16)]) (rest := []) dX3_seeFrom_80 ok_X1_fallsOn im_X1_fallsOn se_X1_fallsOn ml3_48 np_X1_fallsOn rfl rfl h_rx1 rfl (Nat.le_of_ble_eq_true rfl) (Nat.le_of_ble_eq_true rfl) rfl (k_X1_fallsOn_x (d + 1) (T := T) (σ := (sA 22 a ((σ.2.1 22 a) - 1) σ)) (a := rx1) (k := v16) (x := x) (n := n) (W := W) h_rx1 (by omega) (hw.put (by decide) (by decide) (fo_22 (by omega))) (rc_o (by decide) (rc_F hF (Or.inl (by decide)) (by decide) (hx))) (rc_o (by decide) (rc_F hF (Or.inl (by decide)) (by decide) (hn))) cv24 (by omega)) (fun r25 T27 σ26 gt28 hp => ?_)
        obtain ⟨v31, rfl, rfl, rfl, f29, f30⟩ := hp
        clear gt28
        show Tn _ _ 83 T (sA 22 a ((σ.2.1 22 a) - 1) σ) [(5, .int (iI v16)), (0, .ref a), (1, .ref rx1), (3, .int (iI c3)), (4, .int (iI i4))] [.int (iI v31)] _
        refine tn_if_eq (tgt := 95) dX3_seeFrom_83 (by decide) ⟨by omega, by omega⟩ (fun h32 => ?_) (fun h32 => ?_)
        · refine tn_aload_n dX3_seeFrom_95 rfl 1 rfl ?_
          refine tn_aload_n dX3_seeFrom_96 rfl 2 rfl ?_
          refine tn_aload_n dX3_seeFrom_97 rfl 2 rfl ?_
          refine tn_iload dX3_seeFrom_98 0 rfl ?_
          refine tn_callV (M := m_X3_seeFrom) (pc := 100) (ix := 52) (ci := 1) (M' := m_X1_targetOf) (As := [.int (iI v16)]) (rest := [.ref rx1, .ref a]) dX3_seeFrom_100 ok_X1_targetOf im_X1_targetOf se_X1_targetOf ml3_52 np_X1_targetOf rfl rfl h_rx1 rfl (Nat.le_of_ble_eq_true rfl) (Nat.le_of_ble_eq_true rfl) rfl (k_X1_targetOf_x (d + 1) (T := T) (σ := (sA 22 a ((σ.2.1 22 a) - 1) σ)) (a := rx1) (k := v16) (x := x) (n := n) (W := W) h_rx1 (by omega) (hw.put (by decide) (by decide) (fo_22 (by omega))) (rc_o (by decide) (rc_F hF (Or.inl (by decide)) (by decide) (hx))) (rc_o (by decide) (rc_F hF (Or.inl (by decide)) (by decide) (hn))) cv24 (by omega)) (fun r33 T35 σ34 gt36 hp => ?_)
          obtain ⟨v39, rfl, rfl, rfl, f37, f38⟩ := hp
          clear gt36
          show Tn _ _ 103 T (sA 22 a ((σ.2.1 22 a) - 1) σ) [(5, .int (iI v16)), (0, .ref a), (1, .ref rx1), (3, .int (iI c3)), (4, .int (iI i4))] [.int (iI v39), .ref rx1, .ref a] _
          obtain ⟨hk42, hl43⟩ : AR T xs 1 201 201 := ar_of (wf_20 hw0 h_a) hxs
          have hk42i : IA T xs := by unfold IA; omega
          have cv44 : (sA 22 a ((σ.2.1 22 a) - 1) σ).2.1 (1000 + xs) = σ.2.1 (1000 + xs) := (rv_fld (by decide)).trans (rfl)
          refine tn_callV (M := m_X3_seeFrom) (pc := 103) (ix := 97) (ci := 3) (M' := m_X3_see) (As := [.ref rx1, .int (iI v39)]) (rest := []) dX3_seeFrom_103 ok_X3_see im_X3_see se_X3_see ml3_97 np_X3_see rfl rfl h_a rfl (Nat.le_of_ble_eq_true rfl) (Nat.le_of_ble_eq_true rfl) rfl (k_X3_see_x (d) (T := T) (σ := (sA 22 a ((σ.2.1 22 a) - 1) σ)) (a := a) (p1 := rx1) (p2 := v39) (x := x) (n := n) (W := W) (xs := xs) (Sv := σ.2.1 (1000 + xs)) (xt := xt) (Qv := σ.2.1 (1000 + xt)) (wq := (σ.2.1 22 a) - 1) h_a h_rx1 (by omega) (hw.put (by decide) (by decide) (fo_22 (by omega))) (rc_o (by decide) (rc_F hF (Or.inl (by decide)) (by decide) (hx))) (rc_o (by decide) (rc_F hF (Or.inl (by decide)) (by decide) (hn))) cv24 (rc_o (by decide) (rc_F hF (Or.inl (by decide)) (by decide) (hxs))) cv44 (rc_o (by decide) (rc_F hF (Or.inl (by decide)) (by decide) (hxt))) cv8 (ra_eq) (by omega) (by omega) (by omega)) (fun r45 T47 σ46 gt48 hp => ?_)
          obtain ⟨rfl, rfl, w53, F54, f49, f50, f51⟩ := hp
          clear gt48
          show Tn _ _ 106 T σ46 [(5, .int (iI v16)), (0, .ref a), (1, .ref rx1), (3, .int (iI c3)), (4, .int (iI i4))] [] _
          refine tn_iinc (q0 := 4) (L' := [(4, .int (iI (i4 + 1))), (5, .int (iI v16)), (0, .ref a), (1, .ref rx1), (3, .int (iI c3))]) dX3_seeFrom_106 rfl (by decide) rfl ?_
          refine tn_goto (tgt := 22) dX3_seeFrom_109 (by decide) ?_
          exact tn_sub [2, 3, 4, 0] rfl (ih _ (by omega) (i4 + 1) σ46 w53 (((FrC.rfl.trans (FrC.sub hF (by decide))).put (by decide) (by decide)).trans (FrC.sub F54 (by decide))) (by omega) ((hC.fld (by simp) (by decide)).trans (CHX.sub f49 (by simp) (by simp) (by simp))) (SEH.turn hLk hU pp17.1 hH.2 pp17.2.1 pp17.2.2 (hB.no1 pp17.2.1 (by omega)) f30 (by omega) f38 f50) rfl)
        · refine tn_aload_n dX3_seeFrom_86 rfl 1 rfl ?_
          refine tn_aload_n dX3_seeFrom_87 rfl 2 rfl ?_
          refine tn_iload dX3_seeFrom_88 0 rfl ?_
          refine tn_iconst dX3_seeFrom_90 ?_
          refine tn_iadd dX3_seeFrom_91 ?_
          obtain ⟨hk57, hl58⟩ : AR T xs 1 201 201 := ar_of (wf_20 hw0 h_a) hxs
          have hk57i : IA T xs := by unfold IA; omega
          have cv59 : (sA 22 a ((σ.2.1 22 a) - 1) σ).2.1 (1000 + xs) = σ.2.1 (1000 + xs) := (rv_fld (by decide)).trans (rfl)
          refine tn_callV (M := m_X3_seeFrom) (pc := 92) (ix := 97) (ci := 3) (M' := m_X3_see) (As := [.ref rx1, .int (iI (v16 + 1))]) (rest := []) dX3_seeFrom_92 ok_X3_see im_X3_see se_X3_see ml3_97 np_X3_see rfl rfl h_a rfl (Nat.le_of_ble_eq_true rfl) (Nat.le_of_ble_eq_true rfl) rfl (k_X3_see_x (d) (T := T) (σ := (sA 22 a ((σ.2.1 22 a) - 1) σ)) (a := a) (p1 := rx1) (p2 := v16 + 1) (x := x) (n := n) (W := W) (xs := xs) (Sv := σ.2.1 (1000 + xs)) (xt := xt) (Qv := σ.2.1 (1000 + xt)) (wq := (σ.2.1 22 a) - 1) h_a h_rx1 (by omega) (hw.put (by decide) (by decide) (fo_22 (by omega))) (rc_o (by decide) (rc_F hF (Or.inl (by decide)) (by decide) (hx))) (rc_o (by decide) (rc_F hF (Or.inl (by decide)) (by decide) (hn))) cv24 (rc_o (by decide) (rc_F hF (Or.inl (by decide)) (by decide) (hxs))) cv59 (rc_o (by decide) (rc_F hF (Or.inl (by decide)) (by decide) (hxt))) cv8 (ra_eq) (by omega) (by omega) (by omega)) (fun r60 T62 σ61 gt63 hp => ?_)
          obtain ⟨rfl, rfl, w68, F69, f64, f65, f66⟩ := hp
          clear gt63
          show Tn _ _ 95 T σ61 [(5, .int (iI v16)), (0, .ref a), (1, .ref rx1), (3, .int (iI c3)), (4, .int (iI i4))] [] _
          refine tn_aload_n dX3_seeFrom_95 rfl 1 rfl ?_
          refine tn_aload_n dX3_seeFrom_96 rfl 2 rfl ?_
          refine tn_aload_n dX3_seeFrom_97 rfl 2 rfl ?_
          refine tn_iload dX3_seeFrom_98 0 rfl ?_
          have cv70 : cW σ61 x n = W := (cW_row (CHX.r f64 (by first | (simp; done) | (simp only [List.mem_cons, List.not_mem_nil, or_false, not_or]; omega)))).trans (cv24)
          refine tn_callV (M := m_X3_seeFrom) (pc := 100) (ix := 52) (ci := 1) (M' := m_X1_targetOf) (As := [.int (iI v16)]) (rest := [.ref rx1, .ref a]) dX3_seeFrom_100 ok_X1_targetOf im_X1_targetOf se_X1_targetOf ml3_52 np_X1_targetOf rfl rfl h_rx1 rfl (Nat.le_of_ble_eq_true rfl) (Nat.le_of_ble_eq_true rfl) rfl (k_X1_targetOf_x (d + 1) (T := T) (σ := σ61) (a := rx1) (k := v16) (x := x) (n := n) (W := W) h_rx1 (by omega) w68 (rc_F F69 (Or.inl (by decide)) (by decide) (rc_o (by decide) (rc_F hF (Or.inl (by decide)) (by decide) (hx)))) (rc_F F69 (Or.inl (by decide)) (by decide) (rc_o (by decide) (rc_F hF (Or.inl (by decide)) (by decide) (hn)))) cv70 (by omega)) (fun r71 T73 σ72 gt74 hp => ?_)
          obtain ⟨v77, rfl, rfl, rfl, f75, f76⟩ := hp
          clear gt74
          show Tn _ _ 103 T σ61 [(5, .int (iI v16)), (0, .ref a), (1, .ref rx1), (3, .int (iI c3)), (4, .int (iI i4))] [.int (iI v77), .ref rx1, .ref a] _
          refine tn_callV (M := m_X3_seeFrom) (pc := 103) (ix := 97) (ci := 3) (M' := m_X3_see) (As := [.ref rx1, .int (iI v77)]) (rest := []) dX3_seeFrom_103 ok_X3_see im_X3_see se_X3_see ml3_97 np_X3_see rfl rfl h_a rfl (Nat.le_of_ble_eq_true rfl) (Nat.le_of_ble_eq_true rfl) rfl (k_X3_see_x (d) (T := T) (σ := σ61) (a := a) (p1 := rx1) (p2 := v77) (x := x) (n := n) (W := W) (xs := xs) (Sv := σ61.2.1 (1000 + xs)) (xt := xt) (Qv := σ61.2.1 (1000 + xt)) (wq := σ61.2.1 22 a) h_a h_rx1 (by omega) w68 (rc_F F69 (Or.inl (by decide)) (by decide) (rc_o (by decide) (rc_F hF (Or.inl (by decide)) (by decide) (hx)))) (rc_F F69 (Or.inl (by decide)) (by decide) (rc_o (by decide) (rc_F hF (Or.inl (by decide)) (by decide) (hn)))) cv70 (rc_F F69 (Or.inl (by decide)) (by decide) (rc_o (by decide) (rc_F hF (Or.inl (by decide)) (by decide) (hxs)))) rfl (rc_F F69 (Or.inl (by decide)) (by decide) (rc_o (by decide) (rc_F hF (Or.inl (by decide)) (by decide) (hxt)))) rfl (rfl) (by omega) (by omega) (by omega)) (fun r78 T80 σ79 gt81 hp => ?_)
          obtain ⟨rfl, rfl, w86, F87, f82, f83, f84⟩ := hp
          clear gt81
          show Tn _ _ 106 T σ79 [(5, .int (iI v16)), (0, .ref a), (1, .ref rx1), (3, .int (iI c3)), (4, .int (iI i4))] [] _
          refine tn_iinc (q0 := 4) (L' := [(4, .int (iI (i4 + 1))), (5, .int (iI v16)), (0, .ref a), (1, .ref rx1), (3, .int (iI c3))]) dX3_seeFrom_106 rfl (by decide) rfl ?_
          refine tn_goto (tgt := 22) dX3_seeFrom_109 (by decide) ?_
          exact tn_sub [2, 3, 4, 0] rfl (ih _ (by omega) (i4 + 1) σ79 w86 ((((FrC.rfl.trans (FrC.sub hF (by decide))).put (by decide) (by decide)).trans (FrC.sub F69 (by decide))).trans (FrC.sub F87 (by decide))) (by omega) (((hC.fld (by simp) (by decide)).trans (CHX.sub f64 (by simp) (by simp) (by simp))).trans (CHX.sub f82 (by simp) (by simp) (by simp))) (SEH.fall hLk hU pp17.1 hH.2 pp17.2.1 pp17.2.2 (hB.no1 pp17.2.1 (by omega)) f30 (by omega) f76 f65 f83) rfl)
      · refine tn_aload_n dX3_seeFrom_64 rfl 2 rfl ?_
        refine tn_iload dX3_seeFrom_65 0 rfl ?_
        obtain ⟨hl91, hk90a, hk90b⟩ := cel_of (wf_5 hw0 h_rx1) hx
        have hk90i : IA T x := by unfold IA; omega
        have hk90c : CELL T rx1 x := ⟨hk90a, hk90b⟩
        clear hk90a hk90b
        have cv92 : cW (sA 22 a ((σ.2.1 22 a) - 1) σ) x n = W := (cW_fld (by decide)).trans ((cW_row (CHX.r hC (by first | (simp; done) | (simp only [List.mem_cons, List.not_mem_nil, or_false, not_or]; omega)))).trans (hW))
        refine tn_callV (M := m_X3_seeFrom) (pc := 67) (ix := 64) (ci := 1) (M' := m_X1_writtenBy) (As := [.int (iI v16)]) (rest := []) dX3_seeFrom_67 ok_X1_writtenBy im_X1_writtenBy se_X1_writtenBy ml3_64 np_X1_writtenBy rfl rfl h_rx1 rfl (Nat.le_of_ble_eq_true rfl) (Nat.le_of_ble_eq_true rfl) rfl (k_X1_writtenBy_x (d + 1) (T := T) (σ := (sA 22 a ((σ.2.1 22 a) - 1) σ)) (a := rx1) (k := v16) (x := x) (n := n) (W := W) h_rx1 (by omega) (hw.put (by decide) (by decide) (fo_22 (by omega))) (rc_o (by decide) (rc_F hF (Or.inl (by decide)) (by decide) (hx))) (rc_o (by decide) (rc_F hF (Or.inl (by decide)) (by decide) (hn))) cv92 (by omega)) (fun r93 T95 σ94 gt96 hp => ?_)
        obtain ⟨v99, rfl, rfl, rfl, f97, f98⟩ := hp
        clear gt96
        show Tn _ _ 70 T (sA 22 a ((σ.2.1 22 a) - 1) σ) [(5, .int (iI v16)), (0, .ref a), (1, .ref rx1), (3, .int (iI c3)), (4, .int (iI i4))] [.int (iI v99)] _
        refine tn_iload_n dX3_seeFrom_70 rfl 3 rfl ?_
        refine tn_icmp_ne (tgt := 77) dX3_seeFrom_71 (by decide) ⟨by omega, by omega⟩ ⟨by omega, by omega⟩ (fun h100 => ?_) (fun h100 => ?_)
        · refine tn_aload_n dX3_seeFrom_77 rfl 2 rfl ?_
          refine tn_iload dX3_seeFrom_78 0 rfl ?_
          refine tn_callV (M := m_X3_seeFrom) (pc := 80) (ix := 48) (ci := 1) (M' := m_X1_fallsOn) (As := [.int (iI v16)]) (rest := []) dX3_seeFrom_80 ok_X1_fallsOn im_X1_fallsOn se_X1_fallsOn ml3_48 np_X1_fallsOn rfl rfl h_rx1 rfl (Nat.le_of_ble_eq_true rfl) (Nat.le_of_ble_eq_true rfl) rfl (k_X1_fallsOn_x (d + 1) (T := T) (σ := (sA 22 a ((σ.2.1 22 a) - 1) σ)) (a := rx1) (k := v16) (x := x) (n := n) (W := W) h_rx1 (by omega) (hw.put (by decide) (by decide) (fo_22 (by omega))) (rc_o (by decide) (rc_F hF (Or.inl (by decide)) (by decide) (hx))) (rc_o (by decide) (rc_F hF (Or.inl (by decide)) (by decide) (hn))) cv92 (by omega)) (fun r101 T103 σ102 gt104 hp => ?_)
          obtain ⟨v107, rfl, rfl, rfl, f105, f106⟩ := hp
          clear gt104
          show Tn _ _ 83 T (sA 22 a ((σ.2.1 22 a) - 1) σ) [(5, .int (iI v16)), (0, .ref a), (1, .ref rx1), (3, .int (iI c3)), (4, .int (iI i4))] [.int (iI v107)] _
          refine tn_if_eq (tgt := 95) dX3_seeFrom_83 (by decide) ⟨by omega, by omega⟩ (fun h108 => ?_) (fun h108 => ?_)
          · refine tn_aload_n dX3_seeFrom_95 rfl 1 rfl ?_
            refine tn_aload_n dX3_seeFrom_96 rfl 2 rfl ?_
            refine tn_aload_n dX3_seeFrom_97 rfl 2 rfl ?_
            refine tn_iload dX3_seeFrom_98 0 rfl ?_
            refine tn_callV (M := m_X3_seeFrom) (pc := 100) (ix := 52) (ci := 1) (M' := m_X1_targetOf) (As := [.int (iI v16)]) (rest := [.ref rx1, .ref a]) dX3_seeFrom_100 ok_X1_targetOf im_X1_targetOf se_X1_targetOf ml3_52 np_X1_targetOf rfl rfl h_rx1 rfl (Nat.le_of_ble_eq_true rfl) (Nat.le_of_ble_eq_true rfl) rfl (k_X1_targetOf_x (d + 1) (T := T) (σ := (sA 22 a ((σ.2.1 22 a) - 1) σ)) (a := rx1) (k := v16) (x := x) (n := n) (W := W) h_rx1 (by omega) (hw.put (by decide) (by decide) (fo_22 (by omega))) (rc_o (by decide) (rc_F hF (Or.inl (by decide)) (by decide) (hx))) (rc_o (by decide) (rc_F hF (Or.inl (by decide)) (by decide) (hn))) cv92 (by omega)) (fun r109 T111 σ110 gt112 hp => ?_)
            obtain ⟨v115, rfl, rfl, rfl, f113, f114⟩ := hp
            clear gt112
            show Tn _ _ 103 T (sA 22 a ((σ.2.1 22 a) - 1) σ) [(5, .int (iI v16)), (0, .ref a), (1, .ref rx1), (3, .int (iI c3)), (4, .int (iI i4))] [.int (iI v115), .ref rx1, .ref a] _
            obtain ⟨hk118, hl119⟩ : AR T xs 1 201 201 := ar_of (wf_20 hw0 h_a) hxs
            have hk118i : IA T xs := by unfold IA; omega
            have cv120 : (sA 22 a ((σ.2.1 22 a) - 1) σ).2.1 (1000 + xs) = σ.2.1 (1000 + xs) := (rv_fld (by decide)).trans (rfl)
            refine tn_callV (M := m_X3_seeFrom) (pc := 103) (ix := 97) (ci := 3) (M' := m_X3_see) (As := [.ref rx1, .int (iI v115)]) (rest := []) dX3_seeFrom_103 ok_X3_see im_X3_see se_X3_see ml3_97 np_X3_see rfl rfl h_a rfl (Nat.le_of_ble_eq_true rfl) (Nat.le_of_ble_eq_true rfl) rfl (k_X3_see_x (d) (T := T) (σ := (sA 22 a ((σ.2.1 22 a) - 1) σ)) (a := a) (p1 := rx1) (p2 := v115) (x := x) (n := n) (W := W) (xs := xs) (Sv := σ.2.1 (1000 + xs)) (xt := xt) (Qv := σ.2.1 (1000 + xt)) (wq := (σ.2.1 22 a) - 1) h_a h_rx1 (by omega) (hw.put (by decide) (by decide) (fo_22 (by omega))) (rc_o (by decide) (rc_F hF (Or.inl (by decide)) (by decide) (hx))) (rc_o (by decide) (rc_F hF (Or.inl (by decide)) (by decide) (hn))) cv92 (rc_o (by decide) (rc_F hF (Or.inl (by decide)) (by decide) (hxs))) cv120 (rc_o (by decide) (rc_F hF (Or.inl (by decide)) (by decide) (hxt))) cv8 (ra_eq) (by omega) (by omega) (by omega)) (fun r121 T123 σ122 gt124 hp => ?_)
            obtain ⟨rfl, rfl, w129, F130, f125, f126, f127⟩ := hp
            clear gt124
            show Tn _ _ 106 T σ122 [(5, .int (iI v16)), (0, .ref a), (1, .ref rx1), (3, .int (iI c3)), (4, .int (iI i4))] [] _
            refine tn_iinc (q0 := 4) (L' := [(4, .int (iI (i4 + 1))), (5, .int (iI v16)), (0, .ref a), (1, .ref rx1), (3, .int (iI c3))]) dX3_seeFrom_106 rfl (by decide) rfl ?_
            refine tn_goto (tgt := 22) dX3_seeFrom_109 (by decide) ?_
            exact tn_sub [2, 3, 4, 0] rfl (ih _ (by omega) (i4 + 1) σ122 w129 (((FrC.rfl.trans (FrC.sub hF (by decide))).put (by decide) (by decide)).trans (FrC.sub F130 (by decide))) (by omega) ((hC.fld (by simp) (by decide)).trans (CHX.sub f125 (by simp) (by simp) (by simp))) (SEH.turn hLk hU pp17.1 hH.2 pp17.2.1 pp17.2.2 (hB.no2 pp17.2.1 f98 (by omega)) f106 (by omega) f114 f126) rfl)
          · refine tn_aload_n dX3_seeFrom_86 rfl 1 rfl ?_
            refine tn_aload_n dX3_seeFrom_87 rfl 2 rfl ?_
            refine tn_iload dX3_seeFrom_88 0 rfl ?_
            refine tn_iconst dX3_seeFrom_90 ?_
            refine tn_iadd dX3_seeFrom_91 ?_
            obtain ⟨hk133, hl134⟩ : AR T xs 1 201 201 := ar_of (wf_20 hw0 h_a) hxs
            have hk133i : IA T xs := by unfold IA; omega
            have cv135 : (sA 22 a ((σ.2.1 22 a) - 1) σ).2.1 (1000 + xs) = σ.2.1 (1000 + xs) := (rv_fld (by decide)).trans (rfl)
            refine tn_callV (M := m_X3_seeFrom) (pc := 92) (ix := 97) (ci := 3) (M' := m_X3_see) (As := [.ref rx1, .int (iI (v16 + 1))]) (rest := []) dX3_seeFrom_92 ok_X3_see im_X3_see se_X3_see ml3_97 np_X3_see rfl rfl h_a rfl (Nat.le_of_ble_eq_true rfl) (Nat.le_of_ble_eq_true rfl) rfl (k_X3_see_x (d) (T := T) (σ := (sA 22 a ((σ.2.1 22 a) - 1) σ)) (a := a) (p1 := rx1) (p2 := v16 + 1) (x := x) (n := n) (W := W) (xs := xs) (Sv := σ.2.1 (1000 + xs)) (xt := xt) (Qv := σ.2.1 (1000 + xt)) (wq := (σ.2.1 22 a) - 1) h_a h_rx1 (by omega) (hw.put (by decide) (by decide) (fo_22 (by omega))) (rc_o (by decide) (rc_F hF (Or.inl (by decide)) (by decide) (hx))) (rc_o (by decide) (rc_F hF (Or.inl (by decide)) (by decide) (hn))) cv92 (rc_o (by decide) (rc_F hF (Or.inl (by decide)) (by decide) (hxs))) cv135 (rc_o (by decide) (rc_F hF (Or.inl (by decide)) (by decide) (hxt))) cv8 (ra_eq) (by omega) (by omega) (by omega)) (fun r136 T138 σ137 gt139 hp => ?_)
            obtain ⟨rfl, rfl, w144, F145, f140, f141, f142⟩ := hp
            clear gt139
            show Tn _ _ 95 T σ137 [(5, .int (iI v16)), (0, .ref a), (1, .ref rx1), (3, .int (iI c3)), (4, .int (iI i4))] [] _
            refine tn_aload_n dX3_seeFrom_95 rfl 1 rfl ?_
            refine tn_aload_n dX3_seeFrom_96 rfl 2 rfl ?_
            refine tn_aload_n dX3_seeFrom_97 rfl 2 rfl ?_
            refine tn_iload dX3_seeFrom_98 0 rfl ?_
            have cv146 : cW σ137 x n = W := (cW_row (CHX.r f140 (by first | (simp; done) | (simp only [List.mem_cons, List.not_mem_nil, or_false, not_or]; omega)))).trans (cv92)
            refine tn_callV (M := m_X3_seeFrom) (pc := 100) (ix := 52) (ci := 1) (M' := m_X1_targetOf) (As := [.int (iI v16)]) (rest := [.ref rx1, .ref a]) dX3_seeFrom_100 ok_X1_targetOf im_X1_targetOf se_X1_targetOf ml3_52 np_X1_targetOf rfl rfl h_rx1 rfl (Nat.le_of_ble_eq_true rfl) (Nat.le_of_ble_eq_true rfl) rfl (k_X1_targetOf_x (d + 1) (T := T) (σ := σ137) (a := rx1) (k := v16) (x := x) (n := n) (W := W) h_rx1 (by omega) w144 (rc_F F145 (Or.inl (by decide)) (by decide) (rc_o (by decide) (rc_F hF (Or.inl (by decide)) (by decide) (hx)))) (rc_F F145 (Or.inl (by decide)) (by decide) (rc_o (by decide) (rc_F hF (Or.inl (by decide)) (by decide) (hn)))) cv146 (by omega)) (fun r147 T149 σ148 gt150 hp => ?_)
            obtain ⟨v153, rfl, rfl, rfl, f151, f152⟩ := hp
            clear gt150
            show Tn _ _ 103 T σ137 [(5, .int (iI v16)), (0, .ref a), (1, .ref rx1), (3, .int (iI c3)), (4, .int (iI i4))] [.int (iI v153), .ref rx1, .ref a] _
            refine tn_callV (M := m_X3_seeFrom) (pc := 103) (ix := 97) (ci := 3) (M' := m_X3_see) (As := [.ref rx1, .int (iI v153)]) (rest := []) dX3_seeFrom_103 ok_X3_see im_X3_see se_X3_see ml3_97 np_X3_see rfl rfl h_a rfl (Nat.le_of_ble_eq_true rfl) (Nat.le_of_ble_eq_true rfl) rfl (k_X3_see_x (d) (T := T) (σ := σ137) (a := a) (p1 := rx1) (p2 := v153) (x := x) (n := n) (W := W) (xs := xs) (Sv := σ137.2.1 (1000 + xs)) (xt := xt) (Qv := σ137.2.1 (1000 + xt)) (wq := σ137.2.1 22 a) h_a h_rx1 (by omega) w144 (rc_F F145 (Or.inl (by decide)) (by decide) (rc_o (by decide) (rc_F hF (Or.inl (by decide)) (by decide) (hx)))) (rc_F F145 (Or.inl (by decide)) (by decide) (rc_o (by decide) (rc_F hF (Or.inl (by decide)) (by decide) (hn)))) cv146 (rc_F F145 (Or.inl (by decide)) (by decide) (rc_o (by decide) (rc_F hF (Or.inl (by decide)) (by decide) (hxs)))) rfl (rc_F F145 (Or.inl (by decide)) (by decide) (rc_o (by decide) (rc_F hF (Or.inl (by decide)) (by decide) (hxt)))) rfl (rfl) (by omega) (by omega) (by omega)) (fun r154 T156 σ155 gt157 hp => ?_)
            obtain ⟨rfl, rfl, w162, F163, f158, f159, f160⟩ := hp
            clear gt157
            show Tn _ _ 106 T σ155 [(5, .int (iI v16)), (0, .ref a), (1, .ref rx1), (3, .int (iI c3)), (4, .int (iI i4))] [] _
            refine tn_iinc (q0 := 4) (L' := [(4, .int (iI (i4 + 1))), (5, .int (iI v16)), (0, .ref a), (1, .ref rx1), (3, .int (iI c3))]) dX3_seeFrom_106 rfl (by decide) rfl ?_
            refine tn_goto (tgt := 22) dX3_seeFrom_109 (by decide) ?_
            exact tn_sub [2, 3, 4, 0] rfl (ih _ (by omega) (i4 + 1) σ155 w162 ((((FrC.rfl.trans (FrC.sub hF (by decide))).put (by decide) (by decide)).trans (FrC.sub F145 (by decide))).trans (FrC.sub F163 (by decide))) (by omega) (((hC.fld (by simp) (by decide)).trans (CHX.sub f140 (by simp) (by simp) (by simp))).trans (CHX.sub f158 (by simp) (by simp) (by simp))) (SEH.fall hLk hU pp17.1 hH.2 pp17.2.1 pp17.2.2 (hB.no2 pp17.2.1 f98 (by omega)) f106 (by omega) f152 f141 f159) rfl)
        · refine tn_goto (tgt := 106) dX3_seeFrom_74 (by decide) ?_
          refine tn_iinc (q0 := 4) (L' := [(4, .int (iI (i4 + 1))), (5, .int (iI v16)), (0, .ref a), (1, .ref rx1), (3, .int (iI c3))]) dX3_seeFrom_106 rfl (by decide) rfl ?_
          refine tn_goto (tgt := 22) dX3_seeFrom_109 (by decide) ?_
          have cv164 : (sA 22 a ((σ.2.1 22 a) - 1) σ).2.1 (1000 + xs) = σ.2.1 (1000 + xs) := (rv_fld (by decide)).trans (rfl)
          exact tn_sub [2, 3, 4, 0] rfl (ih _ (by omega) (i4 + 1) (sA 22 a ((σ.2.1 22 a) - 1) σ) (hw.put (by decide) (by decide) (fo_22 (by omega))) ((FrC.rfl.trans (FrC.sub hF (by decide))).put (by decide) (by decide)) (by omega) (hC.fld (by simp) (by decide)) (by rw [cv164, cv8]; rw [show (sA 22 a ((σ.2.1 22 a) - 1) σ).2.1 22 a = (σ.2.1 22 a) - 1 from ra_eq]; exact SEH.stop pp17.1 hH.2 (hB.yes pp17.2.1 f98 (by omega) (by omega))) rfl)
set_option maxHeartbeats 1000000 in
set_option maxRecDepth 20000 in
theorem k_X3_seeFrom_x (d : Nat) {T : CT} {σ : MS} {a : Nat} {p1 : Nat} {p2 : Int} {p3 : Int} {x : Nat} {n : Int} {W : Int → It} {xs : Nat} {Sv : Int → Int} {xt : Nat} {Qv : Int → Int} {wq : Int} {B : Int → Prop} (ha : OB T a 3) (h_p1 : OB T p1 1) (h_p2 : -2147483648 ≤ p2 ∧ p2 ≤ 2147483647) (h_p3 : -2147483648 ≤ p3 ∧ p3 ≤ 2147483647) (hw : WT T σ) (hx : σ.2.1 5 p1 = (x : Int)) (hn : σ.2.1 6 p1 = n) (hW : cW σ x n = W) (hxs : σ.2.1 20 a = (xs : Int)) (hSv : σ.2.1 (1000 + xs) = Sv) (hxt : σ.2.1 21 a = (xt : Int)) (hQv : σ.2.1 (1000 + xt) = Qv) (hwq : σ.2.1 22 a = wq) (hN : n ≤ 200) (hne : xs ≠ xt ∧ x ≠ xs ∧ x ≠ xt) (hLk : LNK W n) (hU : UNQ (vW W) n) (hB : RBQ W n p3 B) : Tn (d + 4) m_X3_seeFrom 0 T σ [(0, .ref a), (1, .ref p1), (2, .int (iI p2)), (3, .int (iI p3))] [] (fun ro T2 σ2 => ro = none ∧ T = T2 ∧ WT T2 σ2 ∧ FrC T [22] σ σ2 ∧ (CHX [(22, a)] [xs, xt] [] σ σ2) ∧ (∀ k, 0 ≤ k → k < n → ((σ2.2.1 (1000 + xs)) k ≠ 0 ↔ RCG (vW W) n p2 B k))) := by
  have h6 := wf_6 hw h_p1
  refine tn_aload_n dX3_seeFrom_0 rfl 0 rfl ?_
  obtain ⟨hk3, hl4⟩ : AR T xs 1 201 201 := ar_of (wf_20 hw ha) hxs
  have hk3i : IA T xs := by unfold IA; omega
  refine tn_getR (ci := 3) (i := 2) (n := 20) (x := xs) dX3_seeFrom_1 rfl lay_3 (by decide) fl3_18 ha rfl rfl (hxs) ?_
  refine tn_iconst dX3_seeFrom_4 ?_
  refine tn_callS (M := m_X3_seeFrom) (pc := 5) (ix := 88) (M' := m_J7_fill_53178) (As := [.ref xs, .int (iI 0)]) (rest := []) dX3_seeFrom_5 ok_J7_fill_53178 stt_J7_fill_53178 ml3_88 np_J7_fill_53178 rfl (Nat.le_of_ble_eq_true rfl) (Nat.le_of_ble_eq_true rfl) rfl (k_J7_fill_53178_x (d + 2) (T := T) (σ := σ) (x := xs) (y := 0) hk3i (by omega) (by decide) hw (nh_k hk3 (by unfold HT; omega)) (by omega)) (fun r5 T7 σ6 gt8 hp => ?_)
  obtain ⟨rfl, rfl, w12, F13, f9, f10⟩ := hp
  clear gt8
  show Tn _ _ 8 T σ6 [(0, .ref a), (1, .ref p1), (2, .int (iI p2)), (3, .int (iI p3))] [] _
  refine tn_aload_n dX3_seeFrom_8 rfl 0 rfl ?_
  refine tn_iconst dX3_seeFrom_9 ?_
  refine tn_putV (ci := 3) (i := 4) (n := 22) (r := false) (v := 0) tyX3 tyX3_ok nmX3 dX3_seeFrom_10 rfl lay_3 (by decide) fl3_94 rfl (tyX3_ok 4 (by decide)) rfl rfl rfl ha rfl rfl ?_
  refine tn_aload_n dX3_seeFrom_13 rfl 0 rfl ?_
  refine tn_aload_n dX3_seeFrom_14 rfl 1 rfl ?_
  refine tn_iload_n dX3_seeFrom_15 rfl 2 rfl ?_
  obtain ⟨hl17, hk16a, hk16b⟩ := cel_of (wf_5 hw h_p1) hx
  have hk16i : IA T x := by unfold IA; omega
  have hk16c : CELL T p1 x := ⟨hk16a, hk16b⟩
  clear hk16a hk16b
  have cv18 : cW (sA 22 a (0) σ6) x n = W := (cW_fld (by decide)).trans ((cW_row (CHX.r f9 (by first | (simp; done) | (simp only [List.mem_cons, List.not_mem_nil, or_false, not_or]; omega)))).trans (hW))
  have cv19 : (sA 22 a (0) σ6).2.1 (1000 + xs) = σ6.2.1 (1000 + xs) := (rv_fld (by decide)).trans (rfl)
  obtain ⟨hk22, hl23⟩ : AR T xt 1 201 201 := ar_of (wf_21 hw ha) hxt
  have hk22i : IA T xt := by unfold IA; omega
  have cv24 : (sA 22 a (0) σ6).2.1 (1000 + xt) = Qv := (rv_fld (by decide)).trans ((CHX.r f9 (by first | (simp; done) | (simp only [List.mem_cons, List.not_mem_nil, or_false, not_or]; omega))).trans (hQv))
  refine tn_callV (M := m_X3_seeFrom) (pc := 16) (ix := 97) (ci := 3) (M' := m_X3_see) (As := [.ref p1, .int (iI p2)]) (rest := []) dX3_seeFrom_16 ok_X3_see im_X3_see se_X3_see ml3_97 np_X3_see rfl rfl ha rfl (Nat.le_of_ble_eq_true rfl) (Nat.le_of_ble_eq_true rfl) rfl (k_X3_see_x (d) (T := T) (σ := (sA 22 a (0) σ6)) (a := a) (p1 := p1) (p2 := p2) (x := x) (n := n) (W := W) (xs := xs) (Sv := σ6.2.1 (1000 + xs)) (xt := xt) (Qv := Qv) (wq := 0) ha h_p1 (by omega) (w12.put (by decide) (by decide) (fo_22 (by omega))) (rc_o (by decide) (rc_F F13 (Or.inl (by decide)) (by decide) (hx))) (rc_o (by decide) (rc_F F13 (Or.inl (by decide)) (by decide) (hn))) cv18 (rc_o (by decide) (rc_F F13 (Or.inl (by decide)) (by decide) (hxs))) cv19 (rc_o (by decide) (rc_F F13 (Or.inl (by decide)) (by decide) (hxt))) cv24 (ra_eq) (by omega) (by omega) (by omega)) (fun r25 T27 σ26 gt28 hp => ?_)
  obtain ⟨rfl, rfl, w33, F34, f29, f30, f31⟩ := hp
  clear gt28
  show Tn _ _ 19 T σ26 [(0, .ref a), (1, .ref p1), (2, .int (iI p2)), (3, .int (iI p3))] [] _
  refine tn_iconst dX3_seeFrom_19 ?_
  refine tn_istore (L' := [(4, .int (iI 0)), (0, .ref a), (1, .ref p1), (2, .int (iI p2)), (3, .int (iI p3))]) dX3_seeFrom_20 (by decide) rfl ?_
  have cv35 : cW σ26 x n = W := (cW_row (CHX.r f29 (by first | (simp; done) | (simp only [List.mem_cons, List.not_mem_nil, or_false, not_or]; omega)))).trans (cv18)
  refine tn_sub [1, 2, 4, 0] rfl (l_X3_seeFrom_x_22 (d) (T := T) (σ0 := σ26) (a := a) (rx1 := p1) (c3 := p3) (x := x) (n := n) (W := (W)) (xs := xs) (Sv := Sv) (xt := xt) (Qv := Qv) (wq := wq) (B := B) (s0 := p2) ha h_p1 (by omega) w33 hB (by omega) (rc_F F34 (Or.inl (by decide)) (by decide) (rc_o (by decide) (rc_F F13 (Or.inl (by decide)) (by decide) (hx)))) (rc_F F34 (Or.inl (by decide)) (by decide) (rc_o (by decide) (rc_F F13 (Or.inl (by decide)) (by decide) (hn)))) cv35 (rc_F F34 (Or.inl (by decide)) (by decide) (rc_o (by decide) (rc_F F13 (Or.inl (by decide)) (by decide) (hxs)))) (rc_F F34 (Or.inl (by decide)) (by decide) (rc_o (by decide) (rc_F F13 (Or.inl (by decide)) (by decide) (hxt)))) hN hne hLk hU (fun i436 σ37 w40 F41 r42 f43 f44 f45 => ?_) _ (0) σ26 w33 FrC.rfl (by omega) CHX.rfl (SEH.start ⟨by omega, by omega⟩ (fun j a b => f10.z a (by omega)) f30) rfl)
  show Tn _ _ 112 T σ37 [(0, .ref a), (1, .ref p1), (3, .int (iI p3)), (4, .int (iI i436))] [] _
  exact tn_vret rfl dX3_seeFrom_112 ⟨rfl, rfl, w40, ((((FrC.rfl.trans (FrC.sub F13 (by decide))).put (by decide) (by decide)).trans (FrC.sub F34 (by decide))).trans (FrC.sub F41 (by decide))), ((((CHX.rfl.trans (CHX.sub f9 (by simp) (by simp) (by simp))).fld (by simp) (by decide)).trans (CHX.sub f29 (by simp) (by simp) (by simp))).trans (CHX.sub f43 (by simp) (by simp) (by simp))), f45⟩
end
section
def gbw (L : Int → Int64) (b t k j : Int) : Int64 := (if b = 1 then L (3 * (k + 1) + j) else 0) ||| (if 0 ≤ t then L (3 * t + j) else 0)
def GBW (L M : Int → Int64) (b t k i : Int) : Prop := ∀ j, 0 ≤ j → j < i → M j = gbw L b t k j
def GBQ (W : Int → It) (n : Int) (L M : Int → Int64) (k : Int) : Prop := ∃ b t, FLQ W n k b ∧ TGQ W n k t ∧ ∀ g, bT M 0 g ↔ (b = 1 ∧ bT L (k + 1) g) ∨ (0 ≤ t ∧ bT L t g)
section GBS
variable {L M M2 : Int → Int64} {b t k i : Int} {w : Int64}
theorem GBW.nil : GBW L M b t k 0 := fun j a b => by omega
theorem GBW.step (h : GBW L M b t k i) (e : M2 = fun q => if q = i then w else M q) (hw : w = gbw L b t k i) : GBW L M2 b t k (i + 1) := fun j x y => by
  rw [e]
  by_cases z : j = i
  · show (if j = i then w else M j) = _
    rw [if_pos z, hw, z]
  · show (if j = i then w else M j) = _
    rw [if_neg z]; exact h j x (by omega)
theorem or_0 (x : Int64) : x ||| 0 = x := by
  apply Int64.toBitVec_inj.mp
  show x.toBitVec ||| 0#64 = _
  simp
theorem bit_or (x y : Int64) (j : Nat) : (x ||| y).toBitVec.getLsbD j = (x.toBitVec.getLsbD j || y.toBitVec.getLsbD j) := by
  show (x.toBitVec ||| y.toBitVec).getLsbD j = _
  rw [BitVec.getLsbD_or]
theorem gb_bits (h : GBW L M b t k 3) (g : Int) : bT M 0 g ↔ (b = 1 ∧ bT L (k + 1) g) ∨ (0 ≤ t ∧ bT L t g) := by
  unfold bT
  by_cases hr : 0 ≤ g ∧ g < 192
  · have e := h (g / 64) (by omega) (by omega)
    rw [show 3 * 0 + g / 64 = g / 64 by omega, e]
    unfold gbw
    rw [bit_or, Bool.or_eq_true_iff]
    have z0 : (0 : Int64).toBitVec.getLsbD (g % 64).toNat = false := by show (0#64).getLsbD _ = false; simp
    constructor
    · rintro ⟨-, q | q⟩
      · by_cases c : b = 1
        · rw [if_pos c] at q; exact Or.inl ⟨c, hr, q⟩
        · rw [if_neg c, z0] at q; exact absurd q (by decide)
      · by_cases c : 0 ≤ t
        · rw [if_pos c] at q; exact Or.inr ⟨c, hr, q⟩
        · rw [if_neg c, z0] at q; exact absurd q (by decide)
    · rintro (⟨c, -, q⟩ | ⟨c, -, q⟩)
      · exact ⟨hr, Or.inl (by rw [if_pos c]; exact q)⟩
      · exact ⟨hr, Or.inr (by rw [if_pos c]; exact q)⟩
  · exact ⟨fun q => absurd q.1 hr, fun q => q.elim (fun y => absurd y.2.1 hr) (fun y => absurd y.2.1 hr)⟩
end GBS
theorem ltv_in {T : CT} {σ : MS} {x : Nat} {i j : Int} {w : Int64} {L : Int → Int64} (h : w = LTV T σ x i) (hL : σ.2.2 x = L) (hi : i = j) (h0 : 0 ≤ i ∧ i < ((T x).2 : Int)) : w = L j := by
  unfold LTV at h
  rw [if_pos h0, hL, hi] at h
  exact h
theorem ptl_row {σ τ : MS} {x : Nat} {N z : Int} {w : Int64} (f : τ = (if 0 ≤ z ∧ z < N then sJ x z w σ else σ)) (h : 0 ≤ z ∧ z < N) : τ.2.2 x = fun q => if q = z then w else σ.2.2 x q := by
  rw [f, if_pos h, sJ_row]
def RDP (W : Int → It) (k : Int) (M0 M : Int → Int64) (c : Int) : Prop := ∃ m, c = 3 + 2 * m ∧ (0 ≤ m ∧ m ≤ 4) ∧ ∀ g, bT M 0 g ↔ bT M0 0 g ∨ ∃ j, 0 ≤ j ∧ j < m ∧ W k (3 + 2 * j) = 2 ∧ W k (4 + 2 * j) = g
section RDS
variable {W : Int → It} {k c n : Int} {M0 M M2 : Int → Int64}
theorem RDP.nil : RDP W k M M 3 := ⟨0, by decide, by decide, fun g => ⟨Or.inl, fun q => q.elim id (fun ⟨j, a, b, _⟩ => by omega)⟩⟩
theorem RDP.num (h : RDP W k M0 M c) : c = 3 ∨ c = 5 ∨ c = 7 ∨ c = 9 ∨ c = 11 := by
  obtain ⟨m, a, b, -⟩ := h
  omega
theorem RDP.no (h : RDP W k M0 M c) (hc : c < 11) (q : W k c ≠ 2) : RDP W k M0 M (c + 2) := by
  obtain ⟨m, a, b, e⟩ := h
  refine ⟨m + 1, by omega, by omega, fun g => (e g).trans ⟨fun y => y.imp id (fun ⟨j, x, z, w⟩ => ⟨j, x, by omega, w⟩), fun y => y.imp id (fun ⟨j, x, z, w⟩ => ⟨j, x, ?_, w⟩)⟩⟩
  by_cases u : j = m
  · rw [u, ← a] at w; exact absurd w.1 q
  · omega
theorem RDP.yes {v r : Int} (h : RDP W k M0 M c) (hc : c < 11) (hv : v = W k c) (q : v = 2) (hr : r = W k (c + 1)) (r0 : 0 ≤ r ∧ r < 192) (e2 : BTI M M2 0 r) : RDP W k M0 M2 (c + 2) := by
  obtain ⟨m, a, b, e⟩ := h
  refine ⟨m + 1, by omega, by omega, fun g => ?_⟩
  rw [e2 0 g, e g]
  have w3 : W k (3 + 2 * m) = 2 := by rw [← a, ← hv]; exact q
  have w4 : W k (4 + 2 * m) = r := by rw [show 4 + 2 * m = c + 1 by omega]; exact hr.symm
  constructor
  · rintro ((y | ⟨j, x, z, w⟩) | ⟨-, y, -⟩)
    · exact Or.inl y
    · exact Or.inr ⟨j, x, by omega, w⟩
    · exact Or.inr ⟨m, b.1, by omega, w3, by rw [y]; exact w4⟩
  · rintro (y | ⟨j, x, z, w⟩)
    · exact Or.inl (Or.inl y)
    · by_cases u : j = m
      · rw [u, w4] at w; exact Or.inr ⟨rfl, w.2.symm, r0⟩
      · exact Or.inl (Or.inr ⟨j, x, by omega, w⟩)
theorem RDP.fin (h : RDP W k M0 M c) (hc : 11 ≤ c) (g : Int) : bT M 0 g ↔ bT M0 0 g ∨ rdI (W k) g := by
  obtain ⟨m, a, b, e⟩ := h
  have : m = 4 := by omega
  subst this
  exact e g
end RDS
def SWP (L L2 M : Int → Int64) (k i u : Int) : Prop := (∀ z, L2 z = if 3 * k ≤ z ∧ z < 3 * k + i then M (z - 3 * k) else L z) ∧ ((u = 0 ∧ ∀ j, 0 ≤ j → j < i → L (3 * k + j) = M j) ∨ (u = 1 ∧ ∃ j, 0 ≤ j ∧ j < i ∧ L (3 * k + j) ≠ M j))
section SWS
variable {L L2 L3 M : Int → Int64} {k i u : Int} {w : Int64}
theorem SWP.nil : SWP L L M k 0 0 := ⟨fun z => by rw [if_neg (by omega)], Or.inl ⟨rfl, fun j a b => by omega⟩⟩
theorem SWP.same (h : SWP L L2 M k i u) (h0 : 0 ≤ i) (e : M i = L2 (3 * k + i)) : SWP L L2 M k (i + 1) u := by
  obtain ⟨h1, h2⟩ := h
  have z := h1 (3 * k + i)
  rw [if_neg (by omega)] at z
  refine ⟨fun y => ?_, ?_⟩
  · rw [h1 y]
    by_cases a : 3 * k ≤ y ∧ y < 3 * k + i
    · rw [if_pos a, if_pos (by omega)]
    · rw [if_neg a]
      by_cases c : y = 3 * k + i
      · rw [if_pos (by omega), c, show 3 * k + i - 3 * k = i by omega, e, z]
      · rw [if_neg (by omega)]
  · rcases h2 with ⟨a, b⟩ | ⟨a, j, x, y, z2⟩
    · refine Or.inl ⟨a, fun j x y => ?_⟩
      by_cases c : j = i
      · rw [c, ← z, e]
      · exact b j x (by omega)
    · exact Or.inr ⟨a, j, x, by omega, z2⟩
theorem SWP.diff (h : SWP L L2 M k i u) (h0 : 0 ≤ i) (e : M i ≠ L2 (3 * k + i)) (e3 : L3 = fun q => if q = 3 * k + i then M i else L2 q) : SWP L L3 M k (i + 1) 1 := by
  obtain ⟨h1, h2⟩ := h
  have z := h1 (3 * k + i)
  rw [if_neg (by omega)] at z
  refine ⟨fun y => ?_, Or.inr ⟨rfl, i, h0, by omega, fun q => e (by rw [z]; exact q.symm)⟩⟩
  rw [e3]
  show (if y = 3 * k + i then M i else L2 y) = _
  by_cases c : y = 3 * k + i
  · rw [if_pos c, if_pos (by omega), c, show 3 * k + i - 3 * k = i by omega]
  · rw [if_neg c, h1 y]
    by_cases a : 3 * k ≤ y ∧ y < 3 * k + i
    · rw [if_pos a, if_pos (by omega)]
    · rw [if_neg a, if_neg (by omega)]
theorem SWP.fin (h : SWP L L2 M k 3 u) : (∀ g, bT L2 k g ↔ bT M 0 g) ∧ (∀ k2 g, k2 ≠ k → (bT L2 k2 g ↔ bT L k2 g)) ∧ (u = 0 ∨ u = 1) ∧ (u = 0 ↔ ∀ g, bT L2 k g ↔ bT L k g) := by
  obtain ⟨h1, h2⟩ := h
  have m0 : ∀ g, bT L2 k g ↔ bT M 0 g := fun g => bT_w (by rw [h1, if_pos (by omega)]; congr 1; omega) (by rw [h1, if_pos (by omega)]; congr 1; omega) (by rw [h1, if_pos (by omega)]; congr 1; omega)
  refine ⟨m0, fun k2 g q => bT_w (by rw [h1, if_neg (by omega)]) (by rw [h1, if_neg (by omega)]) (by rw [h1, if_neg (by omega)]), ?_, ?_⟩
  · rcases h2 with q | q
    · exact Or.inl q.1
    · exact Or.inr q.1
  · rcases h2 with ⟨a, b⟩ | ⟨a, j, x, y, z⟩
    · refine ⟨fun _ g => ?_, fun _ => a⟩
      rw [m0 g]
      exact (bT_w (by rw [b 0 (by decide) (by decide)]; rfl) (by rw [b 1 (by decide) (by decide)]; rfl) (by rw [b 2 (by decide) (by decide)]; rfl)).symm
    · refine ⟨fun q => by omega, fun q => ?_⟩
      exfalso
      have e := bT_ext (L := M) (L2 := L) (k2 := k) (k := 0) j.toNat (by omega) (fun r => (q r).symm.trans (m0 r))
      rw [show ((j.toNat : Nat) : Int) = j by omega, show 3 * (0 : Int) + j = j by omega] at e
      exact z e
end SWS
def MOK (W : Int → It) (n : Int) : Prop := ∀ k, 0 ≤ k → k < n → (W k 0 = 11 ∨ 13 ≤ W k 0) → W k 3 ≠ 2 ∧ W k 5 ≠ 2
def TRF (V : Int → It) (n : Int) (X : Int → Int → Prop) (k g : Int) : Prop := (V k 0 ≠ 12 ∧ rdI (V k) g) ∨ (¬ wrT (V k) g ∧ ∃ t, EDv V n k t ∧ X t g)
def SAQ (V : Int → It) (n : Int) (L L2 : Int → Int64) (k u : Int) : Prop := (∀ g, bT L2 k g ↔ TRF V n (bT L) k g) ∧ (∀ k2 g, k2 ≠ k → (bT L2 k2 g ↔ bT L k2 g)) ∧ (u = 0 ∨ u = 1) ∧ (u = 0 ↔ ∀ g, bT L2 k g ↔ bT L k g)
theorem saq_mk {W : Int → It} {n k u r : Int} {L L2 M M1 M2 : Int → Int64} (hw : WOK W n) (hm : MOK W n) (hL : LNK W n) (hU : UNQ (vW W) n) (h0 : 0 ≤ k ∧ k < n) (g : GBQ W n L M k) (wb : WBQ W n k r) (e : BTE M M1 0 r) (rd : (W k 0 ≤ 10 ∧ ∀ g, bT M2 0 g ↔ bT M1 0 g ∨ rdI (W k) g) ∨ (10 < W k 0 ∧ M2 = M1)) (s : SWP L L2 M2 k 3 u) : SAQ (vW W) n L L2 k u := by
  obtain ⟨b, t, f, tg, q⟩ := g
  obtain ⟨s1, s2, s3, s4⟩ := s.fin
  refine ⟨fun x => ?_, s2, s3, s4⟩
  rw [s1 x]
  have wk := hw k h0.1 h0.2
  have m1 : bT M1 0 x ↔ ¬ wrT (vW W k) x ∧ ∃ t, EDv (vW W) n k t ∧ bT L t x := by
    rw [e 0 x, q x, wrT_v]
    constructor
    · rintro ⟨y, z⟩
      refine ⟨fun w => z ⟨rfl, ((wb_wr wk h0 wb).mpr w).1⟩, ?_⟩
      rcases y with ⟨b1, y⟩ | ⟨t1, y⟩
      · exact ⟨k + 1, (ed_c hL hU h0 f tg).mpr (Or.inl ⟨b1, rfl⟩), y⟩
      · exact ⟨t, (ed_c hL hU h0 f tg).mpr (Or.inr ⟨t1, rfl⟩), y⟩
    · rintro ⟨y, t', z, w⟩
      refine ⟨?_, fun c => y ((wb_wr wk h0 wb).mp ⟨c.2, ?_⟩)⟩
      · rcases (ed_c hL hU h0 f tg).mp z with ⟨b1, z⟩ | ⟨t1, z⟩
        · rw [z] at w; exact Or.inl ⟨b1, w⟩
        · rw [z] at w; exact Or.inr ⟨t1, w⟩
      · rw [← c.2]; exact w.1
  have r1 : (vW W k 0 ≠ 12 ∧ rdI (vW W k) x) ↔ (W k 0 ≤ 10 ∧ rdI (W k) x) := by
    rw [vW_0]
    constructor
    · rintro ⟨y, z⟩
      rw [rdI_v y] at z
      refine ⟨?_, z⟩
      by_cases c : W k 0 ≤ 10
      · exact c
      · exfalso
        have m := hm k h0.1 h0.2 (by have := wk.1; omega)
        have m7 := wk.2.2.2.1 (by omega)
        rcases rdI_iff.mp z with y | y | y | y
        · exact m.1 y.1
        · exact m.2 y.1
        · exact m7.1 y.1
        · exact m7.2 y.1
    · rintro ⟨y, z⟩
      exact ⟨by omega, (rdI_v (by omega)).mpr z⟩
  unfold TRF
  rw [r1, ← m1]
  rcases rd with ⟨a, c⟩ | ⟨a, c⟩
  · rw [c x]
    exact ⟨fun y => y.elim Or.inr (fun y => Or.inl ⟨a, y⟩), fun y => y.elim (fun y => Or.inr y.2) Or.inl⟩
  · rw [c]
    exact ⟨Or.inr, fun y => y.elim (fun y => by omega) id⟩
def bR (n : Int) (L : Int → Int64) : Int → Int → Prop := fun j g => (0 ≤ j ∧ j ≤ n) ∧ bT L j g
noncomputable def cBt (n : Int) (L : Int → Int64) : Int := cN (fun j => bR n L (j / 192) (j % 192)) 0 38592
def SAR (V : Int → It) (n : Int) (L L2 : Int → Int64) (k u : Int) : Prop := (∀ g, bR n L2 k g ↔ TRF V n (bR n L) k g) ∧ (∀ k2 g, k2 ≠ k → (bR n L2 k2 g ↔ bR n L k2 g)) ∧ (u = 0 ∨ u = 1) ∧ (u = 0 ↔ ∀ g, bR n L2 k g ↔ bR n L k g)
theorem SAQ.r {V : Int → It} {n k u : Int} {L L2 : Int → Int64} (h : SAQ V n L L2 k u) (h0 : 0 ≤ k ∧ k < n) : SAR V n L L2 k u := by
  obtain ⟨a, b, c, d⟩ := h
  have kk : 0 ≤ k ∧ k ≤ n := by omega
  have e : ∀ t, EDv V n k t → 0 ≤ t ∧ t ≤ n := fun t q => by
    rcases q with ⟨-, q⟩ | ⟨-, q⟩
    · omega
    · have := q.1; have := q.2.1; omega
  have tr : ∀ g, TRF V n (bT L) k g ↔ TRF V n (bR n L) k g := fun g => by
    unfold TRF
    exact ⟨fun q => q.imp id (fun ⟨x, t, y, z⟩ => ⟨x, t, y, e t y, z⟩), fun q => q.imp id (fun ⟨x, t, y, z⟩ => ⟨x, t, y, z.2⟩)⟩
  refine ⟨fun g => ⟨fun q => (tr g).mp ((a g).mp q.2), fun q => ⟨kk, (a g).mpr ((tr g).mpr q)⟩⟩, fun k2 g q => ⟨fun y => ⟨y.1, (b k2 g q).mp y.2⟩, fun y => ⟨y.1, (b k2 g q).mpr y.2⟩⟩, c, d.trans ⟨fun q g => ⟨fun y => ⟨y.1, (q g).mp y.2⟩, fun y => ⟨y.1, (q g).mpr y.2⟩⟩, fun q g => ⟨fun y => ((q g).mp ⟨kk, y⟩).2, fun y => ((q g).mpr ⟨kk, y⟩).2⟩⟩⟩
def FLI (V : Int → It) (n : Int) (L0 L : Int → Int64) (k u : Int) : Prop := (∀ j g, bR n L j g → LVV V n j g) ∧ (∀ j g, bR n L j g → TRF V n (bR n L) j g) ∧ (∀ j g, bR n L0 j g → bR n L j g) ∧ ((u = 0 ∧ (∀ j g, bR n L j g ↔ bR n L0 j g) ∧ ∀ j, k < j → j < n → ∀ g, TRF V n (bR n L) j g → bR n L j g) ∨ (u = 1 ∧ cBt n L0 + 1 ≤ cBt n L))
section FLS2
variable {V : Int → It} {n k u v w : Int} {L0 L L2 : Int → Int64}
theorem TRF.mono {X Y : Int → Int → Prop} {g : Int} (h : ∀ j g, X j g → Y j g) (q : TRF V n X k g) : TRF V n Y k g := q.imp id (fun ⟨a, t, b, c⟩ => ⟨a, t, b, h t g c⟩)
theorem TRF.lv {X : Int → Int → Prop} {g : Int} (h0 : 0 ≤ k ∧ k < n) (h : ∀ j g, X j g → LVV V n j g) (q : TRF V n X k g) : LVV V n k g := by
  rcases q with ⟨a, b⟩ | ⟨a, t, b, c⟩
  · exact LVV.rd h0.1 h0.2 a b
  · exact LVV.on h0.1 h0.2 a b (h t g c)
theorem cN_mono {P P2 : Int → Prop} {a : Int} {n : Nat} (h : ∀ j, P j → P2 j) : cN P a n ≤ cN P2 a n := by
  induction n with
  | zero => exact Int.le_refl _
  | succ n ih =>
    show cN P a n + dI (P (a + n)) 1 0 ≤ cN P2 a n + dI (P2 (a + n)) 1 0
    by_cases z : P (a + n)
    · rw [dI_y z, dI_y (h _ z)]; omega
    · rw [dI_n z]
      by_cases y : P2 (a + n)
      · rw [dI_y y]; omega
      · rw [dI_n y]; omega
theorem cN_lt {P P2 : Int → Prop} {a k : Int} {n : Nat} (h : ∀ j, P j → P2 j) (hk : a ≤ k ∧ k < a + n) (h1 : P2 k) (h2 : ¬ P k) : cN P a n + 1 ≤ cN P2 a n := by
  have q := cN_u (P := P2) (P2 := fun j => P2 j ∧ j ≠ k) hk h1 (fun z => z.2 rfl) (fun j _ _ z => ⟨fun y => ⟨y, z⟩, fun y => y.1⟩)
  have m := cN_mono (P := P) (P2 := fun j => P2 j ∧ j ≠ k) (a := a) (n := n) (fun j y => ⟨h j y, fun e => h2 (by rw [← e]; exact y)⟩)
  omega
theorem cBt_lt {j g : Int} (h : ∀ j g, bR n L j g → bR n L2 j g) (hj : 0 ≤ j ∧ j ≤ 200) (h1 : bR n L2 j g) (h2 : ¬ bR n L j g) : cBt n L + 1 ≤ cBt n L2 := by
  have r := h1.2.1
  have e1 : (192 * j + g) / 192 = j := by omega
  have e2 : (192 * j + g) % 192 = g := by omega
  exact cN_lt (n := 38592) (a := 0) (k := 192 * j + g) (fun z y => h _ _ y) (by omega) (by show bR n L2 ((192 * j + g) / 192) ((192 * j + g) % 192); rw [e1, e2]; exact h1) (by show ¬ bR n L ((192 * j + g) / 192) ((192 * j + g) % 192); rw [e1, e2]; exact h2)
theorem cBt_le : 0 ≤ cBt n L ∧ cBt n L ≤ 38592 := ⟨(cN_0).1, cN_le⟩
theorem cBt_c (h : ∀ j g, bR n L j g ↔ bR n L2 j g) : cBt n L = cBt n L2 := cN_c (fun j _ _ => h _ _)
theorem FLI.nil (h : FLI V n L0 L k u) : FLI V n L L (n - 1) 0 := ⟨h.1, h.2.1, fun _ _ z => z, Or.inl ⟨rfl, fun _ _ => Iff.rfl, fun j a b => by omega⟩⟩
theorem FLI.start (h : ∀ j g, ¬ bR n L j g) : FLI V n L L (n - 1) 0 := ⟨fun j g z => absurd z (h j g), fun j g z => absurd z (h j g), fun _ _ z => z, Or.inl ⟨rfl, fun _ _ => Iff.rfl, fun j a b => by omega⟩⟩
theorem FLI.step (h : FLI V n L0 L k u) (h0 : 0 ≤ k ∧ k < n) (hn : n ≤ 200) (s : SAR V n L L2 k v) (hu : w = 0 ↔ u = 0 ∧ v = 0) (hw : w = 0 ∨ w = 1) : FLI V n L0 L2 (k - 1) w := by
  obtain ⟨h1, h2, h3, h4⟩ := h
  obtain ⟨s1, s2, s3, s4⟩ := s
  have up : ∀ j g, bR n L j g → bR n L2 j g := fun j g z => by
    by_cases e : j = k
    · rw [e] at z ⊢; exact (s1 g).mpr (h2 k g z)
    · exact (s2 j g e).mpr z
  have lv : ∀ j g, bR n L2 j g → LVV V n j g := fun j g z => by
    by_cases e : j = k
    · rw [e] at z ⊢; exact TRF.lv h0 h1 ((s1 g).mp z)
    · exact h1 j g ((s2 j g e).mp z)
  refine ⟨lv, fun j g z => ?_, fun j g z => up j g (h3 j g z), ?_⟩
  · by_cases e : j = k
    · rw [e] at z ⊢; exact TRF.mono up ((s1 g).mp z)
    · exact TRF.mono up (h2 j g ((s2 j g e).mp z))
  · by_cases vz : v = 0
    · have eq : ∀ j g, bR n L2 j g ↔ bR n L j g := fun j g => by
        by_cases e : j = k
        · rw [e]; exact s4.mp vz g
        · exact s2 j g e
      rcases h4 with ⟨a, b, c⟩ | ⟨a, b⟩
      · refine Or.inl ⟨hu.mpr ⟨a, vz⟩, fun j g => (eq j g).trans (b j g), fun j x y g z => ?_⟩
        have z2 := TRF.mono (fun j g q => (eq j g).mp q) z
        by_cases e : j = k
        · rw [e] at z2 ⊢; exact (s1 g).mpr z2
        · exact up j g (c j (by omega) y g z2)
      · refine Or.inr ⟨?_, by rw [cBt_c eq]; exact b⟩
        rcases hw with q | q
        · have := (hu.mp q).1; omega
        · exact q
    · have w1 : w = 1 := by
        rcases hw with q | q
        · exact absurd (hu.mp q).2 vz
        · exact q
      refine Or.inr ⟨w1, ?_⟩
      have ex : ∃ g, bR n L2 k g ∧ ¬ bR n L k g := Classical.byContradiction (fun no => vz (s4.mpr (fun g => ⟨fun z => Classical.byContradiction (fun y => no ⟨g, z, y⟩), up k g⟩)))
      obtain ⟨g, g1, g2⟩ := ex
      have q := cBt_lt up (by omega) g1 g2
      rcases h4 with ⟨a, b, c⟩ | ⟨a, b⟩
      · rw [cBt_c (fun j g => (b j g))] at q; exact q
      · omega
def FLR2 (V : Int → It) (n : Int) (L : Int → Int64) (r u : Int) : Prop := (∀ j g, bR n L j g → LVV V n j g) ∧ (∀ j g, bR n L j g → TRF V n (bR n L) j g) ∧ ((u = 1 ∧ 0 ≤ r ∧ r ≤ cBt n L) ∨ (u = 0 ∧ ∀ j, 0 ≤ j → j < n → ∀ g, TRF V n (bR n L) j g → bR n L j g))
def LIVE (V : Int → It) (n : Int) (L : Int → Int64) : Prop := ∀ j g, bR n L j g ↔ LVV V n j g
theorem FLR2.start (h : ∀ j g, ¬ bR n L j g) : FLR2 V n L 0 1 := ⟨fun j g z => absurd z (h j g), fun j g z => absurd z (h j g), Or.inl ⟨rfl, by decide, cBt_le.1⟩⟩
theorem FLR2.go (h : FLR2 V n L k u) : FLI V n L L (n - 1) 0 := ⟨h.1, h.2.1, fun _ _ z => z, Or.inl ⟨rfl, fun _ _ => Iff.rfl, fun j a b => by omega⟩⟩
theorem FLR2.next {r : Int} (h : FLR2 V n L r 1) (g : FLI V n L L2 k u) (hk : k < 0) : FLR2 V n L2 (r + 1) u := by
  refine ⟨g.1, g.2.1, ?_⟩
  rcases g.2.2.2 with ⟨a, b, c⟩ | ⟨a, b⟩
  · exact Or.inr ⟨a, fun j x y => c j (by omega) y⟩
  · rcases h.2.2 with ⟨-, x, y⟩ | ⟨x, -⟩
    · exact Or.inl ⟨a, by omega, by omega⟩
    · omega
theorem FLR2.fin {r : Int} (h : FLR2 V n L r u) (he : u = 0 ∨ 1000000 ≤ r) : LIVE V n L := fun j g => by
  obtain ⟨h1, h2, h3⟩ := h
  refine ⟨h1 j g, fun q => ?_⟩
  rcases h3 with ⟨a, b, c⟩ | ⟨a, b⟩
  · have := (cBt_le (n := n) (L := L)).2; omega
  · exact q (fun i g => bR n L i g) (fun i g x y z => b i x y g z)
end FLS2
theorem LIVE.at {V : Int → It} {n j g : Int} {L : Int → Int64} (h : LIVE V n L) (hj : 0 ≤ j ∧ j ≤ n) : bT L j g ↔ LVV V n j g := by
  rw [← h j g]
  exact ⟨fun q => ⟨hj, q⟩, fun q => q.2⟩
theorem clr_no {σ τ : MS} {x : Nat} {m n : Int} (h : FLL σ τ x 0 m 0) (hm : 3 * n + 3 ≤ m) : ∀ j g, ¬ bR n (τ.2.2 x) j g := fun j g q => bT_z (fun i a b => h.z (by have := q.1; omega) (by have := q.1; omega)) q.2
end
section
set_option maxHeartbeats 1000000 in
set_option maxRecDepth 20000 in
theorem l_X3_gatherBehind_x_16 (d : Nat) {T : CT} {σ0 : MS} {a : Nat} {c2 : Int} {c3 : Int} {c4 : Int} {x : Nat} {n : Int} {W : Int → It} {xa : Nat} {La : Int → Int64} {xo : Nat} {post : Option Value → CT → MS → Prop} (h_a : OB T a 3) (r_c2 : 0 ≤ c2 ∧ c2 ≤ 200) (r_c3 : 0 ≤ c3 ∧ c3 ≤ 1) (r_c4 : -1 ≤ c4 ∧ c4 ≤ 200) (hw0 : WT T σ0) (hk : 0 ≤ c2 ∧ c2 < n) (h4 : c4 < n ∧ -1 ≤ c4) (h3 : c3 = 0 ∨ c3 = 1) (hW : cW σ0 x n = W) (hxa : σ0.2.1 18 a = (xa : Int)) (hLa : σ0.2.2 xa = La) (hxo : σ0.2.1 19 a = (xo : Int)) (hN : n ≤ 200) (hne : xa ≠ xo) (hLk : LNK W n) (hx_88 : ∀ (i5 : Int) (σ : MS) , (WT T σ) → (FrC T [] σ0 σ) → (0 ≤ i5 ∧ i5 ≤ 3) → (CHX [] [] [xo] σ0 σ) → (True) → (i5 ≤ 3) → (GBW La (σ.2.2 xo) c3 c4 c2 3) → Tn (d + 3) m_X3_gatherBehind 88 T σ [(0, .ref a), (2, .int (iI c2)), (3, .int (iI c3)), (4, .int (iI c4)), (5, .int (iI i5))] [] post) : ∀ (nq9 : Nat) (i5 : Int) (σ : MS) , (WT T σ) → (FrC T [] σ0 σ) → (0 ≤ i5 ∧ i5 ≤ 3) → (CHX [] [] [xo] σ0 σ) → (GBW La (σ.2.2 xo) c3 c4 c2 i5) → (i5 ≤ 3) → (2147483700 - i5).toNat = nq9 → Tn (d + 3) m_X3_gatherBehind 16 T σ [(0, .ref a), (2, .int (iI c2)), (3, .int (iI c3)), (4, .int (iI c4)), (5, .int (iI i5))] [] post := by
  intro nq9
  induction nq9 using Nat.strongRecOn with
  | _ nq9 ih =>
    intro i5 σ hw hF r_i5 hC hG h5 hm
    refine tn_iload dX3_gatherBehind_16 4 rfl ?_
    refine tn_iconst dX3_gatherBehind_18 ?_
    refine tn_icmp_ge (tgt := 88) dX3_gatherBehind_19 (by decide) ⟨by omega, by omega⟩ ⟨by decide, by decide⟩ (fun h1 => ?_) (fun h1 => ?_)
    · exact tn_sub [0, 1, 2, 3, 4] rfl (hx_88 (i5) σ hw (FrC.rfl.trans (FrC.sub hF (by decide))) (by omega) hC True.intro (by omega) (by have z := hG; rw [show i5 = 3 by omega] at z; exact z))
    · refine tn_iload_n dX3_gatherBehind_22 rfl 2 rfl ?_
      refine tn_if_eq (tgt := 44) dX3_gatherBehind_23 (by decide) ⟨by omega, by omega⟩ (fun h2 => ?_) (fun h2 => ?_)
      · refine tn_lconst (v := 0) dX3_gatherBehind_44 rfl ?_
        refine tn_lstore (L' := [(6, .long (0)), (0, .ref a), (2, .int (iI c2)), (3, .int (iI c3)), (4, .int (iI c4)), (5, .int (iI i5))]) dX3_gatherBehind_45 (by decide) rfl ?_
        refine tn_iload dX3_gatherBehind_47 4 rfl ?_
        refine tn_if_lt (tgt := 71) dX3_gatherBehind_49 (by decide) ⟨by omega, by omega⟩ (fun h3 => ?_) (fun h3 => ?_)
        · refine tn_aload_n dX3_gatherBehind_71 rfl 1 rfl ?_
          obtain ⟨hk6, hl7⟩ : AR T xo 3 3 3 := ar_of (wf_19 hw0 h_a) hxo
          refine tn_getR (ci := 3) (i := 1) (n := 19) (x := xo) dX3_gatherBehind_72 rfl lay_3 (by decide) fl3_15 h_a rfl rfl (rc_F hF (Or.inl (by decide)) (by decide) (hxo)) ?_
          refine tn_iload dX3_gatherBehind_75 5 rfl ?_
          refine tn_lload dX3_gatherBehind_77 0 rfl ?_
          refine tn_callSN (M := m_X3_gatherBehind) (pc := 79) (ix := 60) (M' := m_X11_putBits) (As := [.ref xo, .int (iI i5), .long (0)]) (rest := []) dX3_gatherBehind_79 ok_X11_putBits stt_X11_putBits nl3_60 np_X11_putBits rfl (Nat.le_of_ble_eq_true rfl) (Nat.le_of_ble_eq_true rfl) rfl (k_X11_putBits_x (d + 1) (T := T) (σ := σ) (x := xo) (i := i5) (w := 0) hk6 (by omega) (by omega) hw ) (fun r8 T10 σ9 gt11 hp => ?_)
          obtain ⟨rfl, rfl, w15, F16, f12, f13⟩ := hp
          clear gt11
          show Tn _ _ 82 T σ9 [(6, .long (0)), (0, .ref a), (2, .int (iI c2)), (3, .int (iI c3)), (4, .int (iI c4)), (5, .int (iI i5))] [] _
          refine tn_iinc (q0 := 5) (L' := [(5, .int (iI (i5 + 1))), (6, .long (0)), (0, .ref a), (2, .int (iI c2)), (3, .int (iI c3)), (4, .int (iI c4))]) dX3_gatherBehind_82 rfl (by decide) rfl ?_
          refine tn_goto (tgt := 16) dX3_gatherBehind_85 (by decide) ?_
          exact tn_sub [2, 3, 4, 5, 0] rfl (ih _ (by omega) (i5 + 1) σ9 w15 ((FrC.rfl.trans (FrC.sub hF (by decide))).trans (FrC.sub F16 (by decide))) (by omega) (hC.trans (CHX.sub f12 (by simp) (by simp) (by simp))) (hG.step (ptl_row f13 ⟨by omega, by omega⟩) (by unfold gbw; rw [if_neg (by omega), if_neg (by omega)]; exact (or_0 _).symm)) (by omega) rfl)
        · refine tn_lload dX3_gatherBehind_52 0 rfl ?_
          refine tn_aload_n dX3_gatherBehind_54 rfl 1 rfl ?_
          obtain ⟨hk19, hl20⟩ : AR T xa 3 603 603 := ar_of (wf_18 hw0 h_a) hxa
          refine tn_getR (ci := 3) (i := 0) (n := 18) (x := xa) dX3_gatherBehind_55 rfl lay_3 (by decide) fl3_9 h_a rfl rfl (rc_F hF (Or.inl (by decide)) (by decide) (hxa)) ?_
          refine tn_iload dX3_gatherBehind_58 4 rfl ?_
          refine tn_iconst dX3_gatherBehind_60 ?_
          refine tn_imul dX3_gatherBehind_61 ?_
          refine tn_iload dX3_gatherBehind_62 5 rfl ?_
          refine tn_iadd dX3_gatherBehind_64 ?_
          refine tn_callSN (M := m_X3_gatherBehind) (pc := 65) (ix := 56) (M' := m_X11_bitsAt) (As := [.ref xa, .int (iI ((c4 * 3) + i5))]) (rest := [.long (0)]) dX3_gatherBehind_65 ok_X11_bitsAt stt_X11_bitsAt nl3_56 np_X11_bitsAt rfl (Nat.le_of_ble_eq_true rfl) (Nat.le_of_ble_eq_true rfl) rfl (k_X11_bitsAt_x (d + 1) (T := T) (σ := σ) (x := xa) (i := (c4 * 3) + i5) hk19 (by omega) (by omega) hw ) (fun r21 T23 σ22 gt24 hp => ?_)
          obtain ⟨v26, rfl, rfl, rfl, f25⟩ := hp
          clear gt24
          show Tn _ _ 68 T σ [(6, .long (0)), (0, .ref a), (2, .int (iI c2)), (3, .int (iI c3)), (4, .int (iI c4)), (5, .int (iI i5))] [.long (v26), .long (0)] _
          have cv27 : σ.2.2 xa = La := (CHX.l hC (by first | (simp; done) | (simp only [List.mem_cons, List.not_mem_nil, or_false, not_or]; omega))).trans (hLa)
          refine tn_lor dX3_gatherBehind_68 ?_
          refine tn_lstore (L' := [(6, .long ((0) ||| (v26))), (0, .ref a), (2, .int (iI c2)), (3, .int (iI c3)), (4, .int (iI c4)), (5, .int (iI i5))]) dX3_gatherBehind_69 (by decide) rfl ?_
          refine tn_aload_n dX3_gatherBehind_71 rfl 1 rfl ?_
          obtain ⟨hk30, hl31⟩ : AR T xo 3 3 3 := ar_of (wf_19 hw0 h_a) hxo
          refine tn_getR (ci := 3) (i := 1) (n := 19) (x := xo) dX3_gatherBehind_72 rfl lay_3 (by decide) fl3_15 h_a rfl rfl (rc_F hF (Or.inl (by decide)) (by decide) (hxo)) ?_
          refine tn_iload dX3_gatherBehind_75 5 rfl ?_
          refine tn_lload dX3_gatherBehind_77 0 rfl ?_
          refine tn_callSN (M := m_X3_gatherBehind) (pc := 79) (ix := 60) (M' := m_X11_putBits) (As := [.ref xo, .int (iI i5), .long ((0) ||| (v26))]) (rest := []) dX3_gatherBehind_79 ok_X11_putBits stt_X11_putBits nl3_60 np_X11_putBits rfl (Nat.le_of_ble_eq_true rfl) (Nat.le_of_ble_eq_true rfl) rfl (k_X11_putBits_x (d + 1) (T := T) (σ := σ) (x := xo) (i := i5) (w := (0) ||| (v26)) hk30 (by omega) (by omega) hw ) (fun r32 T34 σ33 gt35 hp => ?_)
          obtain ⟨rfl, rfl, w39, F40, f36, f37⟩ := hp
          clear gt35
          show Tn _ _ 82 T σ33 [(6, .long ((0) ||| (v26))), (0, .ref a), (2, .int (iI c2)), (3, .int (iI c3)), (4, .int (iI c4)), (5, .int (iI i5))] [] _
          refine tn_iinc (q0 := 5) (L' := [(5, .int (iI (i5 + 1))), (6, .long ((0) ||| (v26))), (0, .ref a), (2, .int (iI c2)), (3, .int (iI c3)), (4, .int (iI c4))]) dX3_gatherBehind_82 rfl (by decide) rfl ?_
          refine tn_goto (tgt := 16) dX3_gatherBehind_85 (by decide) ?_
          exact tn_sub [2, 3, 4, 5, 0] rfl (ih _ (by omega) (i5 + 1) σ33 w39 ((FrC.rfl.trans (FrC.sub hF (by decide))).trans (FrC.sub F40 (by decide))) (by omega) (hC.trans (CHX.sub f36 (by simp) (by simp) (by simp))) (hG.step (ptl_row f37 ⟨by omega, by omega⟩) (by unfold gbw; rw [if_neg (by omega), if_pos (by omega), ← ltv_in f25 cv27 (show _ = 3 * c4 + i5 by omega) ⟨by omega, by omega⟩])) (by omega) rfl)
      · refine tn_aload_n dX3_gatherBehind_26 rfl 0 rfl ?_
        obtain ⟨hk43, hl44⟩ : AR T xa 3 603 603 := ar_of (wf_18 hw0 h_a) hxa
        refine tn_getR (ci := 3) (i := 0) (n := 18) (x := xa) dX3_gatherBehind_27 rfl lay_3 (by decide) fl3_9 h_a rfl rfl (rc_F hF (Or.inl (by decide)) (by decide) (hxa)) ?_
        refine tn_iload_n dX3_gatherBehind_30 rfl 1 rfl ?_
        refine tn_iconst dX3_gatherBehind_31 ?_
        refine tn_iadd dX3_gatherBehind_32 ?_
        refine tn_iconst dX3_gatherBehind_33 ?_
        refine tn_imul dX3_gatherBehind_34 ?_
        refine tn_iload dX3_gatherBehind_35 4 rfl ?_
        refine tn_iadd dX3_gatherBehind_37 ?_
        refine tn_callSN (M := m_X3_gatherBehind) (pc := 38) (ix := 56) (M' := m_X11_bitsAt) (As := [.ref xa, .int (iI (((c2 + 1) * 3) + i5))]) (rest := []) dX3_gatherBehind_38 ok_X11_bitsAt stt_X11_bitsAt nl3_56 np_X11_bitsAt rfl (Nat.le_of_ble_eq_true rfl) (Nat.le_of_ble_eq_true rfl) rfl (k_X11_bitsAt_x (d + 1) (T := T) (σ := σ) (x := xa) (i := ((c2 + 1) * 3) + i5) hk43 (by omega) (by omega) hw ) (fun r45 T47 σ46 gt48 hp => ?_)
        obtain ⟨v50, rfl, rfl, rfl, f49⟩ := hp
        clear gt48
        show Tn _ _ 41 T σ [(0, .ref a), (2, .int (iI c2)), (3, .int (iI c3)), (4, .int (iI c4)), (5, .int (iI i5))] [.long (v50)] _
        have cv51 : σ.2.2 xa = La := (CHX.l hC (by first | (simp; done) | (simp only [List.mem_cons, List.not_mem_nil, or_false, not_or]; omega))).trans (hLa)
        refine tn_goto (tgt := 45) dX3_gatherBehind_41 (by decide) ?_
        refine tn_lstore (L' := [(6, .long (v50)), (0, .ref a), (2, .int (iI c2)), (3, .int (iI c3)), (4, .int (iI c4)), (5, .int (iI i5))]) dX3_gatherBehind_45 (by decide) rfl ?_
        refine tn_iload dX3_gatherBehind_47 4 rfl ?_
        refine tn_if_lt (tgt := 71) dX3_gatherBehind_49 (by decide) ⟨by omega, by omega⟩ (fun h52 => ?_) (fun h52 => ?_)
        · refine tn_aload_n dX3_gatherBehind_71 rfl 1 rfl ?_
          obtain ⟨hk55, hl56⟩ : AR T xo 3 3 3 := ar_of (wf_19 hw0 h_a) hxo
          refine tn_getR (ci := 3) (i := 1) (n := 19) (x := xo) dX3_gatherBehind_72 rfl lay_3 (by decide) fl3_15 h_a rfl rfl (rc_F hF (Or.inl (by decide)) (by decide) (hxo)) ?_
          refine tn_iload dX3_gatherBehind_75 5 rfl ?_
          refine tn_lload dX3_gatherBehind_77 0 rfl ?_
          refine tn_callSN (M := m_X3_gatherBehind) (pc := 79) (ix := 60) (M' := m_X11_putBits) (As := [.ref xo, .int (iI i5), .long (v50)]) (rest := []) dX3_gatherBehind_79 ok_X11_putBits stt_X11_putBits nl3_60 np_X11_putBits rfl (Nat.le_of_ble_eq_true rfl) (Nat.le_of_ble_eq_true rfl) rfl (k_X11_putBits_x (d + 1) (T := T) (σ := σ) (x := xo) (i := i5) (w := v50) hk55 (by omega) (by omega) hw ) (fun r57 T59 σ58 gt60 hp => ?_)
          obtain ⟨rfl, rfl, w64, F65, f61, f62⟩ := hp
          clear gt60
          show Tn _ _ 82 T σ58 [(6, .long (v50)), (0, .ref a), (2, .int (iI c2)), (3, .int (iI c3)), (4, .int (iI c4)), (5, .int (iI i5))] [] _
          refine tn_iinc (q0 := 5) (L' := [(5, .int (iI (i5 + 1))), (6, .long (v50)), (0, .ref a), (2, .int (iI c2)), (3, .int (iI c3)), (4, .int (iI c4))]) dX3_gatherBehind_82 rfl (by decide) rfl ?_
          refine tn_goto (tgt := 16) dX3_gatherBehind_85 (by decide) ?_
          exact tn_sub [2, 3, 4, 5, 0] rfl (ih _ (by omega) (i5 + 1) σ58 w64 ((FrC.rfl.trans (FrC.sub hF (by decide))).trans (FrC.sub F65 (by decide))) (by omega) (hC.trans (CHX.sub f61 (by simp) (by simp) (by simp))) (hG.step (ptl_row f62 ⟨by omega, by omega⟩) (by unfold gbw; rw [if_pos (by omega), if_neg (by omega), ← ltv_in f49 cv51 (show _ = 3 * (c2 + 1) + i5 by omega) ⟨by omega, by omega⟩]; exact (or_0 _).symm)) (by omega) rfl)
        · refine tn_lload dX3_gatherBehind_52 0 rfl ?_
          refine tn_aload_n dX3_gatherBehind_54 rfl 1 rfl ?_
          refine tn_getR (ci := 3) (i := 0) (n := 18) (x := xa) dX3_gatherBehind_55 rfl lay_3 (by decide) fl3_9 h_a rfl rfl (rc_F hF (Or.inl (by decide)) (by decide) (hxa)) ?_
          refine tn_iload dX3_gatherBehind_58 4 rfl ?_
          refine tn_iconst dX3_gatherBehind_60 ?_
          refine tn_imul dX3_gatherBehind_61 ?_
          refine tn_iload dX3_gatherBehind_62 5 rfl ?_
          refine tn_iadd dX3_gatherBehind_64 ?_
          refine tn_callSN (M := m_X3_gatherBehind) (pc := 65) (ix := 56) (M' := m_X11_bitsAt) (As := [.ref xa, .int (iI ((c4 * 3) + i5))]) (rest := [.long (v50)]) dX3_gatherBehind_65 ok_X11_bitsAt stt_X11_bitsAt nl3_56 np_X11_bitsAt rfl (Nat.le_of_ble_eq_true rfl) (Nat.le_of_ble_eq_true rfl) rfl (k_X11_bitsAt_x (d + 1) (T := T) (σ := σ) (x := xa) (i := (c4 * 3) + i5) hk43 (by omega) (by omega) hw ) (fun r66 T68 σ67 gt69 hp => ?_)
          obtain ⟨v71, rfl, rfl, rfl, f70⟩ := hp
          clear gt69
          show Tn _ _ 68 T σ [(6, .long (v50)), (0, .ref a), (2, .int (iI c2)), (3, .int (iI c3)), (4, .int (iI c4)), (5, .int (iI i5))] [.long (v71), .long (v50)] _
          refine tn_lor dX3_gatherBehind_68 ?_
          refine tn_lstore (L' := [(6, .long ((v50) ||| (v71))), (0, .ref a), (2, .int (iI c2)), (3, .int (iI c3)), (4, .int (iI c4)), (5, .int (iI i5))]) dX3_gatherBehind_69 (by decide) rfl ?_
          refine tn_aload_n dX3_gatherBehind_71 rfl 1 rfl ?_
          obtain ⟨hk74, hl75⟩ : AR T xo 3 3 3 := ar_of (wf_19 hw0 h_a) hxo
          refine tn_getR (ci := 3) (i := 1) (n := 19) (x := xo) dX3_gatherBehind_72 rfl lay_3 (by decide) fl3_15 h_a rfl rfl (rc_F hF (Or.inl (by decide)) (by decide) (hxo)) ?_
          refine tn_iload dX3_gatherBehind_75 5 rfl ?_
          refine tn_lload dX3_gatherBehind_77 0 rfl ?_
          refine tn_callSN (M := m_X3_gatherBehind) (pc := 79) (ix := 60) (M' := m_X11_putBits) (As := [.ref xo, .int (iI i5), .long ((v50) ||| (v71))]) (rest := []) dX3_gatherBehind_79 ok_X11_putBits stt_X11_putBits nl3_60 np_X11_putBits rfl (Nat.le_of_ble_eq_true rfl) (Nat.le_of_ble_eq_true rfl) rfl (k_X11_putBits_x (d + 1) (T := T) (σ := σ) (x := xo) (i := i5) (w := (v50) ||| (v71)) hk74 (by omega) (by omega) hw ) (fun r76 T78 σ77 gt79 hp => ?_)
          obtain ⟨rfl, rfl, w83, F84, f80, f81⟩ := hp
          clear gt79
          show Tn _ _ 82 T σ77 [(6, .long ((v50) ||| (v71))), (0, .ref a), (2, .int (iI c2)), (3, .int (iI c3)), (4, .int (iI c4)), (5, .int (iI i5))] [] _
          refine tn_iinc (q0 := 5) (L' := [(5, .int (iI (i5 + 1))), (6, .long ((v50) ||| (v71))), (0, .ref a), (2, .int (iI c2)), (3, .int (iI c3)), (4, .int (iI c4))]) dX3_gatherBehind_82 rfl (by decide) rfl ?_
          refine tn_goto (tgt := 16) dX3_gatherBehind_85 (by decide) ?_
          exact tn_sub [2, 3, 4, 5, 0] rfl (ih _ (by omega) (i5 + 1) σ77 w83 ((FrC.rfl.trans (FrC.sub hF (by decide))).trans (FrC.sub F84 (by decide))) (by omega) (hC.trans (CHX.sub f80 (by simp) (by simp) (by simp))) (hG.step (ptl_row f81 ⟨by omega, by omega⟩) (by unfold gbw; rw [if_pos (by omega), if_pos (by omega), ← ltv_in f49 cv51 (show _ = 3 * (c2 + 1) + i5 by omega) ⟨by omega, by omega⟩, ← ltv_in f70 cv51 (show _ = 3 * c4 + i5 by omega) ⟨by omega, by omega⟩])) (by omega) rfl)
set_option maxHeartbeats 1000000 in
set_option maxRecDepth 20000 in
theorem k_X3_gatherBehind_x (d : Nat) {T : CT} {σ : MS} {a : Nat} {p1 : Nat} {p2 : Int} {x : Nat} {n : Int} {W : Int → It} {xa : Nat} {La : Int → Int64} {xo : Nat} (ha : OB T a 3) (h_p1 : OB T p1 1) (t_p1 : (T p1).1 = 50) (h_p2 : -2147483648 ≤ p2 ∧ p2 ≤ 2147483647) (hw : WT T σ) (hx : σ.2.1 5 p1 = (x : Int)) (hn : σ.2.1 6 p1 = n) (hW : cW σ x n = W) (hxa : σ.2.1 18 a = (xa : Int)) (hLa : σ.2.2 xa = La) (hxo : σ.2.1 19 a = (xo : Int)) (hN : n ≤ 200) (hne : xa ≠ xo) (hLk : LNK W n) (hk : 0 ≤ p2 ∧ p2 < n) : Tn (d + 3) m_X3_gatherBehind 0 T σ [(0, .ref a), (1, .ref p1), (2, .int (iI p2))] [] (fun ro T2 σ2 => ro = none ∧ T = T2 ∧ WT T2 σ2 ∧ FrC T [] σ σ2 ∧ (CHX [] [] [xo] σ σ2) ∧ (GBQ W n La (σ2.2.2 xo) p2)) := by
  refine tn_aload_n dX3_gatherBehind_0 rfl 1 rfl ?_
  refine tn_iload_n dX3_gatherBehind_1 rfl 2 rfl ?_
  obtain ⟨hl4, hk3a, hk3b⟩ := cel_of (wf_5 hw h_p1) hx
  have hk3 : (T x).1 = 1 := hk3a (by omega)
  clear hk3a hk3b
  have hk3i : IA T x := by unfold IA; omega
  refine tn_callV (M := m_X3_gatherBehind) (pc := 2) (ix := 48) (ci := 1) (M' := m_X1_fallsOn) (As := [.int (iI p2)]) (rest := []) dX3_gatherBehind_2 ok_X1_fallsOn im_X1_fallsOn se_X1_fallsOn ml3_48 np_X1_fallsOn rfl rfl h_p1 rfl (Nat.le_of_ble_eq_true rfl) (Nat.le_of_ble_eq_true rfl) rfl (k_X1_fallsOn_x (d) (T := T) (σ := σ) (a := p1) (k := p2) (x := x) (n := n) (W := W) h_p1 (by omega) hw (hx) (hn) hW (by omega)) (fun r5 T7 σ6 gt8 hp => ?_)
  obtain ⟨v11, rfl, rfl, rfl, f9, f10⟩ := hp
  clear gt8
  show Tn _ _ 5 T σ [(0, .ref a), (1, .ref p1), (2, .int (iI p2))] [.int (iI v11)] _
  refine tn_istore_n (L' := [(3, .int (iI v11)), (0, .ref a), (1, .ref p1), (2, .int (iI p2))]) dX3_gatherBehind_5 rfl (by decide) rfl ?_
  refine tn_aload_n dX3_gatherBehind_6 rfl 2 rfl ?_
  refine tn_iload_n dX3_gatherBehind_7 rfl 3 rfl ?_
  refine tn_callV (M := m_X3_gatherBehind) (pc := 8) (ix := 52) (ci := 1) (M' := m_X1_targetOf) (As := [.int (iI p2)]) (rest := []) dX3_gatherBehind_8 ok_X1_targetOf im_X1_targetOf se_X1_targetOf ml3_52 np_X1_targetOf rfl rfl h_p1 rfl (Nat.le_of_ble_eq_true rfl) (Nat.le_of_ble_eq_true rfl) rfl (k_X1_targetOf_x (d) (T := T) (σ := σ) (a := p1) (k := p2) (x := x) (n := n) (W := W) h_p1 (by omega) hw (hx) (hn) hW (by omega)) (fun r12 T14 σ13 gt15 hp => ?_)
  obtain ⟨v18, rfl, rfl, rfl, f16, f17⟩ := hp
  clear gt15
  show Tn _ _ 11 T σ [(3, .int (iI v11)), (0, .ref a), (1, .ref p1), (2, .int (iI p2))] [.int (iI v18)] _
  have tgr := tg_lt hLk hk f17
  refine tn_istore (L' := [(4, .int (iI v18)), (3, .int (iI v11)), (0, .ref a), (1, .ref p1), (2, .int (iI p2))]) dX3_gatherBehind_11 (by decide) rfl ?_
  refine tn_iconst dX3_gatherBehind_13 ?_
  refine tn_istore (L' := [(5, .int (iI 0)), (4, .int (iI v18)), (3, .int (iI v11)), (0, .ref a), (1, .ref p1), (2, .int (iI p2))]) dX3_gatherBehind_14 (by decide) rfl ?_
  refine tn_sub [3, 5, 2, 1, 0] rfl (l_X3_gatherBehind_x_16 (d) (T := T) (σ0 := σ) (a := a) (c2 := p2) (c3 := v11) (c4 := v18) (x := x) (n := n) (W := (W)) (xa := xa) (La := (La)) (xo := xo) ha (by omega) (by omega) (by omega) hw (by omega) (tg_lt hLk hk f17) (by omega) hW (hxa) hLa (hxo) hN hne hLk (fun i519 σ20 w23 F24 r25 f26 f27 f28 f29 => ?_) _ (0) σ hw FrC.rfl (by omega) CHX.rfl GBW.nil (by omega) rfl)
  show Tn _ _ 88 T σ20 [(0, .ref a), (2, .int (iI p2)), (3, .int (iI v11)), (4, .int (iI v18)), (5, .int (iI i519))] [] _
  exact tn_vret rfl dX3_gatherBehind_88 ⟨rfl, rfl, w23, (FrC.rfl.trans (FrC.sub F24 (by decide))), (CHX.rfl.trans (CHX.sub f26 (by simp) (by simp) (by simp))), ⟨_, _, f10, f17, gb_bits f29⟩⟩
end
section
set_option maxHeartbeats 1000000 in
set_option maxRecDepth 20000 in
theorem l_X3_settleAhead_x_69 (d : Nat) {T : CT} {σ0 : MS} {a : Nat} {c2 : Int} {M2 : Int → Int64} {L0 : Int → Int64} {x : Nat} {n : Int} {W : Int → It} {xa : Nat} {La : Int → Int64} {xo : Nat} {Lo : Int → Int64} {post : Option Value → CT → MS → Prop} (h_a : OB T a 3) (r_c2 : 0 ≤ c2 ∧ c2 ≤ 200) (hw0 : WT T σ0) (hk : 0 ≤ c2 ∧ c2 < n) (hM2 : σ0.2.2 xo = M2) (hW : cW σ0 x n = W) (hxa : σ0.2.1 18 a = (xa : Int)) (hxo : σ0.2.1 19 a = (xo : Int)) (hN : n ≤ 200) (hne : xa ≠ xo) (hwok : WOK W n) (hmok : MOK W n) (hLk : LNK W n) (hU : UNQ (vW W) n) (hx_128 : ∀ (i3 : Int) (i4 : Int) (σ : MS) , (WT T σ) → (FrC T [] σ0 σ) → (0 ≤ i3 ∧ i3 ≤ 1) → (0 ≤ i4 ∧ i4 ≤ 3) → (CHX [] [] [xa] σ0 σ) → (True) → (i4 ≤ 3) → (SWP L0 (σ.2.2 xa) M2 c2 3 i3) → Tn (d + 3) m_X3_settleAhead 128 T σ [(0, .ref a), (2, .int (iI c2)), (3, .int (iI i3)), (4, .int (iI i4))] [] post) : ∀ (nq9 : Nat) (i3 : Int) (i4 : Int) (σ : MS) , (WT T σ) → (FrC T [] σ0 σ) → (0 ≤ i3 ∧ i3 ≤ 1) → (0 ≤ i4 ∧ i4 ≤ 3) → (CHX [] [] [xa] σ0 σ) → (SWP L0 (σ.2.2 xa) M2 c2 i4 i3) → (i4 ≤ 3) → (2147483700 - i4).toNat = nq9 → Tn (d + 3) m_X3_settleAhead 69 T σ [(0, .ref a), (2, .int (iI c2)), (3, .int (iI i3)), (4, .int (iI i4))] [] post := by
  intro nq9
  induction nq9 using Nat.strongRecOn with
  | _ nq9 ih =>
    intro i3 i4 σ hw hF r_i3 r_i4 hC hS h4 hm
    refine tn_iload dX3_settleAhead_69 3 rfl ?_
    refine tn_iconst dX3_settleAhead_71 ?_
    refine tn_icmp_ge (tgt := 128) dX3_settleAhead_72 (by decide) ⟨by omega, by omega⟩ ⟨by decide, by decide⟩ (fun h1 => ?_) (fun h1 => ?_)
    · exact tn_sub [0, 1, 2, 3] rfl (hx_128 (i3) (i4) σ hw (FrC.rfl.trans (FrC.sub hF (by decide))) (by omega) (by omega) hC True.intro (by omega) (by have z := hS; rw [show i4 = 3 by omega] at z; exact z))
    · refine tn_aload_n dX3_settleAhead_75 rfl 0 rfl ?_
      obtain ⟨hk4, hl5⟩ : AR T xo 3 3 3 := ar_of (wf_19 hw0 h_a) hxo
      refine tn_getR (ci := 3) (i := 1) (n := 19) (x := xo) dX3_settleAhead_76 rfl lay_3 (by decide) fl3_15 h_a rfl rfl (rc_F hF (Or.inl (by decide)) (by decide) (hxo)) ?_
      refine tn_iload dX3_settleAhead_79 3 rfl ?_
      refine tn_callSN (M := m_X3_settleAhead) (pc := 81) (ix := 56) (M' := m_X11_bitsAt) (As := [.ref xo, .int (iI i4)]) (rest := []) dX3_settleAhead_81 ok_X11_bitsAt stt_X11_bitsAt nl3_56 np_X11_bitsAt rfl (Nat.le_of_ble_eq_true rfl) (Nat.le_of_ble_eq_true rfl) rfl (k_X11_bitsAt_x (d + 1) (T := T) (σ := σ) (x := xo) (i := i4) hk4 (by omega) (by omega) hw ) (fun r6 T8 σ7 gt9 hp => ?_)
      obtain ⟨v11, rfl, rfl, rfl, f10⟩ := hp
      clear gt9
      show Tn _ _ 84 T σ [(0, .ref a), (2, .int (iI c2)), (3, .int (iI i3)), (4, .int (iI i4))] [.long (v11)] _
      have cv12 : σ.2.2 xo = M2 := (CHX.l hC (by first | (simp; done) | (simp only [List.mem_cons, List.not_mem_nil, or_false, not_or]; omega))).trans (hM2)
      refine tn_lstore (L' := [(5, .long (v11)), (0, .ref a), (2, .int (iI c2)), (3, .int (iI i3)), (4, .int (iI i4))]) dX3_settleAhead_84 (by decide) rfl ?_
      refine tn_lload dX3_settleAhead_86 0 rfl ?_
      refine tn_aload_n dX3_settleAhead_88 rfl 1 rfl ?_
      obtain ⟨hk15, hl16⟩ : AR T xa 3 603 603 := ar_of (wf_18 hw0 h_a) hxa
      refine tn_getR (ci := 3) (i := 0) (n := 18) (x := xa) dX3_settleAhead_89 rfl lay_3 (by decide) fl3_9 h_a rfl rfl (rc_F hF (Or.inl (by decide)) (by decide) (hxa)) ?_
      refine tn_iload_n dX3_settleAhead_92 rfl 2 rfl ?_
      refine tn_iconst dX3_settleAhead_93 ?_
      refine tn_imul dX3_settleAhead_94 ?_
      refine tn_iload dX3_settleAhead_95 4 rfl ?_
      refine tn_iadd dX3_settleAhead_97 ?_
      refine tn_callSN (M := m_X3_settleAhead) (pc := 98) (ix := 56) (M' := m_X11_bitsAt) (As := [.ref xa, .int (iI ((c2 * 3) + i4))]) (rest := [.long (v11)]) dX3_settleAhead_98 ok_X11_bitsAt stt_X11_bitsAt nl3_56 np_X11_bitsAt rfl (Nat.le_of_ble_eq_true rfl) (Nat.le_of_ble_eq_true rfl) rfl (k_X11_bitsAt_x (d + 1) (T := T) (σ := σ) (x := xa) (i := (c2 * 3) + i4) hk15 (by omega) (by omega) hw ) (fun r17 T19 σ18 gt20 hp => ?_)
      obtain ⟨v22, rfl, rfl, rfl, f21⟩ := hp
      clear gt20
      show Tn _ _ 101 T σ [(5, .long (v11)), (0, .ref a), (2, .int (iI c2)), (3, .int (iI i3)), (4, .int (iI i4))] [.long (v22), .long (v11)] _
      refine tn_lcmpX dX3_settleAhead_101 ?_
      refine tn_lcmpE (fun z23 g24 g24w => ?_)
      refine tn_if_eq (tgt := 122) dX3_settleAhead_102 (by decide) ⟨by omega, by omega⟩ (fun h25 => ?_) (fun h25 => ?_)
      · refine tn_iinc (q0 := 4) (L' := [(4, .int (iI (i4 + 1))), (5, .long (v11)), (0, .ref a), (2, .int (iI c2)), (3, .int (iI i3))]) dX3_settleAhead_122 rfl (by decide) rfl ?_
        refine tn_goto (tgt := 69) dX3_settleAhead_125 (by decide) ?_
        exact tn_sub [2, 3, 4, 0] rfl (ih _ (by omega) (i3) (i4 + 1) σ hw (FrC.rfl.trans (FrC.sub hF (by decide))) (by omega) (by omega) hC (hS.same (by omega) (by rw [← ltv_in f10 cv12 (show _ = i4 by omega) ⟨by omega, by omega⟩, ← ltv_in f21 rfl (show _ = 3 * c2 + i4 by omega) ⟨by omega, by omega⟩]; exact (g24w).mp (by omega))) (by omega) rfl)
      · refine tn_aload_n dX3_settleAhead_105 rfl 1 rfl ?_
        refine tn_getR (ci := 3) (i := 0) (n := 18) (x := xa) dX3_settleAhead_106 rfl lay_3 (by decide) fl3_9 h_a rfl rfl (rc_F hF (Or.inl (by decide)) (by decide) (hxa)) ?_
        refine tn_iload_n dX3_settleAhead_109 rfl 2 rfl ?_
        refine tn_iconst dX3_settleAhead_110 ?_
        refine tn_imul dX3_settleAhead_111 ?_
        refine tn_iload dX3_settleAhead_112 4 rfl ?_
        refine tn_iadd dX3_settleAhead_114 ?_
        refine tn_lload dX3_settleAhead_115 0 rfl ?_
        refine tn_callSN (M := m_X3_settleAhead) (pc := 117) (ix := 60) (M' := m_X11_putBits) (As := [.ref xa, .int (iI ((c2 * 3) + i4)), .long (v11)]) (rest := []) dX3_settleAhead_117 ok_X11_putBits stt_X11_putBits nl3_60 np_X11_putBits rfl (Nat.le_of_ble_eq_true rfl) (Nat.le_of_ble_eq_true rfl) rfl (k_X11_putBits_x (d + 1) (T := T) (σ := σ) (x := xa) (i := (c2 * 3) + i4) (w := v11) hk15 (by omega) (by omega) hw ) (fun r26 T28 σ27 gt29 hp => ?_)
        obtain ⟨rfl, rfl, w33, F34, f30, f31⟩ := hp
        clear gt29
        show Tn _ _ 120 T σ27 [(5, .long (v11)), (0, .ref a), (2, .int (iI c2)), (3, .int (iI i3)), (4, .int (iI i4))] [] _
        refine tn_iconst dX3_settleAhead_120 ?_
        refine tn_istore_n (L' := [(3, .int (iI 1)), (5, .long (v11)), (0, .ref a), (2, .int (iI c2)), (4, .int (iI i4))]) dX3_settleAhead_121 rfl (by decide) rfl ?_
        refine tn_iinc (q0 := 4) (L' := [(4, .int (iI (i4 + 1))), (3, .int (iI 1)), (5, .long (v11)), (0, .ref a), (2, .int (iI c2))]) dX3_settleAhead_122 rfl (by decide) rfl ?_
        refine tn_goto (tgt := 69) dX3_settleAhead_125 (by decide) ?_
        exact tn_sub [3, 4, 1, 0] rfl (ih _ (by omega) (1) (i4 + 1) σ27 w33 ((FrC.rfl.trans (FrC.sub hF (by decide))).trans (FrC.sub F34 (by decide))) (by decide) (by omega) (hC.trans (CHX.sub f30 (by simp) (by simp) (by simp))) (hS.diff (by omega) (by rw [← ltv_in f10 cv12 (show _ = i4 by omega) ⟨by omega, by omega⟩, ← ltv_in f21 rfl (show _ = 3 * c2 + i4 by omega) ⟨by omega, by omega⟩]; exact fun q => absurd ((g24w).mpr q) (by omega)) (by rw [ptl_row f31 ⟨by omega, by omega⟩, ltv_in f10 cv12 (show _ = i4 by omega) ⟨by omega, by omega⟩]; funext q; rw [show c2 * 3 + i4 = 3 * c2 + i4 by omega])) (by omega) rfl)
set_option maxHeartbeats 1000000 in
set_option maxRecDepth 20000 in
theorem l_X3_settleAhead_x_26 (d : Nat) {T : CT} {σ0 : MS} {a : Nat} {rx1 : Nat} {c2 : Int} {M0 : Int → Int64} {x : Nat} {n : Int} {W : Int → It} {xa : Nat} {La : Int → Int64} {xo : Nat} {Lo : Int → Int64} {post : Option Value → CT → MS → Prop} (h_a : OB T a 3) (h_rx1 : OB T rx1 1) (t_rx1 : (T rx1).1 = 50) (r_c2 : 0 ≤ c2 ∧ c2 ≤ 200) (hw0 : WT T σ0) (hk : 0 ≤ c2 ∧ c2 < n) (hx : σ0.2.1 5 rx1 = (x : Int)) (hn : σ0.2.1 6 rx1 = n) (hW : cW σ0 x n = W) (hxa : σ0.2.1 18 a = (xa : Int)) (hLa : σ0.2.2 xa = La) (hxo : σ0.2.1 19 a = (xo : Int)) (hN : n ≤ 200) (hne : xa ≠ xo) (hwok : WOK W n) (hmok : MOK W n) (hLk : LNK W n) (hU : UNQ (vW W) n) (hx_64 : ∀ (i3 : Int) (σ : MS) , (WT T σ) → (FrC T [] σ0 σ) → (3 ≤ i3 ∧ i3 ≤ 11) → (CHX [] [] [xo] σ0 σ) → (RDP W c2 M0 (σ.2.2 xo) i3) → (3 ≤ i3 ∧ i3 ≤ 11) → (11 ≤ i3) → Tn (d + 3) m_X3_settleAhead 64 T σ [(0, .ref a), (1, .ref rx1), (2, .int (iI c2)), (3, .int (iI i3))] [] post) : ∀ (nq9 : Nat) (i3 : Int) (σ : MS) , (WT T σ) → (FrC T [] σ0 σ) → (3 ≤ i3 ∧ i3 ≤ 11) → (CHX [] [] [xo] σ0 σ) → (RDP W c2 M0 (σ.2.2 xo) i3) → (3 ≤ i3 ∧ i3 ≤ 11) → (2147483700 - i3).toNat = nq9 → Tn (d + 3) m_X3_settleAhead 26 T σ [(0, .ref a), (1, .ref rx1), (2, .int (iI c2)), (3, .int (iI i3))] [] post := by
  intro nq9
  induction nq9 using Nat.strongRecOn with
  | _ nq9 ih =>
    intro i3 σ hw hF r_i3 hC hR_ h3 hm
    have hRn := hR_.num
    refine tn_iload_n dX3_settleAhead_26 rfl 3 rfl ?_
    refine tn_bipush dX3_settleAhead_27 (by decide) ?_
    refine tn_icmp_ge (tgt := 64) dX3_settleAhead_29 (by decide) ⟨by omega, by omega⟩ ⟨by decide, by decide⟩ (fun h1 => ?_) (fun h1 => ?_)
    · exact tn_sub [0, 1, 2, 3] rfl (hx_64 (i3) σ hw (FrC.rfl.trans (FrC.sub hF (by decide))) (by omega) hC hR_ (by omega) (by omega))
    · refine tn_aload_n dX3_settleAhead_32 rfl 1 rfl ?_
      refine tn_iload_n dX3_settleAhead_33 rfl 2 rfl ?_
      refine tn_iload_n dX3_settleAhead_34 rfl 3 rfl ?_
      obtain ⟨hl5, hk4a, hk4b⟩ := cel_of (wf_5 hw0 h_rx1) hx
      have hk4 : (T x).1 = 1 := hk4a (by omega)
      clear hk4a hk4b
      have hk4i : IA T x := by unfold IA; omega
      have cv6 : cW σ x n = W := (cW_row (CHX.r hC (by first | (simp; done) | (simp only [List.mem_cons, List.not_mem_nil, or_false, not_or]; omega)))).trans (hW)
      refine tn_callV (M := m_X3_settleAhead) (pc := 35) (ix := 77) (ci := 1) (M' := m_X1_get) (As := [.int (iI c2), .int (iI i3)]) (rest := []) dX3_settleAhead_35 ok_X1_get im_X1_get se_X1_get ml3_77 np_X1_get rfl rfl h_rx1 rfl (Nat.le_of_ble_eq_true rfl) (Nat.le_of_ble_eq_true rfl) rfl (k_X1_get_x (d + 1) (T := T) (σ := σ) (a := rx1) (k := c2) (c := i3) (x := x) (n := n) (W := W) h_rx1 (by omega) (by omega) hw (rc_F hF (Or.inl (by decide)) (by decide) (hx)) (rc_F hF (Or.inl (by decide)) (by decide) (hn)) cv6 (by omega) (by omega)) (fun r7 T9 σ8 gt10 hp => ?_)
      obtain ⟨v13, rfl, rfl, rfl, f11, f12⟩ := hp
      clear gt10
      show Tn _ _ 38 T σ [(0, .ref a), (1, .ref rx1), (2, .int (iI c2)), (3, .int (iI i3))] [.int (iI v13)] _
      refine tn_iconst dX3_settleAhead_38 ?_
      refine tn_icmp_ne (tgt := 58) dX3_settleAhead_39 (by decide) ⟨by omega, by omega⟩ ⟨by decide, by decide⟩ (fun h14 => ?_) (fun h14 => ?_)
      · refine tn_iinc (q0 := 3) (L' := [(3, .int (iI (i3 + 2))), (0, .ref a), (1, .ref rx1), (2, .int (iI c2))]) dX3_settleAhead_58 rfl (by decide) rfl ?_
        refine tn_goto (tgt := 26) dX3_settleAhead_61 (by decide) ?_
        exact tn_sub [1, 2, 3, 0] rfl (ih _ (by omega) (i3 + 2) σ hw (FrC.rfl.trans (FrC.sub hF (by decide))) (by omega) hC (hR_.no (by omega) (by omega)) (by omega) rfl)
      · refine tn_aload_n dX3_settleAhead_42 rfl 0 rfl ?_
        obtain ⟨hk17, hl18⟩ : AR T xo 3 3 3 := ar_of (wf_19 hw0 h_a) hxo
        refine tn_getR (ci := 3) (i := 1) (n := 19) (x := xo) dX3_settleAhead_43 rfl lay_3 (by decide) fl3_15 h_a rfl rfl (rc_F hF (Or.inl (by decide)) (by decide) (hxo)) ?_
        refine tn_iconst dX3_settleAhead_46 ?_
        refine tn_aload_n dX3_settleAhead_47 rfl 1 rfl ?_
        refine tn_iload_n dX3_settleAhead_48 rfl 2 rfl ?_
        refine tn_iload_n dX3_settleAhead_49 rfl 3 rfl ?_
        refine tn_iconst dX3_settleAhead_50 ?_
        refine tn_iadd dX3_settleAhead_51 ?_
        refine tn_callV (M := m_X3_settleAhead) (pc := 52) (ix := 77) (ci := 1) (M' := m_X1_get) (As := [.int (iI c2), .int (iI (i3 + 1))]) (rest := [.int (iI 0), .ref xo]) dX3_settleAhead_52 ok_X1_get im_X1_get se_X1_get ml3_77 np_X1_get rfl rfl h_rx1 rfl (Nat.le_of_ble_eq_true rfl) (Nat.le_of_ble_eq_true rfl) rfl (k_X1_get_x (d + 1) (T := T) (σ := σ) (a := rx1) (k := c2) (c := i3 + 1) (x := x) (n := n) (W := W) h_rx1 (by omega) (by omega) hw (rc_F hF (Or.inl (by decide)) (by decide) (hx)) (rc_F hF (Or.inl (by decide)) (by decide) (hn)) cv6 (by omega) (by omega)) (fun r19 T21 σ20 gt22 hp => ?_)
        obtain ⟨v25, rfl, rfl, rfl, f23, f24⟩ := hp
        clear gt22
        show Tn _ _ 55 T σ [(0, .ref a), (1, .ref rx1), (2, .int (iI c2)), (3, .int (iI i3))] [.int (iI v25), .int (iI 0), .ref xo] _
        refine tn_callSN (M := m_X3_settleAhead) (pc := 55) (ix := 81) (M' := m_X11_include) (As := [.ref xo, .int (iI 0), .int (iI v25)]) (rest := []) dX3_settleAhead_55 ok_X11_include stt_X11_include nl3_81 np_X11_include rfl (Nat.le_of_ble_eq_true rfl) (Nat.le_of_ble_eq_true rfl) rfl (k_X11_include_x (d) (T := T) (σ := σ) (x := xo) (k := 0) (r := v25) (L := σ.2.2 xo) hk17 (by omega) (by decide) (by omega) hw rfl (by omega)) (fun r26 T28 σ27 gt29 hp => ?_)
        obtain ⟨rfl, rfl, w33, F34, f30, f31⟩ := hp
        clear gt29
        show Tn _ _ 58 T σ27 [(0, .ref a), (1, .ref rx1), (2, .int (iI c2)), (3, .int (iI i3))] [] _
        refine tn_iinc (q0 := 3) (L' := [(3, .int (iI (i3 + 2))), (0, .ref a), (1, .ref rx1), (2, .int (iI c2))]) dX3_settleAhead_58 rfl (by decide) rfl ?_
        refine tn_goto (tgt := 26) dX3_settleAhead_61 (by decide) ?_
        exact tn_sub [1, 2, 3, 0] rfl (ih _ (by omega) (i3 + 2) σ27 w33 ((FrC.rfl.trans (FrC.sub hF (by decide))).trans (FrC.sub F34 (by decide))) (by omega) (hC.trans (CHX.sub f30 (by simp) (by simp) (by simp))) (hR_.yes (by omega) f12 (by omega) f24 (by have z := (hwok c2 hk.1 hk.2).op (c := i3) (by omega); omega) f31) (by omega) rfl)
set_option maxHeartbeats 1000000 in
set_option maxRecDepth 20000 in
theorem k_X3_settleAhead_x (d : Nat) {T : CT} {σ : MS} {a : Nat} {p1 : Nat} {p2 : Int} {x : Nat} {n : Int} {W : Int → It} {xa : Nat} {La : Int → Int64} {xo : Nat} {Lo : Int → Int64} (ha : OB T a 3) (h_p1 : OB T p1 1) (t_p1 : (T p1).1 = 50) (h_p2 : -2147483648 ≤ p2 ∧ p2 ≤ 2147483647) (hw : WT T σ) (hx : σ.2.1 5 p1 = (x : Int)) (hn : σ.2.1 6 p1 = n) (hW : cW σ x n = W) (hxa : σ.2.1 18 a = (xa : Int)) (hLa : σ.2.2 xa = La) (hxo : σ.2.1 19 a = (xo : Int)) (hLo : σ.2.2 xo = Lo) (hN : n ≤ 200) (hne : xa ≠ xo) (hwok : WOK W n) (hmok : MOK W n) (hLk : LNK W n) (hU : UNQ (vW W) n) (hk : 0 ≤ p2 ∧ p2 < n) (hg : GBQ W n La Lo p2) : Tn (d + 3) m_X3_settleAhead 0 T σ [(0, .ref a), (1, .ref p1), (2, .int (iI p2))] [] (fun ro T2 σ2 => ∃ v : Int, ro = some (.int (iI v)) ∧ T = T2 ∧ WT T2 σ2 ∧ FrC T [] σ σ2 ∧ (v = 0 ∨ v = 1) ∧ (CHX [] [] [xo, xa] σ σ2) ∧ (SAQ (vW W) n La (σ2.2.2 xa) p2 v)) := by
  refine tn_aload_n dX3_settleAhead_0 rfl 0 rfl ?_
  obtain ⟨hk3, hl4⟩ : AR T xo 3 3 3 := ar_of (wf_19 hw ha) hxo
  refine tn_getR (ci := 3) (i := 1) (n := 19) (x := xo) dX3_settleAhead_1 rfl lay_3 (by decide) fl3_15 ha rfl rfl (hxo) ?_
  refine tn_iconst dX3_settleAhead_4 ?_
  refine tn_aload_n dX3_settleAhead_5 rfl 1 rfl ?_
  refine tn_iload_n dX3_settleAhead_6 rfl 2 rfl ?_
  obtain ⟨hl8, hk7a, hk7b⟩ := cel_of (wf_5 hw h_p1) hx
  have hk7 : (T x).1 = 1 := hk7a (by omega)
  clear hk7a hk7b
  have hk7i : IA T x := by unfold IA; omega
  refine tn_callV (M := m_X3_settleAhead) (pc := 7) (ix := 64) (ci := 1) (M' := m_X1_writtenBy) (As := [.int (iI p2)]) (rest := [.int (iI 0), .ref xo]) dX3_settleAhead_7 ok_X1_writtenBy im_X1_writtenBy se_X1_writtenBy ml3_64 np_X1_writtenBy rfl rfl h_p1 rfl (Nat.le_of_ble_eq_true rfl) (Nat.le_of_ble_eq_true rfl) rfl (k_X1_writtenBy_x (d) (T := T) (σ := σ) (a := p1) (k := p2) (x := x) (n := n) (W := W) h_p1 (by omega) hw (hx) (hn) hW (by omega)) (fun r9 T11 σ10 gt12 hp => ?_)
  obtain ⟨v15, rfl, rfl, rfl, f13, f14⟩ := hp
  clear gt12
  show Tn _ _ 10 T σ [(0, .ref a), (1, .ref p1), (2, .int (iI p2))] [.int (iI v15), .int (iI 0), .ref xo] _
  refine tn_callSN (M := m_X3_settleAhead) (pc := 10) (ix := 67) (M' := m_X11_exclude) (As := [.ref xo, .int (iI 0), .int (iI v15)]) (rest := []) dX3_settleAhead_10 ok_X11_exclude stt_X11_exclude nl3_67 np_X11_exclude rfl (Nat.le_of_ble_eq_true rfl) (Nat.le_of_ble_eq_true rfl) rfl (k_X11_exclude_x (d) (T := T) (σ := σ) (x := xo) (k := 0) (r := v15) (L := Lo) hk3 (by omega) (by decide) (by omega) hw hLo (by omega)) (fun r16 T18 σ17 gt19 hp => ?_)
  obtain ⟨rfl, rfl, w23, F24, f20, f21⟩ := hp
  clear gt19
  show Tn _ _ 13 T σ17 [(0, .ref a), (1, .ref p1), (2, .int (iI p2))] [] _
  refine tn_aload_n dX3_settleAhead_13 rfl 1 rfl ?_
  refine tn_iload_n dX3_settleAhead_14 rfl 2 rfl ?_
  have cv25 : cW σ17 x n = W := (cW_row (CHX.r f20 (by first | (simp; done) | (simp only [List.mem_cons, List.not_mem_nil, or_false, not_or]; omega)))).trans (hW)
  refine tn_callV (M := m_X3_settleAhead) (pc := 15) (ix := 71) (ci := 1) (M' := m_X1_kindAt) (As := [.int (iI p2)]) (rest := []) dX3_settleAhead_15 ok_X1_kindAt im_X1_kindAt se_X1_kindAt ml3_71 np_X1_kindAt rfl rfl h_p1 rfl (Nat.le_of_ble_eq_true rfl) (Nat.le_of_ble_eq_true rfl) rfl (k_X1_kindAt_x (d + 1) (T := T) (σ := σ17) (a := p1) (k := p2) (x := x) (n := n) (W := W) h_p1 (by omega) w23 (rc_F F24 (Or.inl (by decide)) (by decide) (hx)) (rc_F F24 (Or.inl (by decide)) (by decide) (hn)) cv25 (by omega)) (fun r26 T28 σ27 gt29 hp => ?_)
  obtain ⟨v32, rfl, rfl, rfl, f30, f31⟩ := hp
  clear gt29
  have f31u := f31
  unfold KDQ at f31u
  show Tn _ _ 18 T σ17 [(0, .ref a), (1, .ref p1), (2, .int (iI p2))] [.int (iI v32)] _
  refine tn_callSN (M := m_X3_settleAhead) (pc := 18) (ix := 74) (M' := m_X11_isAct) (As := [.int (iI v32)]) (rest := []) dX3_settleAhead_18 ok_X11_isAct stt_X11_isAct nl3_74 np_X11_isAct rfl (Nat.le_of_ble_eq_true rfl) (Nat.le_of_ble_eq_true rfl) rfl (k_X11_isAct_x (d + 1) (T := T) (σ := σ17) (k := v32) (by omega) w23 ) (fun r33 T35 σ34 gt36 hp => ?_)
  obtain ⟨v39, rfl, rfl, rfl, f37, f38⟩ := hp
  clear gt36
  show Tn _ _ 21 T σ17 [(0, .ref a), (1, .ref p1), (2, .int (iI p2))] [.int (iI v39)] _
  refine tn_if_eq (tgt := 64) dX3_settleAhead_21 (by decide) ⟨by omega, by omega⟩ (fun h40 => ?_) (fun h40 => ?_)
  · refine tn_iconst dX3_settleAhead_64 ?_
    refine tn_istore_n (L' := [(3, .int (iI 0)), (0, .ref a), (1, .ref p1), (2, .int (iI p2))]) dX3_settleAhead_65 rfl (by decide) rfl ?_
    refine tn_iconst dX3_settleAhead_66 ?_
    refine tn_istore (L' := [(4, .int (iI 0)), (3, .int (iI 0)), (0, .ref a), (1, .ref p1), (2, .int (iI p2))]) dX3_settleAhead_67 (by decide) rfl ?_
    have cv41 : σ17.2.2 xa = La := (CHX.l f20 (by first | (simp; done) | (simp only [List.mem_cons, List.not_mem_nil, or_false, not_or]; omega))).trans (hLa)
    refine tn_sub [2, 4, 1, 0] rfl (l_X3_settleAhead_x_69 (d) (T := T) (σ0 := σ17) (a := a) (c2 := p2) (x := x) (n := n) (W := (W)) (xa := xa) (La := La) (xo := xo) (Lo := Lo) (M2 := (σ17.2.2 xo)) (L0 := La) ha (by omega) w23 (by omega) rfl cv25 (rc_F F24 (Or.inl (by decide)) (by decide) (hxa)) (rc_F F24 (Or.inl (by decide)) (by decide) (hxo)) hN hne hwok hmok hLk hU (fun i342 i443 σ44 w47 F48 r49 r50 f51 f52 f53 f54 => ?_) _ (0) (0) σ17 w23 FrC.rfl (by omega) (by omega) CHX.rfl (by rw [cv41]; exact SWP.nil) (by omega) rfl)
    show Tn _ _ 128 T σ44 [(0, .ref a), (2, .int (iI p2)), (3, .int (iI i342)), (4, .int (iI i443))] [] _
    refine tn_iload_n dX3_settleAhead_128 rfl 2 rfl ?_
    exact tn_zret (v := i342) rfl (by omega) dX3_settleAhead_129 ⟨_, rfl, rfl, w47, ((FrC.rfl.trans (FrC.sub F24 (by decide))).trans (FrC.sub F48 (by decide))), by omega, ((CHX.rfl.trans (CHX.sub f20 (by simp) (by simp) (by simp))).trans (CHX.sub f51 (by simp) (by simp) (by simp))), saq_mk hwok hmok hLk hU hk hg f14 f21 (Or.inr ⟨by have z := f31; unfold KDQ at z; have z2 := (hwok p2 hk.1 hk.2).1; omega, rfl⟩) f54⟩
  · refine tn_iconst dX3_settleAhead_24 ?_
    refine tn_istore_n (L' := [(3, .int (iI 3)), (0, .ref a), (1, .ref p1), (2, .int (iI p2))]) dX3_settleAhead_25 rfl (by decide) rfl ?_
    have cv55 : σ17.2.2 xa = La := (CHX.l f20 (by first | (simp; done) | (simp only [List.mem_cons, List.not_mem_nil, or_false, not_or]; omega))).trans (hLa)
    refine tn_sub [1, 2, 3, 0] rfl (l_X3_settleAhead_x_26 (d) (T := T) (σ0 := σ17) (a := a) (rx1 := p1) (c2 := p2) (x := x) (n := n) (W := (W)) (xa := xa) (La := (La)) (xo := xo) (Lo := Lo) (M0 := (σ17.2.2 xo)) ha h_p1 t_p1 (by omega) w23 (by omega) (rc_F F24 (Or.inl (by decide)) (by decide) (hx)) (rc_F F24 (Or.inl (by decide)) (by decide) (hn)) cv25 (rc_F F24 (Or.inl (by decide)) (by decide) (hxa)) cv55 (rc_F F24 (Or.inl (by decide)) (by decide) (hxo)) hN hne hwok hmok hLk hU (fun i356 σ57 w60 F61 r62 f63 f64 f65 f66 => ?_) _ (3) σ17 w23 FrC.rfl (by omega) CHX.rfl RDP.nil (by omega) rfl)
    show Tn _ _ 64 T σ57 [(0, .ref a), (1, .ref p1), (2, .int (iI p2)), (3, .int (iI i356))] [] _
    refine tn_iconst dX3_settleAhead_64 ?_
    refine tn_istore_n (L' := [(3, .int (iI 0)), (0, .ref a), (1, .ref p1), (2, .int (iI p2))]) dX3_settleAhead_65 rfl (by decide) rfl ?_
    refine tn_iconst dX3_settleAhead_66 ?_
    refine tn_istore (L' := [(4, .int (iI 0)), (3, .int (iI 0)), (0, .ref a), (1, .ref p1), (2, .int (iI p2))]) dX3_settleAhead_67 (by decide) rfl ?_
    have cv67 : σ57.2.2 xa = La := (CHX.l f63 (by first | (simp; done) | (simp only [List.mem_cons, List.not_mem_nil, or_false, not_or]; omega))).trans (cv55)
    have cv68 : cW σ57 x n = W := (cW_row (CHX.r f63 (by first | (simp; done) | (simp only [List.mem_cons, List.not_mem_nil, or_false, not_or]; omega)))).trans (cv25)
    refine tn_sub [2, 4, 1, 0] rfl (l_X3_settleAhead_x_69 (d) (T := T) (σ0 := σ57) (a := a) (c2 := p2) (x := x) (n := n) (W := (W)) (xa := xa) (La := La) (xo := xo) (Lo := Lo) (M2 := (σ57.2.2 xo)) (L0 := La) ha (by omega) w60 (by omega) rfl cv68 (rc_F F61 (Or.inl (by decide)) (by decide) (rc_F F24 (Or.inl (by decide)) (by decide) (hxa))) (rc_F F61 (Or.inl (by decide)) (by decide) (rc_F F24 (Or.inl (by decide)) (by decide) (hxo))) hN hne hwok hmok hLk hU (fun i369 i470 σ71 w74 F75 r76 r77 f78 f79 f80 f81 => ?_) _ (0) (0) σ57 w60 FrC.rfl (by omega) (by omega) CHX.rfl (by rw [cv67]; exact SWP.nil) (by omega) rfl)
    show Tn _ _ 128 T σ71 [(0, .ref a), (2, .int (iI p2)), (3, .int (iI i369)), (4, .int (iI i470))] [] _
    refine tn_iload_n dX3_settleAhead_128 rfl 2 rfl ?_
    exact tn_zret (v := i369) rfl (by omega) dX3_settleAhead_129 ⟨_, rfl, rfl, w74, (((FrC.rfl.trans (FrC.sub F24 (by decide))).trans (FrC.sub F61 (by decide))).trans (FrC.sub F75 (by decide))), by omega, (((CHX.rfl.trans (CHX.sub f20 (by simp) (by simp) (by simp))).trans (CHX.sub f63 (by simp) (by simp) (by simp))).trans (CHX.sub f78 (by simp) (by simp) (by simp))), saq_mk hwok hmok hLk hU hk hg f14 f21 (Or.inl ⟨by have z := f31; unfold KDQ at z; omega, f64.fin (by omega)⟩) f81⟩
end
section
set_option maxHeartbeats 1000000 in
set_option maxRecDepth 20000 in
theorem l_X3_findLiving_x_39 (d : Nat) {T : CT} {σ0 : MS} {a : Nat} {rx1 : Nat} {c3 : Int} {L0 : Int → Int64} {x : Nat} {n : Int} {W : Int → It} {xa : Nat} {La : Int → Int64} {xo : Nat} {post : Option Value → CT → MS → Prop} (h_a : OB T a 3) (h_rx1 : OB T rx1 1) (t_rx1 : (T rx1).1 = 50) (r_c3 : 0 ≤ c3 ∧ c3 ≤ 999999) (hw0 : WT T σ0) (hn0 : 0 ≤ n) (hx : σ0.2.1 5 rx1 = (x : Int)) (hn : σ0.2.1 6 rx1 = n) (hW : cW σ0 x n = W) (hxa : σ0.2.1 18 a = (xa : Int)) (hxo : σ0.2.1 19 a = (xo : Int)) (hN : n ≤ 200) (hne : xa ≠ xo) (hwok : WOK W n) (hmok : MOK W n) (hLk : LNK W n) (hU : UNQ (vW W) n) (hx_67 : ∀ (i2 : Int) (i4 : Int) (σ : MS) , (WT T σ) → (FrC T [] σ0 σ) → (0 ≤ i2 ∧ i2 ≤ 1) → (-1 ≤ i4 ∧ i4 ≤ 200) → (CHX [] [] [xo, xa] σ0 σ) → (FLI (vW W) n L0 (σ.2.2 xa) i4 i2) → (i4 < n ∧ -1 ≤ i4) → (i4 < 0) → Tn (d + 4) m_X3_findLiving 67 T σ [(0, .ref a), (1, .ref rx1), (2, .int (iI i2)), (3, .int (iI c3)), (4, .int (iI i4))] [] post) : ∀ (nq9 : Nat) (i2 : Int) (i4 : Int) (σ : MS) , (WT T σ) → (FrC T [] σ0 σ) → (0 ≤ i2 ∧ i2 ≤ 1) → (-1 ≤ i4 ∧ i4 ≤ 200) → (CHX [] [] [xo, xa] σ0 σ) → (FLI (vW W) n L0 (σ.2.2 xa) i4 i2) → (i4 < n ∧ -1 ≤ i4) → (i4 + 20).toNat = nq9 → Tn (d + 4) m_X3_findLiving 39 T σ [(0, .ref a), (1, .ref rx1), (2, .int (iI i2)), (3, .int (iI c3)), (4, .int (iI i4))] [] post := by
  intro nq9
  induction nq9 using Nat.strongRecOn with
  | _ nq9 ih =>
    intro i2 i4 σ hw hF r_i2 r_i4 hC hI h4 hm
    refine tn_iload dX3_findLiving_39 4 rfl ?_
    refine tn_if_lt (tgt := 67) dX3_findLiving_41 (by decide) ⟨by omega, by omega⟩ (fun h1 => ?_) (fun h1 => ?_)
    · exact tn_sub [0, 1, 2, 3, 4] rfl (hx_67 (i2) (i4) σ hw (FrC.rfl.trans (FrC.sub hF (by decide))) (by omega) (by omega) hC hI (by omega) (by omega))
    · refine tn_aload_n dX3_findLiving_44 rfl 0 rfl ?_
      refine tn_aload_n dX3_findLiving_45 rfl 1 rfl ?_
      refine tn_iload dX3_findLiving_46 4 rfl ?_
      obtain ⟨hl5, hk4a, hk4b⟩ := cel_of (wf_5 hw0 h_rx1) hx
      have hk4 : (T x).1 = 1 := hk4a (by omega)
      clear hk4a hk4b
      have hk4i : IA T x := by unfold IA; omega
      have cv6 : cW σ x n = W := (cW_row (CHX.r hC (by first | (simp; done) | (simp only [List.mem_cons, List.not_mem_nil, or_false, not_or]; omega)))).trans (hW)
      obtain ⟨hk9, hl10⟩ : AR T xa 3 603 603 := ar_of (wf_18 hw0 h_a) hxa
      obtain ⟨hk13, hl14⟩ : AR T xo 3 3 3 := ar_of (wf_19 hw0 h_a) hxo
      refine tn_callV (M := m_X3_findLiving) (pc := 48) (ix := 40) (ci := 3) (M' := m_X3_gatherBehind) (As := [.ref rx1, .int (iI i4)]) (rest := []) dX3_findLiving_48 ok_X3_gatherBehind im_X3_gatherBehind se_X3_gatherBehind ml3_40 np_X3_gatherBehind rfl rfl h_a rfl (Nat.le_of_ble_eq_true rfl) (Nat.le_of_ble_eq_true rfl) rfl (k_X3_gatherBehind_x (d) (T := T) (σ := σ) (a := a) (p1 := rx1) (p2 := i4) (x := x) (n := n) (W := W) (xa := xa) (La := σ.2.2 xa) (xo := xo) h_a h_rx1 t_rx1 (by omega) hw (rc_F hF (Or.inl (by decide)) (by decide) (hx)) (rc_F hF (Or.inl (by decide)) (by decide) (hn)) cv6 (rc_F hF (Or.inl (by decide)) (by decide) (hxa)) rfl (rc_F hF (Or.inl (by decide)) (by decide) (hxo)) (by omega) (by omega) (by omega) (by omega)) (fun r15 T17 σ16 gt18 hp => ?_)
      obtain ⟨rfl, rfl, w22, F23, f19, f20⟩ := hp
      clear gt18
      show Tn _ _ 51 T σ16 [(0, .ref a), (1, .ref rx1), (2, .int (iI i2)), (3, .int (iI c3)), (4, .int (iI i4))] [] _
      refine tn_iload_n dX3_findLiving_51 rfl 2 rfl ?_
      refine tn_aload_n dX3_findLiving_52 rfl 0 rfl ?_
      refine tn_aload_n dX3_findLiving_53 rfl 1 rfl ?_
      refine tn_iload dX3_findLiving_54 4 rfl ?_
      have cv24 : cW σ16 x n = W := (cW_row (CHX.r f19 (by first | (simp; done) | (simp only [List.mem_cons, List.not_mem_nil, or_false, not_or]; omega)))).trans (cv6)
      have cv25 : σ16.2.2 xa = σ.2.2 xa := (CHX.l f19 (by first | (simp; done) | (simp only [List.mem_cons, List.not_mem_nil, or_false, not_or]; omega))).trans (rfl)
      refine tn_callV (M := m_X3_findLiving) (pc := 56) (ix := 44) (ci := 3) (M' := m_X3_settleAhead) (As := [.ref rx1, .int (iI i4)]) (rest := [.int (iI i2)]) dX3_findLiving_56 ok_X3_settleAhead im_X3_settleAhead se_X3_settleAhead ml3_44 np_X3_settleAhead rfl rfl h_a rfl (Nat.le_of_ble_eq_true rfl) (Nat.le_of_ble_eq_true rfl) rfl (k_X3_settleAhead_x (d) (T := T) (σ := σ16) (a := a) (p1 := rx1) (p2 := i4) (x := x) (n := n) (W := W) (xa := xa) (La := σ.2.2 xa) (xo := xo) (Lo := σ16.2.2 xo) h_a h_rx1 t_rx1 (by omega) w22 (rc_F F23 (Or.inl (by decide)) (by decide) (rc_F hF (Or.inl (by decide)) (by decide) (hx))) (rc_F F23 (Or.inl (by decide)) (by decide) (rc_F hF (Or.inl (by decide)) (by decide) (hn))) cv24 (rc_F F23 (Or.inl (by decide)) (by decide) (rc_F hF (Or.inl (by decide)) (by decide) (hxa))) cv25 (rc_F F23 (Or.inl (by decide)) (by decide) (rc_F hF (Or.inl (by decide)) (by decide) (hxo))) rfl (by omega) (by omega) (by omega) (by omega) (by omega) (by omega) (by omega) f20) (fun r26 T28 σ27 gt29 hp => ?_)
      obtain ⟨v33, rfl, rfl, w34, F35, f30, f31, f32⟩ := hp
      clear gt29
      show Tn _ _ 59 T σ27 [(0, .ref a), (1, .ref rx1), (2, .int (iI i2)), (3, .int (iI c3)), (4, .int (iI i4))] [.int (iI v33), .int (iI i2)] _
      refine tn_ior dX3_findLiving_59 ?_
      refine tn_borX (x := i2) (y := v33) (by omega) (by omega) (fun z38 g39 g39w => ?_)
      refine tn_istore_n (L' := [(2, .int (iI z38)), (0, .ref a), (1, .ref rx1), (3, .int (iI c3)), (4, .int (iI i4))]) dX3_findLiving_60 rfl (by decide) rfl ?_
      refine tn_iinc (q0 := 4) (L' := [(4, .int (iI (i4 + (-1)))), (2, .int (iI z38)), (0, .ref a), (1, .ref rx1), (3, .int (iI c3))]) dX3_findLiving_61 rfl (by decide) rfl ?_
      refine tn_goto (tgt := 39) dX3_findLiving_64 (by decide) ?_
      exact tn_sub [2, 3, 1, 4, 0] rfl (ih _ (by omega) (z38) (i4 + (-1)) σ27 w34 (((FrC.rfl.trans (FrC.sub hF (by decide))).trans (FrC.sub F23 (by decide))).trans (FrC.sub F35 (by decide))) (by omega) (by omega) ((hC.trans (CHX.sub f19 (by simp) (by simp) (by simp))).trans (CHX.sub f31 (by simp) (by simp) (by simp))) (hI.step ⟨by omega, by omega⟩ (by omega) (f32.r ⟨by omega, by omega⟩) g39w (by omega)) (by omega) rfl)
set_option maxHeartbeats 1000000 in
set_option maxRecDepth 20000 in
theorem l_X3_findLiving_x_19 (d : Nat) {T : CT} {σ0 : MS} {a : Nat} {rx1 : Nat} {x : Nat} {n : Int} {W : Int → It} {xa : Nat} {La : Int → Int64} {xo : Nat} {post : Option Value → CT → MS → Prop} (h_a : OB T a 3) (h_rx1 : OB T rx1 1) (t_rx1 : (T rx1).1 = 50) (hw0 : WT T σ0) (hn0 : 0 ≤ n) (hx : σ0.2.1 5 rx1 = (x : Int)) (hn : σ0.2.1 6 rx1 = n) (hW : cW σ0 x n = W) (hxa : σ0.2.1 18 a = (xa : Int)) (hxo : σ0.2.1 19 a = (xo : Int)) (hN : n ≤ 200) (hne : xa ≠ xo) (hwok : WOK W n) (hmok : MOK W n) (hLk : LNK W n) (hU : UNQ (vW W) n) (hx_73 : ∀ (i2 : Int) (i3 : Int) (σ : MS) , (WT T σ) → (FrC T [] σ0 σ) → (0 ≤ i2 ∧ i2 ≤ 1) → (0 ≤ i3 ∧ i3 ≤ 1000000) → (CHX [] [] [xo, xa] σ0 σ) → (True) → (LIVE (vW W) n (σ.2.2 xa)) → Tn (d + 4) m_X3_findLiving 73 T σ [(0, .ref a), (1, .ref rx1), (2, .int (iI i2)), (3, .int (iI i3))] [] post) : ∀ (nq9 : Nat) (i2 : Int) (i3 : Int) (σ : MS) , (WT T σ) → (FrC T [] σ0 σ) → (0 ≤ i2 ∧ i2 ≤ 1) → (0 ≤ i3 ∧ i3 ≤ 1000000) → (CHX [] [] [xo, xa] σ0 σ) → (FLR2 (vW W) n (σ.2.2 xa) i3 i2) → (2147483700 - i3).toNat = nq9 → Tn (d + 4) m_X3_findLiving 19 T σ [(0, .ref a), (1, .ref rx1), (2, .int (iI i2)), (3, .int (iI i3))] [] post := by
  intro nq9
  induction nq9 using Nat.strongRecOn with
  | _ nq9 ih =>
    intro i2 i3 σ hw hF r_i2 r_i3 hC hF_ hm
    refine tn_iload_n dX3_findLiving_19 rfl 2 rfl ?_
    refine tn_if_eq (tgt := 73) dX3_findLiving_20 (by decide) ⟨by omega, by omega⟩ (fun h1 => ?_) (fun h1 => ?_)
    · exact tn_sub [0, 1, 2, 3] rfl (hx_73 (i2) (i3) σ hw (FrC.rfl.trans (FrC.sub hF (by decide))) (by omega) (by omega) hC True.intro (hF_.fin (by omega)))
    · refine tn_iload_n dX3_findLiving_23 rfl 3 rfl ?_
      refine tn_ldc (n := 1000000) dX3_findLiving_24 cst3_39 rfl ?_
      refine tn_icmp_ge (tgt := 73) dX3_findLiving_26 (by decide) ⟨by omega, by omega⟩ ⟨by decide, by decide⟩ (fun h2 => ?_) (fun h2 => ?_)
      · exact tn_sub [0, 1, 2, 3] rfl (hx_73 (i2) (i3) σ hw (FrC.rfl.trans (FrC.sub hF (by decide))) (by omega) (by omega) hC True.intro (hF_.fin (by omega)))
      · refine tn_iconst dX3_findLiving_29 ?_
        refine tn_istore_n (L' := [(2, .int (iI 0)), (0, .ref a), (1, .ref rx1), (3, .int (iI i3))]) dX3_findLiving_30 rfl (by decide) rfl ?_
        refine tn_aload_n dX3_findLiving_31 rfl 2 rfl ?_
        refine tn_getI (ci := 1) (i := 1) (n := 6) (t := σ0.2.1 6 rx1) dX3_findLiving_32 rfl lay_1 (by decide) fl3_29 h_rx1 rfl rfl (rc_F hF (Or.inl (by decide)) (by decide) (rfl)) ?_
        have g3 : ((0 : Int) ≤ σ0.2.1 6 rx1 ∧ σ0.2.1 6 rx1 ≤ 5000) ∧ ((T rx1).1 = 50 → σ0.2.1 6 rx1 ≤ 200) := wf_6 hw0 h_rx1
        have g3x := g3.2
        replace g3 := g3.1
        have g3x := g3x t_rx1
        refine tn_iconst dX3_findLiving_35 ?_
        refine tn_isub dX3_findLiving_36 ?_
        refine tn_istore (L' := [(4, .int (iI ((σ0.2.1 6 rx1) - 1))), (2, .int (iI 0)), (0, .ref a), (1, .ref rx1), (3, .int (iI i3))]) dX3_findLiving_37 (by decide) rfl ?_
        have cv4 : cW σ x n = W := (cW_row (CHX.r hC (by first | (simp; done) | (simp only [List.mem_cons, List.not_mem_nil, or_false, not_or]; omega)))).trans (hW)
        refine tn_sub [2, 3, 1, 4, 0] rfl (l_X3_findLiving_x_39 (d) (T := T) (σ0 := σ) (a := a) (rx1 := rx1) (c3 := i3) (x := x) (n := n) (W := (W)) (xa := xa) (La := La) (xo := xo) (L0 := (σ.2.2 xa)) h_a h_rx1 t_rx1 (by omega) hw (by omega) (rc_F hF (Or.inl (by decide)) (by decide) (hx)) (rc_F hF (Or.inl (by decide)) (by decide) (hn)) cv4 (rc_F hF (Or.inl (by decide)) (by decide) (hxa)) (rc_F hF (Or.inl (by decide)) (by decide) (hxo)) hN hne hwok hmok hLk hU (fun i25 i46 σ7 w10 F11 r12 r13 f14 f15 f16 f17 => ?_) _ (0) ((σ0.2.1 6 rx1) - 1) σ hw FrC.rfl (by omega) (by omega) CHX.rfl (by have z := hF_.go; rw [show (n - 1 : Int) = (σ0.2.1 6 rx1) - 1 by omega] at z; exact z) (by omega) rfl)
        show Tn _ _ 67 T σ7 [(0, .ref a), (1, .ref rx1), (2, .int (iI i25)), (3, .int (iI i3)), (4, .int (iI i46))] [] _
        refine tn_iinc (q0 := 3) (L' := [(3, .int (iI (i3 + 1))), (0, .ref a), (1, .ref rx1), (2, .int (iI i25)), (4, .int (iI i46))]) dX3_findLiving_67 rfl (by decide) rfl ?_
        refine tn_goto (tgt := 19) dX3_findLiving_70 (by decide) ?_
        exact tn_sub [1, 2, 3, 0] rfl (ih _ (by omega) (i25) (i3 + 1) σ7 w10 ((FrC.rfl.trans (FrC.sub hF (by decide))).trans (FrC.sub F11 (by decide))) (by omega) (by omega) (hC.trans (CHX.sub f14 (by simp) (by simp) (by simp))) (FLR2.next (by have z := hF_; rw [show i2 = 1 by omega] at z; exact z) f15 (by omega)) rfl)
set_option maxHeartbeats 1000000 in
set_option maxRecDepth 20000 in
theorem k_X3_findLiving_x (d : Nat) {T : CT} {σ : MS} {a : Nat} {p1 : Nat} {x : Nat} {n : Int} {W : Int → It} {xa : Nat} {La : Int → Int64} {xo : Nat} (ha : OB T a 3) (h_p1 : OB T p1 1) (t_p1 : (T p1).1 = 50) (hw : WT T σ) (hx : σ.2.1 5 p1 = (x : Int)) (hn : σ.2.1 6 p1 = n) (hW : cW σ x n = W) (hxa : σ.2.1 18 a = (xa : Int)) (hLa : σ.2.2 xa = La) (hxo : σ.2.1 19 a = (xo : Int)) (hN : n ≤ 200) (hne : xa ≠ xo) (hwok : WOK W n) (hmok : MOK W n) (hLk : LNK W n) (hU : UNQ (vW W) n) : Tn (d + 4) m_X3_findLiving 0 T σ [(0, .ref a), (1, .ref p1)] [] (fun ro T2 σ2 => ro = none ∧ T = T2 ∧ WT T2 σ2 ∧ FrC T [] σ σ2 ∧ (CHX [] [] [xo, xa] σ σ2) ∧ (LIVE (vW W) n (σ2.2.2 xa))) := by
  have h6 := wf_6 hw h_p1
  refine tn_aload_n dX3_findLiving_0 rfl 0 rfl ?_
  obtain ⟨hk3, hl4⟩ : AR T xa 3 603 603 := ar_of (wf_18 hw ha) hxa
  refine tn_getR (ci := 3) (i := 0) (n := 18) (x := xa) dX3_findLiving_1 rfl lay_3 (by decide) fl3_9 ha rfl rfl (hxa) ?_
  refine tn_aload_n dX3_findLiving_4 rfl 1 rfl ?_
  refine tn_getI (ci := 1) (i := 1) (n := 6) (t := σ.2.1 6 p1) dX3_findLiving_5 rfl lay_1 (by decide) fl3_29 h_p1 rfl rfl (rfl) ?_
  have g5 : ((0 : Int) ≤ σ.2.1 6 p1 ∧ σ.2.1 6 p1 ≤ 5000) ∧ ((T p1).1 = 50 → σ.2.1 6 p1 ≤ 200) := wf_6 hw h_p1
  have g5x := g5.2
  replace g5 := g5.1
  have g5x := g5x t_p1
  refine tn_iconst dX3_findLiving_8 ?_
  refine tn_iadd dX3_findLiving_9 ?_
  refine tn_iconst dX3_findLiving_10 ?_
  refine tn_imul dX3_findLiving_11 ?_
  refine tn_callSN (M := m_X3_findLiving) (pc := 12) (ix := 35) (M' := m_X11_clear) (As := [.ref xa, .int (iI (((σ.2.1 6 p1) + 1) * 3))]) (rest := []) dX3_findLiving_12 ok_X11_clear stt_X11_clear nl3_35 np_X11_clear rfl (Nat.le_of_ble_eq_true rfl) (Nat.le_of_ble_eq_true rfl) rfl (k_X11_clear_x (d) (T := T) (σ := σ) (x := xa) (n := ((σ.2.1 6 p1) + 1) * 3) hk3 (by omega) (by omega) hw (by omega)) (fun r6 T8 σ7 gt9 hp => ?_)
  obtain ⟨rfl, rfl, w13, F14, f10, f11⟩ := hp
  clear gt9
  show Tn _ _ 15 T σ7 [(0, .ref a), (1, .ref p1)] [] _
  refine tn_iconst dX3_findLiving_15 ?_
  refine tn_istore_n (L' := [(2, .int (iI 1)), (0, .ref a), (1, .ref p1)]) dX3_findLiving_16 rfl (by decide) rfl ?_
  refine tn_iconst dX3_findLiving_17 ?_
  refine tn_istore_n (L' := [(3, .int (iI 0)), (2, .int (iI 1)), (0, .ref a), (1, .ref p1)]) dX3_findLiving_18 rfl (by decide) rfl ?_
  have cv15 : cW σ7 x n = W := (cW_row (CHX.r f10 (by first | (simp; done) | (simp only [List.mem_cons, List.not_mem_nil, or_false, not_or]; omega)))).trans (hW)
  refine tn_sub [2, 3, 1, 0] rfl (l_X3_findLiving_x_19 (d) (T := T) (σ0 := σ7) (a := a) (rx1 := p1) (x := x) (n := n) (W := (W)) (xa := xa) (La := La) (xo := xo) ha h_p1 t_p1 w13 (by omega) (rc_F F14 (Or.inl (by decide)) (by decide) (hx)) (rc_F F14 (Or.inl (by decide)) (by decide) (hn)) cv15 (rc_F F14 (Or.inl (by decide)) (by decide) (hxa)) (rc_F F14 (Or.inl (by decide)) (by decide) (hxo)) hN hne hwok hmok hLk hU (fun i216 i317 σ18 w21 F22 r23 r24 f25 f26 f27 => ?_) _ (1) (0) σ7 w13 FrC.rfl (by omega) (by omega) CHX.rfl (FLR2.start (clr_no f11 (by omega))) rfl)
  show Tn _ _ 73 T σ18 [(0, .ref a), (1, .ref p1), (2, .int (iI i216)), (3, .int (iI i317))] [] _
  exact tn_vret rfl dX3_findLiving_73 ⟨rfl, rfl, w21, ((FrC.rfl.trans (FrC.sub F14 (by decide))).trans (FrC.sub F22 (by decide))), ((CHX.rfl.trans (CHX.sub f10 (by simp) (by simp) (by simp))).trans (CHX.sub f25 (by simp) (by simp) (by simp))), f27⟩
end
section
set_option maxHeartbeats 1000000 in
set_option maxRecDepth 20000 in
theorem k_X3_lives_x (d : Nat) {T : CT} {σ : MS} {a : Nat} {p1 : Int} {p2 : Int} {xa : Nat} {La : Int → Int64} (ha : OB T a 3) (h_p1 : -2147483648 ≤ p1 ∧ p1 ≤ 2147483647) (h_p2 : -2147483648 ≤ p2 ∧ p2 ≤ 2147483647) (hw : WT T σ) (hxa : σ.2.1 18 a = (xa : Int)) (hLa : σ.2.2 xa = La) (hk2 : 0 ≤ p1 ∧ p1 ≤ 200) : Tn (d + 3) m_X3_lives 0 T σ [(0, .ref a), (1, .int (iI p1)), (2, .int (iI p2))] [] (fun ro T2 σ2 => ∃ v : Int, ro = some (.int (iI v)) ∧ T = T2 ∧ σ = σ2 ∧ (v = 0 ∨ v = 1) ∧ (v = 1 ↔ bT La p1 p2)) := by
  refine tn_aload_n dX3_lives_0 rfl 0 rfl ?_
  obtain ⟨hk3, hl4⟩ : AR T xa 3 603 603 := ar_of (wf_18 hw ha) hxa
  refine tn_getR (ci := 3) (i := 0) (n := 18) (x := xa) dX3_lives_1 rfl lay_3 (by decide) fl3_9 ha rfl rfl (hxa) ?_
  refine tn_iload_n dX3_lives_4 rfl 1 rfl ?_
  refine tn_iload_n dX3_lives_5 rfl 2 rfl ?_
  refine tn_callSN (M := m_X3_lives) (pc := 6) (ix := 25) (M' := m_X11_has) (As := [.ref xa, .int (iI p1), .int (iI p2)]) (rest := []) dX3_lives_6 ok_X11_has stt_X11_has nl3_25 np_X11_has rfl (Nat.le_of_ble_eq_true rfl) (Nat.le_of_ble_eq_true rfl) rfl (k_X11_has_x (d) (T := T) (σ := σ) (x := xa) (k := p1) (r := p2) (L := La) hk3 (by omega) (by omega) (by omega) hw hLa (by omega)) (fun r5 T7 σ6 gt8 hp => ?_)
  obtain ⟨v11, rfl, rfl, rfl, f9, f10⟩ := hp
  clear gt8
  show Tn _ _ 9 T σ [(0, .ref a), (1, .int (iI p1)), (2, .int (iI p2))] [.int (iI v11)] _
  exact tn_zret (v := v11) rfl (by omega) dX3_lives_9 ⟨_, rfl, rfl, rfl, by omega, f10⟩
end
section
def RMQ (P : Int → Prop) (W W2 : Int → It) (n m k w : Int) : Prop := (m = k + 1 + (cN P 0 n.toNat - cN P 0 (k + 1).toNat)) ∧ (∀ i, i ≤ k → W2 i = W i) ∧ (∀ i, k < i → i < n → P i → W2 (k + 1 + (cN P 0 i.toNat - cN P 0 (k + 1).toNat)) = W i) ∧ w = cN (fun j => ¬ P j ∧ W j 0 ≤ 10) 0 n.toNat - cN (fun j => ¬ P j ∧ W j 0 ≤ 10) 0 (k + 1).toNat
section RMS
variable {P Q : Int → Prop} {W W2 W3 : Int → It} {n m k w i j : Int}
theorem cN_1s (h : 0 ≤ k) : cN P 0 (k + 1).toNat = cN P 0 k.toNat + dI (P k) 1 0 := by
  have z := cN_s (P := P) (a := 0) (k := k) h
  rw [show (k + 1 - 0).toNat = (k + 1).toNat by omega, show (k - 0).toNat = k.toNat by omega] at z
  exact z
theorem cN_up (h0 : 0 ≤ i) (h : i ≤ j) : cN P 0 i.toNat ≤ cN P 0 j.toNat := by
  obtain ⟨d, e⟩ : ∃ d : Nat, j = i + d := ⟨(j - i).toNat, by omega⟩
  subst e
  induction d with
  | zero => rw [show i + ((0 : Nat) : Int) = i by omega]; exact Int.le_refl _
  | succ d ih =>
    have q := ih (by omega)
    rw [show i + ((d + 1 : Nat) : Int) = (i + d) + 1 by omega, cN_1s (by omega)]
    by_cases z : P (i + d)
    · rw [dI_y z]; omega
    · rw [dI_n z]; omega
theorem RMQ.nil (hn : 0 ≤ n) : RMQ P W W n n (n - 1) 0 := by
  refine ⟨?_, fun _ _ => rfl, fun i a b => by omega, ?_⟩
  · rw [show n - 1 + 1 = n by omega]; omega
  · rw [show n - 1 + 1 = n by omega]; omega
theorem RMQ.keep (h : RMQ P W W2 n m k w) (h0 : 0 ≤ k) (hk : k < n) (p : P k) : RMQ P W W2 n m (k - 1) w := by
  obtain ⟨h1, h2, h3, h4⟩ := h
  have e := cN_1s (P := P) h0
  rw [dI_y p] at e
  have e2 := cN_1s (P := fun j => ¬ P j ∧ W j 0 ≤ 10) h0
  rw [dI_n (fun z => z.1 p)] at e2
  unfold RMQ
  rw [show k - 1 + 1 = k by omega]
  refine ⟨by omega, fun i a => h2 i (by omega), fun i a b c => ?_, by omega⟩
  by_cases z : i = k
  · subst z
    rw [show i + (cN P 0 i.toNat - cN P 0 i.toNat) = i by omega]
    exact h2 i (by omega)
  · have q := h3 i (by omega) b c
    rw [show k + (cN P 0 i.toNat - cN P 0 k.toNat) = k + 1 + (cN P 0 i.toNat - cN P 0 (k + 1).toNat) by omega]
    exact q
theorem RMQ.rem {a : Int} (h : RMQ P W W2 n m k w) (h0 : 0 ≤ k) (hk : k < n) (p : ¬ P k) (ha : (a = 1 ∧ W2 k 0 ≤ 10) ∨ (a = 0 ∧ ¬ W2 k 0 ≤ 10)) (e3 : W3 = toV W2 k) : RMQ P W W3 n (m - 1) (k - 1) (w + a) := by
  obtain ⟨h1, h2, h3, h4⟩ := h
  have e := cN_1s (P := P) h0
  rw [dI_n p] at e
  have e2 := cN_1s (P := fun j => ¬ P j ∧ W j 0 ≤ 10) h0
  rw [h2 k (by omega)] at ha
  unfold RMQ
  rw [show k - 1 + 1 = k by omega]
  refine ⟨by omega, fun i x => ?_, fun i x y c => ?_, ?_⟩
  · rw [e3]; unfold toV; rw [if_pos (by omega)]; exact h2 i (by omega)
  · have z : i ≠ k := fun q => p (by rw [← q]; exact c)
    have q := h3 i (by omega) y c
    have up := cN_up (P := P) (i := k + 1) (j := i) (by omega) (by omega)
    rw [e3]; unfold toV
    rw [if_neg (by omega), show k + (cN P 0 i.toNat - cN P 0 k.toNat) + 1 = k + 1 + (cN P 0 i.toNat - cN P 0 (k + 1).toNat) by omega]
    exact q
  · rcases ha with ⟨x, y⟩ | ⟨x, y⟩
    · rw [dI_y ⟨p, y⟩] at e2; omega
    · rw [dI_n (fun z => y z.2)] at e2; omega
theorem cN_sj (h0 : 0 ≤ n) (hj : 0 ≤ j ∧ j < cN P 0 n.toNat) : ∃ i, (0 ≤ i ∧ i < n) ∧ P i ∧ cN P 0 i.toNat = j := by
  obtain ⟨d, e⟩ : ∃ d : Nat, n = d := ⟨n.toNat, by omega⟩
  subst e
  clear h0
  induction d with
  | zero => have z : cN P 0 ((0 : Nat) : Int).toNat = 0 := rfl; rw [z] at hj; omega
  | succ d ih =>
    have s := cN_1s (P := P) (k := (d : Int)) (by omega)
    rw [show ((d : Int) + 1) = ((d + 1 : Nat) : Int) by omega] at s
    by_cases c : j < cN P 0 ((d : Nat) : Int).toNat
    · obtain ⟨i, a, b, f⟩ := ih ⟨hj.1, c⟩
      exact ⟨i, by omega, b, f⟩
    · by_cases z : P (d : Int)
      · rw [dI_y z] at s
        exact ⟨d, by omega, z, by omega⟩
      · rw [dI_n z] at s
        omega
theorem dr1_t {V : Int → It} (d : Nat) : (dr1 V n d).1 = cN (RCG V n 0 (fun _ => False)) 0 d ∧ (dr1 V n d).2.1 = cN (fun j => ¬ RCG V n 0 (fun _ => False) j ∧ V j 0 ≤ 10) 0 d ∧ (∀ i : Int, 0 ≤ i → i < d → RCG V n 0 (fun _ => False) i → (dr1 V n d).2.2 (cN (RCG V n 0 (fun _ => False)) 0 i.toNat) = V i) ∧ ∀ j : Int, ¬ (0 ≤ j ∧ j < (dr1 V n d).1) → (dr1 V n d).2.2 j = zI := by
  induction d with
  | zero => exact ⟨rfl, rfl, fun i a b => by omega, fun j _ => rfl⟩
  | succ d ih =>
    obtain ⟨h1, h2, h3, h4⟩ := ih
    have s1 : cN (RCG V n 0 (fun _ => False)) 0 (d + 1) = cN (RCG V n 0 (fun _ => False)) 0 d + dI (RCG V n 0 (fun _ => False) (0 + d)) 1 0 := rfl
    have s2 : cN (fun j => ¬ RCG V n 0 (fun _ => False) j ∧ V j 0 ≤ 10) 0 (d + 1) = cN (fun j => ¬ RCG V n 0 (fun _ => False) j ∧ V j 0 ≤ 10) 0 d + dI (¬ RCG V n 0 (fun _ => False) (0 + d) ∧ V (0 + d) 0 ≤ 10) 1 0 := rfl
    rw [Int.zero_add] at s1 s2
    by_cases p : RCG V n 0 (fun _ => False) d
    · have e : dr1 V n (d + 1) = ((dr1 V n d).1 + 1, (dr1 V n d).2.1, uZ (dr1 V n d).2.2 (dr1 V n d).1 (V d)) := dI_y p
      rw [dI_y p] at s1
      rw [dI_n (fun z => z.1 p)] at s2
      rw [e]
      refine ⟨by show (dr1 V n d).1 + 1 = _; omega, by show (dr1 V n d).2.1 = _; omega, fun i a b c => ?_, fun j q => ?_⟩
      · show uZ (dr1 V n d).2.2 (dr1 V n d).1 (V d) _ = _
        by_cases z : i = d
        · rw [z, show ((d : Int)).toNat = d by omega, ← h1, uZ_eq]
        · have up := cN_up (P := RCG V n 0 (fun _ => False)) (i := i + 1) (j := d) (by omega) (by omega)
          rw [cN_1s a, dI_y c, show ((d : Int)).toNat = d by omega] at up
          rw [uZ_ne (by omega)]
          exact h3 i a (by omega) c
      · show uZ (dr1 V n d).2.2 (dr1 V n d).1 (V d) j = _
        have q2 : ¬ (0 ≤ j ∧ j < (dr1 V n d).1 + 1) := q
        have g0 := (cN_0 (P := RCG V n 0 (fun _ => False)) (a := 0) (n := d)).1
        rw [uZ_ne (by omega)]
        exact h4 j (by omega)
    · have e : dr1 V n (d + 1) = ((dr1 V n d).1, (dr1 V n d).2.1 + (if V d 0 ≤ 10 then 1 else 0), (dr1 V n d).2.2) := dI_n p
      rw [dI_n p] at s1
      rw [e]
      refine ⟨by show (dr1 V n d).1 = _; omega, ?_, fun i a b c => ?_, fun j q => h4 j q⟩
      · show (dr1 V n d).2.1 + _ = _
        by_cases z : V d 0 ≤ 10
        · rw [if_pos z]; rw [dI_y ⟨p, z⟩] at s2; omega
        · rw [if_neg z]; rw [dI_n (fun y => z y.2)] at s2; omega
      · have z : i ≠ d := fun y => p (by rw [← y]; exact c)
        exact h3 i a (by omega) c
theorem nrm_z : nrm (fun _ => 0) = zI := by
  funext c
  unfold nrm zI
  by_cases q : c = 12
  · rw [if_neg (fun w => absurd w.2.1 (by decide)), if_pos q]
  · rw [if_neg (fun w => absurd w.2.1 (by decide)), if_neg q]
theorem RMQ.fin (h : RMQ (RCG (vW W) n 0 (fun _ => False)) W W2 n m k w) (hk : k = -1) (hn : 0 ≤ n) (hz : ∀ j, ¬ (0 ≤ j ∧ j < m) → W2 j = fun _ => 0) : dr1 (vW W) n n.toNat = (m, w, vW W2) := by
  obtain ⟨h1, h2, h3, h4⟩ := h
  obtain ⟨d1, d2, d3, d4⟩ := dr1_t (V := vW W) (n := n) n.toNat
  have z0 : cN (RCG (vW W) n 0 (fun _ => False)) 0 (k + 1).toNat = 0 := by rw [hk]; rfl
  have z1 : cN (fun j => ¬ RCG (vW W) n 0 (fun _ => False) j ∧ W j 0 ≤ 10) 0 (k + 1).toNat = 0 := by rw [hk]; rfl
  have e1 : (dr1 (vW W) n n.toNat).1 = m := by omega
  have ec : cN (fun j => ¬ RCG (vW W) n 0 (fun _ => False) j ∧ vW W j 0 ≤ 10) 0 n.toNat = cN (fun j => ¬ RCG (vW W) n 0 (fun _ => False) j ∧ W j 0 ≤ 10) 0 n.toNat := cN_c (fun j _ _ => by rw [vW_0])
  have e2 : (dr1 (vW W) n n.toNat).2.1 = w := by omega
  have e3 : (dr1 (vW W) n n.toNat).2.2 = vW W2 := by
    funext j
    by_cases q : 0 ≤ j ∧ j < m
    · obtain ⟨i, a, b, c⟩ := cN_sj (P := RCG (vW W) n 0 (fun _ => False)) hn (j := j) (by omega)
      have x := d3 i a.1 (by omega) b
      have y := h3 i (by omega) a.2 b
      rw [z0, c, hk, show -1 + 1 + (j - 0) = j by omega] at y
      rw [c] at x
      rw [x]
      show nrm (W i) = nrm (W2 j)
      rw [y]
    · rw [d4 j (by omega)]
      show zI = nrm (W2 j)
      rw [hz j q, nrm_z]
  rw [← e1, ← e2, ← e3]
end RMS
def LUQ (V : Int → It) (n v : Int) : Prop := (v = -1 ∧ ∀ k, 0 ≤ k → k < n → ¬ dead V n k) ∨ lastD V n v
def tvI (x y : It) : It := if x 0 = 0 then swI y (x 3) (x 4) else uZ (uZ (uZ (uZ (uZ y 11 (x 0 + 2)) 3 (x 3)) 4 (x 4)) 5 (x 5)) 6 (x 6)
def TVP (W Wc : Int → It) (k b c : Int) : Prop := Wc = uZ W b (fun q => if 3 ≤ q ∧ q < c then W k q else uZ (W b) 11 (W k 0 + 2) q)
section TVS
variable {W Wc W2 : Int → It} {k b c v : Int} {x y : It}
theorem TVP.nil (e : Wc = uZ W b (uZ (W b) 11 v)) (hv : v = W k 0 + 2) : TVP W Wc k b 3 := by
  unfold TVP
  rw [e, hv]
  congr 1
  funext q
  rw [if_neg (by omega)]
theorem TVP.step (h : TVP W Wc k b c) (hk : k ≠ b) (hc : 3 ≤ c) (hv : v = Wc k c) (e : W2 = uZ Wc b (uZ (Wc b) c v)) : TVP W W2 k b (c + 1) := by
  unfold TVP at h ⊢
  rw [h, uZ_ne hk] at hv
  rw [e, h, uZ_eq, uZ_uZ, hv]
  congr 1
  funext q
  unfold uZ
  dsimp only
  by_cases z : q = c
  · rw [if_pos z, if_pos (by omega), z]
  · rw [if_neg z]
    by_cases y : 3 ≤ q ∧ q < c
    · rw [if_pos y, if_pos (by omega)]
    · rw [if_neg y, if_neg (show ¬ (3 ≤ q ∧ q < c + 1) by omega)]
theorem TVP.fin (h : TVP W Wc k b c) (hc : c = 7) (h0 : W k 0 ≠ 0) : Wc = uZ W b (tvI (W k) (W b)) := by
  unfold TVP at h
  rw [h, hc]
  congr 1
  unfold tvI
  rw [if_neg h0]
  funext q
  unfold uZ
  by_cases q6 : q = 6
  · rw [if_pos q6, if_pos (by omega), q6]
  rw [if_neg q6]
  by_cases q5 : q = 5
  · rw [if_pos q5, if_pos (by omega), q5]
  rw [if_neg q5]
  by_cases q4 : q = 4
  · rw [if_pos q4, if_pos (by omega), q4]
  rw [if_neg q4]
  by_cases q3 : q = 3
  · rw [if_pos q3, if_pos (by omega), q3]
  rw [if_neg q3, if_neg (by omega)]
theorem tv_copy (h0 : W k 0 = 0) {a d : Int} (ha : a = W k 3) (hd : d = W k 4) (e : W2 = uZ W b (swI (W b) a d)) : W2 = uZ W b (tvI (W k) (W b)) := by
  unfold tvI
  rw [if_pos h0, e, ha, hd]
theorem nrm_sw3 {i : It} {w z : Int} (h0 : i 0 = 12) (hw : w = 0 ∨ w = 1 ∨ w = 2) (h5 : i 5 = 0) (h6 : i 6 = 0) : nrm (swI i w z) = uZ (uZ (uZ (nrm i) 11 w) 3 w) 4 z := by
  by_cases e : w = 0
  · subst e
    funext c
    by_cases c12 : c = 12
    · subst c12
      rw [nrm_12]
      show 0 = nrm i 12
      rw [nrm_12]
    have l : nrm (swI i 0 z) c = swI i 0 z c := by
      unfold nrm
      rw [if_neg (fun q => absurd q.2.2 (by rw [swI_11]; decide)), if_neg c12]
    rw [l]
    unfold swI uZ
    by_cases e6 : c = 6
    · rw [if_pos e6, if_neg (by omega), if_neg (by omega), if_neg (by omega), nrm_ne (by omega) c12, e6, h6]
    rw [if_neg e6]
    by_cases e5 : c = 5
    · rw [if_pos e5, if_neg (by omega), if_neg (by omega), if_neg (by omega), nrm_ne (by omega) c12, e5, h5]
    rw [if_neg e5]
    by_cases e4 : c = 4
    · rw [if_pos e4, if_pos e4]
    rw [if_neg e4, if_neg e4]
    by_cases e3 : c = 3
    · rw [if_pos e3, if_pos e3]
    rw [if_neg e3, if_neg e3]
    by_cases e11 : c = 11
    · rw [if_pos e11, if_pos e11]
    rw [if_neg e11, if_neg e11, nrm_ne e3 c12]
  · exact nrm_sw h0 (by omega) h5 h6
theorem nrm_go {i : It} {w : Int} (hw : w ≠ 1 ∧ w ≠ 2) : nrm (swI i w 0) = goI (nrm i) w := by
  funext c
  by_cases c12 : c = 12
  · subst c12
    rw [nrm_12]
    show 0 = nrm i 12
    rw [nrm_12]
  have l : nrm (swI i w 0) c = swI i w 0 c := by
    unfold nrm
    rw [if_neg (fun q => by have z := q.2.2; rw [swI_11] at z; omega), if_neg c12]
  rw [l]
  unfold swI goI uZ
  by_cases e6 : c = 6
  · rw [if_pos e6, if_pos e6]
  rw [if_neg e6, if_neg e6]
  by_cases e5 : c = 5
  · rw [if_pos e5, if_pos e5]
  rw [if_neg e5, if_neg e5]
  by_cases e4 : c = 4
  · rw [if_pos e4, if_pos e4]
  rw [if_neg e4, if_neg e4]
  by_cases e3 : c = 3
  · rw [if_pos e3, if_pos e3]
  rw [if_neg e3, if_neg e3]
  by_cases e11 : c = 11
  · rw [if_pos e11, if_pos e11]
  rw [if_neg e11, if_neg e11, nrm_ne e3 c12]
theorem nrm_tv (hx : iOK x) (h5 : x 0 ≤ 5) (hy : iOK y) (h0 : y 0 = 12) (h11 : y 11 = 2) : nrm (tvI x y) = tkI (nrm x) (nrm y) := by
  have xi : x 0 ≠ 12 := by omega
  obtain ⟨e0, e3, e4, e5, e6⟩ := cells_n xi
  have yy := hy.2.2.2.2 h0 (Or.inr h11)
  unfold tvI tkI
  rw [e0, e3, e4, e5, e6]
  by_cases c0 : x 0 = 0
  · rw [if_pos c0, if_pos c0]
    have k := hx.kd (c := 3) (by omega)
    exact nrm_sw3 h0 (by omega) yy.2.1 yy.2.2.1
  · rw [if_neg c0, if_neg c0]
    have z0 := hx.1
    have w11 : uZ (uZ (uZ (uZ (uZ y 11 (x 0 + 2)) 3 (x 3)) 4 (x 4)) 5 (x 5)) 6 (x 6) 11 = x 0 + 2 := rfl
    funext c
    by_cases c12 : c = 12
    · subst c12
      rw [nrm_12]
      show 0 = nrm y 12
      rw [nrm_12]
    have l : nrm (uZ (uZ (uZ (uZ (uZ y 11 (x 0 + 2)) 3 (x 3)) 4 (x 4)) 5 (x 5)) 6 (x 6)) c = uZ (uZ (uZ (uZ (uZ y 11 (x 0 + 2)) 3 (x 3)) 4 (x 4)) 5 (x 5)) 6 (x 6) c := by
      unfold nrm
      rw [if_neg (fun q => by have z := q.2.2; rw [w11] at z; omega), if_neg c12]
    rw [l]
    unfold uZ
    by_cases e6' : c = 6
    · rw [if_pos e6', if_pos e6']
    rw [if_neg e6', if_neg e6']
    by_cases e5' : c = 5
    · rw [if_pos e5', if_pos e5']
    rw [if_neg e5', if_neg e5']
    by_cases e4' : c = 4
    · rw [if_pos e4', if_pos e4']
    rw [if_neg e4', if_neg e4']
    by_cases e3' : c = 3
    · rw [if_pos e3', if_pos e3']
    rw [if_neg e3', if_neg e3']
    by_cases e11 : c = 11
    · rw [if_pos e11, if_pos e11]
    rw [if_neg e11, if_neg e11, nrm_ne e3' c12]
theorem tv_0 : tvI x y 0 = y 0 := by unfold tvI; split <;> rfl
theorem iOK_tv (hx : iOK x) (h5 : x 0 ≤ 5) (hy : iOK y) (h0 : y 0 = 12) : iOK (tvI x y) := by
  unfold tvI
  by_cases c0 : x 0 = 0
  · rw [if_pos c0]
    exact iOK_sw hy h0 (fun q => hx.op (c := 3) (by omega) q)
  · rw [if_neg c0]
    have z7 := hy.2.2.2.1 (by omega)
    have z0 := hx.1
    have w11 : uZ (uZ (uZ (uZ (uZ y 11 (x 0 + 2)) 3 (x 3)) 4 (x 4)) 5 (x 5)) 6 (x 6) 11 = x 0 + 2 := rfl
    refine ⟨hy.1, fun q => ?_, iOK.ops (hx.2.2.1 0 (by decide) (by decide)) (hx.2.2.1 1 (by decide) (by decide)) (hy.2.2.1 2 (by decide) (by decide)) (hy.2.2.1 3 (by decide) (by decide)), fun _ => z7, fun _ q => by rw [w11] at q; omega⟩
    have q2 : y 0 ≤ 5 ∨ y 0 = 10 := q
    omega
end TVS
def NRQ (W : Int → It) (n k m : Int) : Prop := (k < m ∧ m ≤ n) ∧ (∀ j, k < j → j < m → W j 0 = 11 ∨ W j 0 = 12) ∧ (m = n ∨ ¬ (W m 0 = 11 ∨ W m 0 = 12))
noncomputable def lbI (W : Int → It) (n k m : Int) (S : Int → Int) (j : Int) : It := dI (S j ≠ 0 ∧ lnW W n j (W k 1)) (if k < j ∧ j < m ∧ W j 11 = 2 then tvI (W k) (W j) else swI (W j) 12 0) (W j)
def LBP (W Wc : Int → It) (n k m : Int) (S : Int → Int) (i : Int) : Prop := ∀ j, Wc j = if 0 ≤ j ∧ j < i then lbI W n k m S j else W j
section LBS
variable {W Wc W2 : Int → It} {n k m i r v : Int} {S : Int → Int}
theorem LBP.nil : LBP W W n k m S 0 := fun j => by rw [if_neg (by omega)]
theorem LBP.at (h : LBP W Wc n k m S i) : Wc i = W i := by rw [h i, if_neg (by omega)]
theorem LBP.kk (h : LBP W Wc n k m S i) (hk : W k 0 ≠ 12) : Wc k = W k := by
  rw [h k]
  by_cases z : 0 ≤ k ∧ k < i
  · rw [if_pos z]
    exact dI_n (fun q => hk q.2.2.1)
  · rw [if_neg z]
theorem ln_eq {W Wc : Int → It} {n i r : Int} (e : Wc i = W i) : lnW Wc n i r ↔ lnW W n i r := by unfold lnW; rw [e]
theorem LBP.no (h : LBP W Wc n k m S i) (h0 : 0 ≤ i) (q : ¬ (S i ≠ 0 ∧ lnW Wc n i r)) (hr : r = W k 1) : LBP W Wc n k m S (i + 1) := fun j => by
  rw [h j]
  by_cases z : 0 ≤ j ∧ j < i
  · rw [if_pos z, if_pos (by omega)]
  · rw [if_neg z]
    by_cases y : j = i
    · rw [if_pos (by omega), y]
      exact (dI_n (fun w => q ⟨w.1, (ln_eq h.at).mpr (by rw [hr]; exact w.2)⟩)).symm
    · rw [if_neg (by omega)]
theorem LBP.put {t : It} (h : LBP W Wc n k m S i) (h0 : 0 ≤ i) (e : W2 = uZ Wc i t) (ht : t = lbI W n k m S i) : LBP W W2 n k m S (i + 1) := fun j => by
  rw [e]
  by_cases y : j = i
  · rw [y, uZ_eq, if_pos (by omega), ht]
  · rw [uZ_ne y, h j]
    by_cases z : 0 ≤ j ∧ j < i
    · rw [if_pos z, if_pos (by omega)]
    · rw [if_neg z, if_neg (by omega)]
theorem LBP.take (h : LBP W Wc n k m S i) (h0 : 0 ≤ i) (hk : W k 0 ≠ 12) (q : S i ≠ 0) (q2 : lnW Wc n i r) (hr : r = W k 1) (c : k < i ∧ i < m) (hv : v = Wc i 11) (h2 : v = 2) (e : W2 = uZ Wc i (tvI (Wc k) (Wc i))) : LBP W W2 n k m S (i + 1) := by
  refine h.put h0 e ?_
  rw [h.kk hk, h.at]
  rw [h.at] at hv
  unfold lbI
  rw [dI_y ⟨q, by rw [← hr]; exact (ln_eq h.at).mp q2⟩, if_pos ⟨c.1, c.2, by rw [← hv]; exact h2⟩]
theorem LBP.gone (h : LBP W Wc n k m S i) (h0 : 0 ≤ i) (q : S i ≠ 0) (q2 : lnW Wc n i r) (hr : r = W k 1) (c : ¬ (k < i ∧ i < m ∧ Wc i 11 = 2)) (e : W2 = uZ Wc i (swI (Wc i) 12 0)) : LBP W W2 n k m S (i + 1) := by
  refine h.put h0 e ?_
  rw [h.at] at c ⊢
  unfold lbI
  rw [dI_y ⟨q, by rw [← hr]; exact (ln_eq h.at).mp q2⟩, if_neg c]
theorem near_r {V : Int → It} {B : Int → Prop} (hn : m ≤ n) (h : ∀ j, k < j → j < m → V j 0 = 11 ∨ V j 0 = 12) (hB : ∀ j, B j → V j 0 ≤ 5 ∨ V j 0 = 10) (h0 : 0 ≤ k) (a : k < i) (b : i < m) : RCG V n (k + 1) B i := by
  obtain ⟨d, e⟩ : ∃ d : Nat, i = k + 1 + d := ⟨(i - k - 1).toNat, by omega⟩
  subst e
  induction d with
  | zero => rw [show k + 1 + ((0 : Nat) : Int) = k + 1 by omega]; exact RCG.z
  | succ d ih =>
    have q := ih (by omega) (by omega)
    have z := h (k + 1 + d) (by omega) (by omega)
    have s := q.s (t := k + 1 + d + 1) (by omega) (by omega) (fun y => by have := hB _ y; omega) (Or.inl ⟨by omega, rfl⟩)
    rw [show k + 1 + ((d + 1 : Nat) : Int) = k + 1 + d + 1 by omega]
    exact s
theorem LBP.fin (h : LBP W Wc n k m S i) (hi : n ≤ i) (hw : WOK W n) (hk : 0 ≤ k ∧ k < n) (h5 : W k 0 ≤ 5) (hm : NRQ W n k m) (hS : ∀ j, 0 ≤ j → j < n → (S j ≠ 0 ↔ RCG (vW W) n (k + 1) (fun j => wrT (vW W j) (W k 1)) j)) (hz : ∀ j, ¬ (0 ≤ j ∧ j < n) → W j = fun _ => 0) : vW Wc = rbV (vW W) n k := by
  funext j
  have wk := hw k hk.1 hk.2
  have nz : ¬ (0 ≤ j ∧ j < n) → vW Wc j = vW W j := fun z => by
    show nrm (Wc j) = nrm (W j)
    rw [h j]
    by_cases y : 0 ≤ j ∧ j < i
    · rw [if_pos y]
      have : lbI W n k m S j = W j := dI_n (fun q => z q.2.1)
      rw [this]
    · rw [if_neg y]
  unfold rbV
  by_cases z : 0 ≤ j ∧ j < n
  · have wj := hw j z.1 z.2
    have e : Wc j = lbI W n k m S j := by rw [h j, if_pos (by omega)]
    have nr : nrV (vW W) n k j ↔ k < j ∧ j < m := by
      unfold nrV
      constructor
      · rintro ⟨a, b, c⟩
        refine ⟨a, ?_⟩
        by_cases y : j < m
        · exact y
        · rcases hm.2.2 with q | q
          · omega
          · exact absurd (by have := c m hm.1.1 (by omega); rw [vW_0] at this; exact this) q
      · rintro ⟨a, b⟩
        exact ⟨a, by omega, fun u x y => by rw [vW_0]; exact hm.2.1 u x (by omega)⟩
    show nrm (Wc j) = _
    rw [e]
    unfold lbI
    rw [vW_0, vW_1, vW_ne (c := 11) (by decide) (by decide), vW_ne (c := 4) (by decide) (by decide)]
    have sj := hS j z.1 z.2
    have ln := lnW_iff (W := W) (n := n) (k := j) (g := W k 1) wj z
    by_cases cA : nrV (vW W) n k j ∧ W j 0 = 12 ∧ W j 11 = 2 ∧ W j 4 = W k 1
    · rw [dI_y cA]
      have kj := nr.mp cA.1
      have l : lnW W n j (W k 1) := ⟨z, cA.2.1, Or.inl ⟨cA.2.2.1, cA.2.2.2⟩⟩
      have r1 : RCG (vW W) n (k + 1) (fun j => wrT (vW W j) (W k 1)) j := near_r hm.1.2 (fun u x y => by rw [vW_0]; exact hm.2.1 u x y) (fun u y => y.1) hk.1 kj.1 kj.2
      rw [dI_y ⟨sj.mpr r1, l⟩, if_pos ⟨kj.1, kj.2, cA.2.2.1⟩]
      exact nrm_tv wk h5 wj cA.2.1 cA.2.2.1
    · rw [dI_n cA]
      by_cases cB : (0 ≤ j ∧ j < n) ∧ RCG (vW W) n (k + 1) (fun j => wrT (vW W j) (W k 1)) j ∧ W j 0 = 12 ∧ rdI (vW W j) (W k 1)
      · rw [dI_y cB]
        have l := ln.mpr cB.2.2
        rw [dI_y ⟨sj.mpr cB.2.1, l⟩]
        have c3 : ¬ (k < j ∧ j < m ∧ W j 11 = 2) := fun q => cA ⟨nr.mpr ⟨q.1, q.2.1⟩, cB.2.2.1, q.2.2, by
          rcases l.2.2 with y | y
          · exact y.2
          · exact absurd q.2.2 y.1⟩
        rw [if_neg c3]
        exact nrm_go ⟨by decide, by decide⟩
      · rw [dI_n cB, dI_n (fun q => cB ⟨z, sj.mp q.1, ln.mp q.2⟩)]
        rfl
  · rw [nz z, dI_n (fun q => z (by have := q.1.1; have := q.1.2.1; omega)), dI_n (fun q => z q.1)]
theorem LBP.wok (h : LBP W Wc n k m S i) (hi : n ≤ i) (hw : WOK W n) (hM : MOK W n) (hk : 0 ≤ k ∧ k < n) (h5 : W k 0 ≤ 5) : WOK Wc n ∧ MOK Wc n ∧ Wc k = W k := by
  have wk := hw k hk.1 hk.2
  refine ⟨fun j a b => ?_, fun j a b c => ?_, h.kk (by omega)⟩
  · rw [h j, if_pos (by omega)]
    unfold lbI
    by_cases q : S j ≠ 0 ∧ lnW W n j (W k 1)
    · rw [dI_y q]
      have j12 := q.2.2.1
      by_cases y : k < j ∧ j < m ∧ W j 11 = 2
      · rw [if_pos y]; exact iOK_tv wk h5 (hw j a b) j12
      · rw [if_neg y]; exact iOK_sw (hw j a b) j12 (fun z => absurd z (by decide))
    · rw [dI_n q]; exact hw j a b
  · rw [h j, if_pos (by omega)] at c ⊢
    unfold lbI at c ⊢
    by_cases q : S j ≠ 0 ∧ lnW W n j (W k 1)
    · rw [dI_y q] at c
      have j12 := q.2.2.1
      exfalso
      by_cases y : k < j ∧ j < m ∧ W j 11 = 2
      · rw [if_pos y, tv_0] at c; omega
      · rw [if_neg y, swI_0] at c; omega
    · rw [dI_n q] at c ⊢; exact hM j a b c
theorem MOK.rem (h : MOK W n) (hk : 0 ≤ k) : MOK (toV W k) (n - 1) := fun j a b => by
  unfold toV
  by_cases z : j < k
  · rw [if_pos z]; exact h j a (by omega)
  · rw [if_neg z]; exact h (j + 1) (by omega) (by omega)
theorem LKE.mok (h : LKE W W2) (hm : MOK W n) : MOK W2 n := fun j a b c => by
  rw [h j 0 (by decide)] at c
  rw [h j 3 (by decide), h j 5 (by decide)]
  exact hm j a b c
theorem vW_to : vW (toV W k) = toV (vW W) k := by
  funext i
  show nrm (toV W k i) = _
  unfold toV
  by_cases z : i < k
  · rw [if_pos z, if_pos z]; rfl
  · rw [if_neg z, if_neg z]; rfl
theorem rbq_w (hw : WOK W n) (h5 : W k 0 ≤ 5) (hk : 0 ≤ k ∧ k < n) : RBQ W n (W k 1) (fun j => wrT (vW W j) (W k 1)) := fun j v a b w => by
  have wk := hw k hk.1 hk.2
  have r := wk.2.1 (Or.inl h5)
  have q := wb_wr (g := W k 1) (hw j a b) ⟨a, b⟩ w
  show wrT (vW W j) (W k 1) ↔ _
  rw [wrT_v, ← q]
  exact ⟨fun y => ⟨by omega, y.1.symm⟩, fun y => ⟨y.2.symm, by omega⟩⟩
theorem rbq_0 : RBQ W n (-1) (fun _ => False) := fun j v a b w => ⟨fun q => q.elim, fun q => q.1 rfl⟩
def DRI (V1 : Int → It) (n1 : Int) (W : Int → It) (n t : Int) : Prop := 0 ≤ t ∧ DRT t.toNat V1 n1 (vW W) n ∧ WOK W n ∧ MOK W n ∧ LNK W n ∧ UNQ (vW W) n ∧ n = n1 - t
theorem DRI.step {V1 : Int → It} {n1 t : Int} {W1 W3 : Int → It} (h : DRI V1 n1 W n t) (l : lastD (vW W) n k) (e1 : vW W1 = rbV (vW W) n k) (w1 : WOK W1 n ∧ MOK W1 n) (e2 : W2 = toV W1 k) (e3 : LKE W2 W3) (e4 : LNK W3 (n - 1)) : DRI V1 n1 W3 (n - 1) (t + 1) := by
  obtain ⟨h0, h1, h2, h3, h4, h5, h6⟩ := h
  have v3 : vW W3 = toV (rbV (vW W) n k) k := by rw [e3.vw, e2, vW_to, e1]
  refine ⟨by omega, ?_, e3.wok (by rw [e2]; exact w1.1.rem l.1), e3.mok (by rw [e2]; exact w1.2.rem l.1), e4, by rw [v3]; exact h5.out, by omega⟩
  rw [show (t + 1).toNat = t.toNat + 1 by omega]
  exact ⟨vW W, n, k, h1, l, v3, rfl⟩
theorem DRX.of {V : Int → It} {n0 w0 w t n1 : Int} {V1 : Int → It} (h : DRI V1 n1 W n t) (e : dr1 V n0 n0.toNat = (n1, w0, V1)) (hl : ∀ k, 0 ≤ k → k < n → ¬ dead (vW W) n k) (hw : w = w0 + t) : DRX V n0 (vW W) n w := by
  refine ⟨t.toNat, ?_, fun k q => hl k q.1 q.2.1 q.2.2.1, ?_⟩
  · rw [e]; exact h.2.1
  · rw [e]; have := h.1; show w = w0 + ((t.toNat : Nat) : Int); omega
end LBS
end
section
set_option maxHeartbeats 1000000 in
set_option maxRecDepth 20000 in
theorem l_X2_takeOver_x_45 (d : Nat) {T : CT} {σ0 : MS} {rx1 : Nat} {c2 : Int} {c3 : Int} {x : Nat} {n : Int} {W : Int → It} {post : Option Value → CT → MS → Prop} (h_rx1 : OB T rx1 1) (t_rx1 : (T rx1).1 = 50) (r_c2 : 0 ≤ c2 ∧ c2 ≤ 200) (r_c3 : 0 ≤ c3 ∧ c3 ≤ 200) (hw0 : WT T σ0) (hk : (0 ≤ c2 ∧ c2 < n) ∧ (0 ≤ c3 ∧ c3 < n) ∧ c2 ≠ c3) (hx : σ0.2.1 5 rx1 = (x : Int)) (hn : σ0.2.1 6 rx1 = n) (hN : n ≤ 200) (hx_72 : ∀ (i5 : Int) (σ : MS) , (WT T σ) → (FrC T [] σ0 σ) → (3 ≤ i5 ∧ i5 ≤ 7) → (CHX [] [x] [] σ0 σ) → (TVP W (cW σ x n) c2 c3 i5) → (3 ≤ i5 ∧ i5 ≤ 7) → (7 ≤ i5) → Tn (d + 3) m_X2_takeOver 72 T σ [(1, .ref rx1), (2, .int (iI c2)), (3, .int (iI c3)), (5, .int (iI i5))] [] post) : ∀ (nq9 : Nat) (i5 : Int) (σ : MS) , (WT T σ) → (FrC T [] σ0 σ) → (3 ≤ i5 ∧ i5 ≤ 7) → (CHX [] [x] [] σ0 σ) → (TVP W (cW σ x n) c2 c3 i5) → (3 ≤ i5 ∧ i5 ≤ 7) → (2147483700 - i5).toNat = nq9 → Tn (d + 3) m_X2_takeOver 45 T σ [(1, .ref rx1), (2, .int (iI c2)), (3, .int (iI c3)), (5, .int (iI i5))] [] post := by
  intro nq9
  induction nq9 using Nat.strongRecOn with
  | _ nq9 ih =>
    intro i5 σ hw hF r_i5 hC hT h5 hm
    refine tn_iload dX2_takeOver_45 3 rfl ?_
    refine tn_bipush dX2_takeOver_47 (by decide) ?_
    refine tn_icmp_gt (tgt := 72) dX2_takeOver_49 (by decide) ⟨by omega, by omega⟩ ⟨by decide, by decide⟩ (fun h1 => ?_) (fun h1 => ?_)
    · exact tn_sub [0, 1, 2, 3] rfl (hx_72 (i5) σ hw (FrC.rfl.trans (FrC.sub hF (by decide))) (by omega) hC hT (by omega) (by omega))
    · refine tn_aload_n dX2_takeOver_52 rfl 0 rfl ?_
      refine tn_iload_n dX2_takeOver_53 rfl 2 rfl ?_
      refine tn_iload dX2_takeOver_54 3 rfl ?_
      refine tn_aload_n dX2_takeOver_56 rfl 0 rfl ?_
      refine tn_iload_n dX2_takeOver_57 rfl 1 rfl ?_
      refine tn_iload dX2_takeOver_58 3 rfl ?_
      obtain ⟨hl5, hk4a, hk4b⟩ := cel_of (wf_5 hw0 h_rx1) hx
      have hk4 : (T x).1 = 1 := hk4a (by omega)
      clear hk4a hk4b
      have hk4i : IA T x := by unfold IA; omega
      refine tn_callV (M := m_X2_takeOver) (pc := 60) (ix := 53) (ci := 1) (M' := m_X1_get) (As := [.int (iI c2), .int (iI i5)]) (rest := [.int (iI i5), .int (iI c3), .ref rx1]) dX2_takeOver_60 ok_X1_get im_X1_get se_X1_get ml2_53 np_X1_get rfl rfl h_rx1 rfl (Nat.le_of_ble_eq_true rfl) (Nat.le_of_ble_eq_true rfl) rfl (k_X1_get_x (d + 1) (T := T) (σ := σ) (a := rx1) (k := c2) (c := i5) (x := x) (n := n) (W := cW σ x n) h_rx1 (by omega) (by omega) hw (rc_F hF (Or.inl (by decide)) (by decide) (hx)) (rc_F hF (Or.inl (by decide)) (by decide) (hn)) rfl (by omega) (by omega)) (fun r6 T8 σ7 gt9 hp => ?_)
      obtain ⟨v12, rfl, rfl, rfl, f10, f11⟩ := hp
      clear gt9
      show Tn _ _ 63 T σ [(1, .ref rx1), (2, .int (iI c2)), (3, .int (iI c3)), (5, .int (iI i5))] [.int (iI v12), .int (iI i5), .int (iI c3), .ref rx1] _
      refine tn_callV (M := m_X2_takeOver) (pc := 63) (ix := 77) (ci := 1) (M' := m_X1_set) (As := [.int (iI c3), .int (iI i5), .int (iI v12)]) (rest := []) dX2_takeOver_63 ok_X1_set im_X1_set se_X1_set ml2_77 np_X1_set rfl rfl h_rx1 rfl (Nat.le_of_ble_eq_true rfl) (Nat.le_of_ble_eq_true rfl) rfl (k_X1_set_x (d + 1) (T := T) (σ := σ) (a := rx1) (k := c3) (c := i5) (y := v12) (x := x) (n := n) (W := cW σ x n) h_rx1 (by omega) (by omega) (by omega) hw (rc_F hF (Or.inl (by decide)) (by decide) (hx)) (rc_F hF (Or.inl (by decide)) (by decide) (hn)) rfl (by omega) (by omega) (by omega) (by omega)) (fun r13 T15 σ14 gt16 hp => ?_)
      obtain ⟨rfl, rfl, w20, F21, f17, f18⟩ := hp
      clear gt16
      show Tn _ _ 66 T σ14 [(1, .ref rx1), (2, .int (iI c2)), (3, .int (iI c3)), (5, .int (iI i5))] [] _
      refine tn_iinc (q0 := 3) (L' := [(5, .int (iI (i5 + 1))), (1, .ref rx1), (2, .int (iI c2)), (3, .int (iI c3))]) dX2_takeOver_66 rfl (by decide) rfl ?_
      refine tn_goto (tgt := 45) dX2_takeOver_69 (by decide) ?_
      exact tn_sub [1, 2, 3, 0] rfl (ih _ (by omega) (i5 + 1) σ14 w20 ((FrC.rfl.trans (FrC.sub hF (by decide))).trans (FrC.sub F21 (by decide))) (by omega) (hC.trans (CHX.sub f17 (by simp) (by simp) (by simp))) (hT.step (by omega) (by omega) f11 f18) (by omega) rfl)
set_option maxHeartbeats 1000000 in
set_option maxRecDepth 20000 in
theorem k_X2_takeOver_x (d : Nat) {T : CT} {σ : MS} {a : Nat} {p1 : Nat} {p2 : Int} {p3 : Int} {x : Nat} {n : Int} {W : Int → It} (ha : OB T a 2) (h_p1 : OB T p1 1) (t_p1 : (T p1).1 = 50) (h_p2 : -2147483648 ≤ p2 ∧ p2 ≤ 2147483647) (h_p3 : -2147483648 ≤ p3 ∧ p3 ≤ 2147483647) (hw : WT T σ) (hx : σ.2.1 5 p1 = (x : Int)) (hn : σ.2.1 6 p1 = n) (hW : cW σ x n = W) (hN : n ≤ 200) (hk : (0 ≤ p2 ∧ p2 < n) ∧ (0 ≤ p3 ∧ p3 < n) ∧ p2 ≠ p3) (hp5 : 0 ≤ W p2 0 ∧ W p2 0 ≤ 5) : Tn (d + 3) m_X2_takeOver 0 T σ [(0, .ref a), (1, .ref p1), (2, .int (iI p2)), (3, .int (iI p3))] [] (fun ro T2 σ2 => ro = none ∧ T = T2 ∧ WT T2 σ2 ∧ FrC T [] σ σ2 ∧ (CHX [] [x] [] σ σ2) ∧ (cW σ2 x n = uZ W p3 (tvI (W p2) (W p3)))) := by
  refine tn_aload_n dX2_takeOver_0 rfl 1 rfl ?_
  refine tn_iload_n dX2_takeOver_1 rfl 2 rfl ?_
  refine tn_iconst dX2_takeOver_2 ?_
  obtain ⟨hl4, hk3a, hk3b⟩ := cel_of (wf_5 hw h_p1) hx
  have hk3 : (T x).1 = 1 := hk3a (by omega)
  clear hk3a hk3b
  have hk3i : IA T x := by unfold IA; omega
  refine tn_callV (M := m_X2_takeOver) (pc := 3) (ix := 53) (ci := 1) (M' := m_X1_get) (As := [.int (iI p2), .int (iI 0)]) (rest := []) dX2_takeOver_3 ok_X1_get im_X1_get se_X1_get ml2_53 np_X1_get rfl rfl h_p1 rfl (Nat.le_of_ble_eq_true rfl) (Nat.le_of_ble_eq_true rfl) rfl (k_X1_get_x (d + 1) (T := T) (σ := σ) (a := p1) (k := p2) (c := 0) (x := x) (n := n) (W := W) h_p1 (by omega) (by decide) hw (hx) (hn) hW (by omega) (by omega)) (fun r5 T7 σ6 gt8 hp => ?_)
  obtain ⟨v11, rfl, rfl, rfl, f9, f10⟩ := hp
  clear gt8
  show Tn _ _ 6 T σ [(0, .ref a), (1, .ref p1), (2, .int (iI p2)), (3, .int (iI p3))] [.int (iI v11)] _
  refine tn_istore (L' := [(4, .int (iI v11)), (0, .ref a), (1, .ref p1), (2, .int (iI p2)), (3, .int (iI p3))]) dX2_takeOver_6 (by decide) rfl ?_
  refine tn_iload dX2_takeOver_8 0 rfl ?_
  refine tn_if_ne (tgt := 31) dX2_takeOver_10 (by decide) ⟨by omega, by omega⟩ (fun h12 => ?_) (fun h12 => ?_)
  · refine tn_aload_n dX2_takeOver_31 rfl 2 rfl ?_
    refine tn_iload_n dX2_takeOver_32 rfl 4 rfl ?_
    refine tn_bipush dX2_takeOver_33 (by decide) ?_
    refine tn_iconst dX2_takeOver_35 ?_
    refine tn_iload dX2_takeOver_36 0 rfl ?_
    refine tn_iadd dX2_takeOver_38 ?_
    refine tn_callV (M := m_X2_takeOver) (pc := 39) (ix := 77) (ci := 1) (M' := m_X1_set) (As := [.int (iI p3), .int (iI 11), .int (iI (2 + v11))]) (rest := []) dX2_takeOver_39 ok_X1_set im_X1_set se_X1_set ml2_77 np_X1_set rfl rfl h_p1 rfl (Nat.le_of_ble_eq_true rfl) (Nat.le_of_ble_eq_true rfl) rfl (k_X1_set_x (d + 1) (T := T) (σ := σ) (a := p1) (k := p3) (c := 11) (y := 2 + v11) (x := x) (n := n) (W := W) h_p1 (by omega) (by decide) (by omega) hw (hx) (hn) hW (by omega) (by omega) (by omega) (by omega)) (fun r13 T15 σ14 gt16 hp => ?_)
    obtain ⟨rfl, rfl, w20, F21, f17, f18⟩ := hp
    clear gt16
    show Tn _ _ 42 T σ14 [(4, .int (iI v11)), (0, .ref a), (1, .ref p1), (2, .int (iI p2)), (3, .int (iI p3))] [] _
    refine tn_iconst dX2_takeOver_42 ?_
    refine tn_istore (L' := [(5, .int (iI 3)), (4, .int (iI v11)), (0, .ref a), (1, .ref p1), (2, .int (iI p2)), (3, .int (iI p3))]) dX2_takeOver_43 (by decide) rfl ?_
    refine tn_sub [3, 4, 5, 0] rfl (l_X2_takeOver_x_45 (d) (T := T) (σ0 := σ14) (rx1 := p1) (c2 := p2) (c3 := p3) (x := x) (n := n) (W := W) h_p1 t_p1 (by omega) (by omega) w20 (by omega) (rc_F F21 (Or.inl (by decide)) (by decide) (hx)) (rc_F F21 (Or.inl (by decide)) (by decide) (hn)) hN (fun i522 σ23 w26 F27 r28 f29 f30 f31 f32 => ?_) _ (3) σ14 w20 FrC.rfl (by omega) CHX.rfl (TVP.nil f18 (by omega)) (by omega) rfl)
    show Tn _ _ 72 T σ23 [(1, .ref p1), (2, .int (iI p2)), (3, .int (iI p3)), (5, .int (iI i522))] [] _
    exact tn_vret rfl dX2_takeOver_72 ⟨rfl, rfl, w26, ((FrC.rfl.trans (FrC.sub F21 (by decide))).trans (FrC.sub F27 (by decide))), ((CHX.rfl.trans (CHX.sub f17 (by simp) (by simp) (by simp))).trans (CHX.sub f29 (by simp) (by simp) (by simp))), (f30.fin (by omega) (by omega))⟩
  · refine tn_aload_n dX2_takeOver_13 rfl 2 rfl ?_
    refine tn_iload_n dX2_takeOver_14 rfl 4 rfl ?_
    refine tn_aload_n dX2_takeOver_15 rfl 2 rfl ?_
    refine tn_iload_n dX2_takeOver_16 rfl 3 rfl ?_
    refine tn_iconst dX2_takeOver_17 ?_
    refine tn_callV (M := m_X2_takeOver) (pc := 18) (ix := 53) (ci := 1) (M' := m_X1_get) (As := [.int (iI p2), .int (iI 3)]) (rest := [.int (iI p3), .ref p1]) dX2_takeOver_18 ok_X1_get im_X1_get se_X1_get ml2_53 np_X1_get rfl rfl h_p1 rfl (Nat.le_of_ble_eq_true rfl) (Nat.le_of_ble_eq_true rfl) rfl (k_X1_get_x (d + 1) (T := T) (σ := σ) (a := p1) (k := p2) (c := 3) (x := x) (n := n) (W := W) h_p1 (by omega) (by decide) hw (hx) (hn) hW (by omega) (by omega)) (fun r33 T35 σ34 gt36 hp => ?_)
    obtain ⟨v39, rfl, rfl, rfl, f37, f38⟩ := hp
    clear gt36
    show Tn _ _ 21 T σ [(4, .int (iI v11)), (0, .ref a), (1, .ref p1), (2, .int (iI p2)), (3, .int (iI p3))] [.int (iI v39), .int (iI p3), .ref p1] _
    refine tn_aload_n dX2_takeOver_21 rfl 2 rfl ?_
    refine tn_iload_n dX2_takeOver_22 rfl 3 rfl ?_
    refine tn_iconst dX2_takeOver_23 ?_
    refine tn_callV (M := m_X2_takeOver) (pc := 24) (ix := 53) (ci := 1) (M' := m_X1_get) (As := [.int (iI p2), .int (iI 4)]) (rest := [.int (iI v39), .int (iI p3), .ref p1]) dX2_takeOver_24 ok_X1_get im_X1_get se_X1_get ml2_53 np_X1_get rfl rfl h_p1 rfl (Nat.le_of_ble_eq_true rfl) (Nat.le_of_ble_eq_true rfl) rfl (k_X1_get_x (d + 1) (T := T) (σ := σ) (a := p1) (k := p2) (c := 4) (x := x) (n := n) (W := W) h_p1 (by omega) (by decide) hw (hx) (hn) hW (by omega) (by omega)) (fun r40 T42 σ41 gt43 hp => ?_)
    obtain ⟨v46, rfl, rfl, rfl, f44, f45⟩ := hp
    clear gt43
    show Tn _ _ 27 T σ [(4, .int (iI v11)), (0, .ref a), (1, .ref p1), (2, .int (iI p2)), (3, .int (iI p3))] [.int (iI v46), .int (iI v39), .int (iI p3), .ref p1] _
    refine tn_callV (M := m_X2_takeOver) (pc := 27) (ix := 73) (ci := 1) (M' := m_X1_setWhere) (As := [.int (iI p3), .int (iI v39), .int (iI v46)]) (rest := []) dX2_takeOver_27 ok_X1_setWhere im_X1_setWhere se_X1_setWhere ml2_73 np_X1_setWhere rfl rfl h_p1 rfl (Nat.le_of_ble_eq_true rfl) (Nat.le_of_ble_eq_true rfl) rfl (k_X1_setWhere_x (d) (T := T) (σ := σ) (a := p1) (k := p3) (y := v39) (z := v46) (x := x) (n := n) (W := W) h_p1 (by omega) (by omega) (by omega) hw (hx) (hn) hW (by omega) (by omega)) (fun r47 T49 σ48 gt50 hp => ?_)
    obtain ⟨rfl, rfl, w54, F55, f51, f52⟩ := hp
    clear gt50
    show Tn _ _ 30 T σ48 [(4, .int (iI v11)), (0, .ref a), (1, .ref p1), (2, .int (iI p2)), (3, .int (iI p3))] [] _
    exact tn_vret rfl dX2_takeOver_30 ⟨rfl, rfl, w54, (FrC.rfl.trans (FrC.sub F55 (by decide))), (CHX.rfl.trans (CHX.sub f51 (by simp) (by simp) (by simp))), (tv_copy (by omega) f38 f45 f52)⟩
end
section
set_option maxHeartbeats 1000000 in
set_option maxRecDepth 20000 in
theorem l_X2_lastUnread_x_7 (d : Nat) {T : CT} {σ : MS} {a : Nat} {rx1 : Nat} {x : Nat} {n : Int} {W : Int → It} {fl : Nat} {xa : Nat} {La : Int → Int64} {post : Option Value → CT → MS → Prop} (h_a : OB T a 2) (h_rx1 : OB T rx1 1) (t_rx1 : (T rx1).1 = 50) (hw : WT T σ) (hn0 : 0 ≤ n) (hx : σ.2.1 5 rx1 = (x : Int)) (hn : σ.2.1 6 rx1 = n) (hW : cW σ x n = W) (hfl : σ.2.1 17 a = (fl : Int)) (hxa : σ.2.1 18 fl = (xa : Int)) (hLa : σ.2.2 xa = La) (hN : n ≤ 200) (hwok : WOK W n) (hlv : LIVE (vW W) n La) (hx_42 : ∀ (i2 : Int) , (-1 ≤ i2 ∧ i2 ≤ 200) → (True) → (i2 < n) → (LUQ (vW W) n i2) → Tn (d + 4) m_X2_lastUnread 42 T σ [(0, .ref a), (1, .ref rx1), (2, .int (iI i2))] [] post) (hx_50 : ∀ (i2 : Int) , (-1 ≤ i2 ∧ i2 ≤ 200) → (True) → (i2 < n) → (LUQ (vW W) n (-1)) → Tn (d + 4) m_X2_lastUnread 50 T σ [(0, .ref a), (1, .ref rx1), (2, .int (iI i2))] [] post) : ∀ (nq9 : Nat) (i2 : Int) , (-1 ≤ i2 ∧ i2 ≤ 200) → (∀ i, i2 < i → i < n → ¬ dead (vW W) n i) → (i2 < n) → (i2 + 20).toNat = nq9 → Tn (d + 4) m_X2_lastUnread 7 T σ [(0, .ref a), (1, .ref rx1), (2, .int (iI i2))] [] post := by
  intro nq9
  induction nq9 using Nat.strongRecOn with
  | _ nq9 ih =>
    intro i2 r_i2 hU_ h2 hm
    refine tn_iload_n dX2_lastUnread_7 rfl 2 rfl ?_
    refine tn_if_lt (tgt := 50) dX2_lastUnread_8 (by decide) ⟨by omega, by omega⟩ (fun h1 => ?_) (fun h1 => ?_)
    · exact tn_sub [0, 1, 2] rfl (hx_50 (i2) (by omega) True.intro (by omega) (Or.inl ⟨rfl, fun i a b => hU_ i (by omega) b⟩))
    · refine tn_aload_n dX2_lastUnread_11 rfl 1 rfl ?_
      refine tn_iload_n dX2_lastUnread_12 rfl 2 rfl ?_
      refine tn_iconst dX2_lastUnread_13 ?_
      obtain ⟨hl5, hk4a, hk4b⟩ := cel_of (wf_5 hw h_rx1) hx
      have hk4 : (T x).1 = 1 := hk4a (by omega)
      clear hk4a hk4b
      have hk4i : IA T x := by unfold IA; omega
      refine tn_callV (M := m_X2_lastUnread) (pc := 14) (ix := 53) (ci := 1) (M' := m_X1_get) (As := [.int (iI i2), .int (iI 0)]) (rest := []) dX2_lastUnread_14 ok_X1_get im_X1_get se_X1_get ml2_53 np_X1_get rfl rfl h_rx1 rfl (Nat.le_of_ble_eq_true rfl) (Nat.le_of_ble_eq_true rfl) rfl (k_X1_get_x (d + 2) (T := T) (σ := σ) (a := rx1) (k := i2) (c := 0) (x := x) (n := n) (W := W) h_rx1 (by omega) (by decide) hw (hx) (hn) hW (by omega) (by omega)) (fun r6 T8 σ7 gt9 hp => ?_)
      obtain ⟨v12, rfl, rfl, rfl, f10, f11⟩ := hp
      clear gt9
      show Tn _ _ 17 T σ [(0, .ref a), (1, .ref rx1), (2, .int (iI i2))] [.int (iI v12)] _
      refine tn_callSN (M := m_X2_lastUnread) (pc := 17) (ix := 60) (M' := m_X11_isPure) (As := [.int (iI v12)]) (rest := []) dX2_lastUnread_17 ok_X11_isPure stt_X11_isPure nl2_60 np_X11_isPure rfl (Nat.le_of_ble_eq_true rfl) (Nat.le_of_ble_eq_true rfl) rfl (k_X11_isPure_x (d + 2) (T := T) (σ := σ) (k := v12) (by omega) hw ) (fun r13 T15 σ14 gt16 hp => ?_)
      obtain ⟨v19, rfl, rfl, rfl, f17, f18⟩ := hp
      clear gt16
      show Tn _ _ 20 T σ [(0, .ref a), (1, .ref rx1), (2, .int (iI i2))] [.int (iI v19)] _
      refine tn_if_eq (tgt := 44) dX2_lastUnread_20 (by decide) ⟨by omega, by omega⟩ (fun h20 => ?_) (fun h20 => ?_)
      · refine tn_iinc (q0 := 2) (L' := [(2, .int (iI (i2 + (-1)))), (0, .ref a), (1, .ref rx1)]) dX2_lastUnread_44 rfl (by decide) rfl ?_
        refine tn_goto (tgt := 7) dX2_lastUnread_47 (by decide) ?_
        exact tn_sub [1, 2, 0] rfl (ih _ (by omega) (i2 + (-1)) (by omega) (fun i a b => (Classical.em (i = i2)).elim (fun e => by rw [e]; exact (fun y => by have z := y.1; rw [vW_0] at z; have z2 := (hwok i2 (by omega) (by omega)).1; omega)) (fun e => hU_ i (by omega) b)) (by omega) rfl)
      · refine tn_aload_n dX2_lastUnread_23 rfl 0 rfl ?_
        have hk23 : (T fl).1 = 33 := ob_of (wf_17 hw h_a) hfl
        have hk23o : OB T fl 3 := ⟨by omega, by rw [hk23]; rfl, by omega⟩
        refine tn_getR (ci := 2) (i := 0) (n := 17) (x := fl) dX2_lastUnread_24 rfl lay_2 (by decide) fl2_9 h_a rfl rfl (hfl) ?_
        refine tn_iload_n dX2_lastUnread_27 rfl 2 rfl ?_
        refine tn_iconst dX2_lastUnread_28 ?_
        refine tn_iadd dX2_lastUnread_29 ?_
        refine tn_aload_n dX2_lastUnread_30 rfl 1 rfl ?_
        refine tn_iload_n dX2_lastUnread_31 rfl 2 rfl ?_
        refine tn_iconst dX2_lastUnread_32 ?_
        refine tn_callV (M := m_X2_lastUnread) (pc := 33) (ix := 53) (ci := 1) (M' := m_X1_get) (As := [.int (iI i2), .int (iI 1)]) (rest := [.int (iI (i2 + 1)), .ref fl]) dX2_lastUnread_33 ok_X1_get im_X1_get se_X1_get ml2_53 np_X1_get rfl rfl h_rx1 rfl (Nat.le_of_ble_eq_true rfl) (Nat.le_of_ble_eq_true rfl) rfl (k_X1_get_x (d + 2) (T := T) (σ := σ) (a := rx1) (k := i2) (c := 1) (x := x) (n := n) (W := W) h_rx1 (by omega) (by decide) hw (hx) (hn) hW (by omega) (by omega)) (fun r25 T27 σ26 gt28 hp => ?_)
        obtain ⟨v31, rfl, rfl, rfl, f29, f30⟩ := hp
        clear gt28
        show Tn _ _ 36 T σ [(0, .ref a), (1, .ref rx1), (2, .int (iI i2))] [.int (iI v31), .int (iI (i2 + 1)), .ref fl] _
        obtain ⟨hk34, hl35⟩ : AR T xa 3 603 603 := ar_of (wf_18 hw hk23o) hxa
        refine tn_callV (M := m_X2_lastUnread) (pc := 36) (ix := 63) (ci := 3) (M' := m_X3_lives) (As := [.int (iI (i2 + 1)), .int (iI v31)]) (rest := []) dX2_lastUnread_36 ok_X3_lives im_X3_lives se_X3_lives ml2_63 np_X3_lives rfl rfl hk23o rfl (Nat.le_of_ble_eq_true rfl) (Nat.le_of_ble_eq_true rfl) rfl (k_X3_lives_x (d) (T := T) (σ := σ) (a := fl) (p1 := i2 + 1) (p2 := v31) (xa := xa) (La := La) hk23o (by omega) (by omega) hw (hxa) hLa (by omega)) (fun r36 T38 σ37 gt39 hp => ?_)
        obtain ⟨v42, rfl, rfl, rfl, f40, f41⟩ := hp
        clear gt39
        show Tn _ _ 39 T σ [(0, .ref a), (1, .ref rx1), (2, .int (iI i2))] [.int (iI v42)] _
        refine tn_if_ne (tgt := 44) dX2_lastUnread_39 (by decide) ⟨by omega, by omega⟩ (fun h43 => ?_) (fun h43 => ?_)
        · refine tn_iinc (q0 := 2) (L' := [(2, .int (iI (i2 + (-1)))), (0, .ref a), (1, .ref rx1)]) dX2_lastUnread_44 rfl (by decide) rfl ?_
          refine tn_goto (tgt := 7) dX2_lastUnread_47 (by decide) ?_
          exact tn_sub [1, 2, 0] rfl (ih _ (by omega) (i2 + (-1)) (by omega) (fun i a b => (Classical.em (i = i2)).elim (fun e => by rw [e]; exact (fun y => y.2 (by rw [vW_1, ← f30]; exact (hlv.at ⟨by omega, by omega⟩).mp (f41.mp (by omega))))) (fun e => hU_ i (by omega) b)) (by omega) rfl)
        · exact tn_sub [0, 1, 2] rfl (hx_42 (i2) (by omega) True.intro (by omega) (Or.inr ⟨by omega, by omega, ⟨by rw [vW_0]; omega, fun q => absurd (f41.mpr ((hlv.at ⟨by omega, by omega⟩).mpr (by rw [vW_1, ← f30] at q; exact q))) (by omega)⟩, hU_⟩))
set_option maxHeartbeats 1000000 in
set_option maxRecDepth 20000 in
theorem k_X2_lastUnread_x (d : Nat) {T : CT} {σ : MS} {a : Nat} {p1 : Nat} {x : Nat} {n : Int} {W : Int → It} {fl : Nat} {xa : Nat} {La : Int → Int64} (ha : OB T a 2) (h_p1 : OB T p1 1) (t_p1 : (T p1).1 = 50) (hw : WT T σ) (hx : σ.2.1 5 p1 = (x : Int)) (hn : σ.2.1 6 p1 = n) (hW : cW σ x n = W) (hfl : σ.2.1 17 a = (fl : Int)) (hxa : σ.2.1 18 fl = (xa : Int)) (hLa : σ.2.2 xa = La) (hN : n ≤ 200) (hwok : WOK W n) (hlv : LIVE (vW W) n La) : Tn (d + 4) m_X2_lastUnread 0 T σ [(0, .ref a), (1, .ref p1)] [] (fun ro T2 σ2 => ∃ v : Int, ro = some (.int (iI v)) ∧ T = T2 ∧ σ = σ2 ∧ (-1 ≤ v ∧ v ≤ 200) ∧ (LUQ (vW W) n v) ∧ (-1 ≤ v ∧ v < n)) := by
  have h6 := wf_6 hw h_p1
  refine tn_aload_n dX2_lastUnread_0 rfl 1 rfl ?_
  refine tn_getI (ci := 1) (i := 1) (n := 6) (t := σ.2.1 6 p1) dX2_lastUnread_1 rfl lay_1 (by decide) fl2_45 h_p1 rfl rfl (rfl) ?_
  have g1 : ((0 : Int) ≤ σ.2.1 6 p1 ∧ σ.2.1 6 p1 ≤ 5000) ∧ ((T p1).1 = 50 → σ.2.1 6 p1 ≤ 200) := wf_6 hw h_p1
  have g1x := g1.2
  replace g1 := g1.1
  have g1x := g1x t_p1
  refine tn_iconst dX2_lastUnread_4 ?_
  refine tn_isub dX2_lastUnread_5 ?_
  refine tn_istore_n (L' := [(2, .int (iI ((σ.2.1 6 p1) - 1))), (0, .ref a), (1, .ref p1)]) dX2_lastUnread_6 rfl (by decide) rfl ?_
  refine tn_sub [1, 2, 0] rfl (l_X2_lastUnread_x_7 (d) (T := T) (σ := σ) (a := a) (rx1 := p1) (x := x) (n := n) (W := (W)) (fl := fl) (xa := xa) (La := (La)) ha h_p1 t_p1 hw (by omega) (hx) (hn) hW (hfl) (hxa) hLa hN hwok hlv (fun i22 r8 f9 f10 f11 => ?_) (fun i212 r18 f19 f20 f21 => ?_) _ ((σ.2.1 6 p1) - 1) (by omega) (fun i a b => by omega) (by omega) rfl)
  · show Tn _ _ 42 T σ [(0, .ref a), (1, .ref p1), (2, .int (iI i22))] [] _
    refine tn_iload_n dX2_lastUnread_42 rfl 2 rfl ?_
    exact tn_iret rfl dX2_lastUnread_43 ⟨_, rfl, rfl, rfl, by omega, f11, by omega⟩
  · show Tn _ _ 50 T σ [(0, .ref a), (1, .ref p1), (2, .int (iI i212))] [] _
    refine tn_iconst dX2_lastUnread_50 ?_
    exact tn_iret rfl dX2_lastUnread_51 ⟨_, rfl, rfl, rfl, by omega, f21, by omega⟩
end
section
set_option maxHeartbeats 1000000 in
set_option maxRecDepth 20000 in
theorem l_X2_loosenBinds_x_12 (d : Nat) {T : CT} {σ : MS} {a : Nat} {rx1 : Nat} {c2 : Int} {c3 : Int} {x : Nat} {n : Int} {W : Int → It} {fl : Nat} {xs : Nat} {xt : Nat} {Sv : Int → Int} {Qv : Int → Int} {wq : Int} {post : Option Value → CT → MS → Prop} (h_a : OB T a 2) (h_rx1 : OB T rx1 1) (t_rx1 : (T rx1).1 = 50) (r_c2 : 0 ≤ c2 ∧ c2 ≤ 200) (r_c3 : -2147483648 ≤ c3 ∧ c3 ≤ 2147483647) (hw : WT T σ) (hk : 0 ≤ c2 ∧ c2 < n) (hx : σ.2.1 5 rx1 = (x : Int)) (hn : σ.2.1 6 rx1 = n) (hW : cW σ x n = W) (hfl : σ.2.1 17 a = (fl : Int)) (hxs : σ.2.1 20 fl = (xs : Int)) (hxt : σ.2.1 21 fl = (xt : Int)) (hSv : σ.2.1 (1000 + xs) = Sv) (hQv : σ.2.1 (1000 + xt) = Qv) (hwq : σ.2.1 22 fl = wq) (hN : n ≤ 200) (hne : xs ≠ xt ∧ x ≠ xs ∧ x ≠ xt) (hwok : WOK W n) (hmok : MOK W n) (hLk : LNK W n) (hU : UNQ (vW W) n) (hx_51 : ∀ (i4 : Int) , (0 ≤ i4 ∧ i4 ≤ 201) → (True) → (NRQ W n c2 i4) → Tn (d + 5) m_X2_loosenBinds 51 T σ [(0, .ref a), (1, .ref rx1), (2, .int (iI c2)), (3, .int (iI c3)), (4, .int (iI i4))] [] post) : ∀ (nq9 : Nat) (i4 : Int) , (0 ≤ i4 ∧ i4 ≤ 201) → ((c2 < i4 ∧ i4 ≤ n) ∧ ∀ j, c2 < j → j < i4 → W j 0 = 11 ∨ W j 0 = 12) → (2147483700 - i4).toNat = nq9 → Tn (d + 5) m_X2_loosenBinds 12 T σ [(0, .ref a), (1, .ref rx1), (2, .int (iI c2)), (3, .int (iI c3)), (4, .int (iI i4))] [] post := by
  intro nq9
  induction nq9 using Nat.strongRecOn with
  | _ nq9 ih =>
    intro i4 r_i4 hQ hm
    have hQ1 := hQ.1
    refine tn_iload dX2_loosenBinds_12 4 rfl ?_
    refine tn_aload_n dX2_loosenBinds_14 rfl 1 rfl ?_
    refine tn_getI (ci := 1) (i := 1) (n := 6) (t := σ.2.1 6 rx1) dX2_loosenBinds_15 rfl lay_1 (by decide) fl2_45 h_rx1 rfl rfl (rfl) ?_
    have g1 : ((0 : Int) ≤ σ.2.1 6 rx1 ∧ σ.2.1 6 rx1 ≤ 5000) ∧ ((T rx1).1 = 50 → σ.2.1 6 rx1 ≤ 200) := wf_6 hw h_rx1
    have g1x := g1.2
    replace g1 := g1.1
    have g1x := g1x t_rx1
    refine tn_icmp_ge (tgt := 51) dX2_loosenBinds_18 (by decide) ⟨by omega, by omega⟩ ⟨by omega, by omega⟩ (fun h2 => ?_) (fun h2 => ?_)
    · exact tn_sub [0, 1, 2, 3, 4] rfl (hx_51 (i4) (by omega) True.intro ⟨hQ.1, hQ.2, by have z := hQ.1; omega⟩)
    · refine tn_aload_n dX2_loosenBinds_21 rfl 1 rfl ?_
      refine tn_iload dX2_loosenBinds_22 4 rfl ?_
      refine tn_iconst dX2_loosenBinds_24 ?_
      obtain ⟨hl6, hk5a, hk5b⟩ := cel_of (wf_5 hw h_rx1) hx
      have hk5 : (T x).1 = 1 := hk5a (by omega)
      clear hk5a hk5b
      have hk5i : IA T x := by unfold IA; omega
      refine tn_callV (M := m_X2_loosenBinds) (pc := 25) (ix := 53) (ci := 1) (M' := m_X1_get) (As := [.int (iI i4), .int (iI 0)]) (rest := []) dX2_loosenBinds_25 ok_X1_get im_X1_get se_X1_get ml2_53 np_X1_get rfl rfl h_rx1 rfl (Nat.le_of_ble_eq_true rfl) (Nat.le_of_ble_eq_true rfl) rfl (k_X1_get_x (d + 3) (T := T) (σ := σ) (a := rx1) (k := i4) (c := 0) (x := x) (n := n) (W := W) h_rx1 (by omega) (by decide) hw (hx) (hn) hW (by omega) (by omega)) (fun r7 T9 σ8 gt10 hp => ?_)
      obtain ⟨v13, rfl, rfl, rfl, f11, f12⟩ := hp
      clear gt10
      show Tn _ _ 28 T σ [(0, .ref a), (1, .ref rx1), (2, .int (iI c2)), (3, .int (iI c3)), (4, .int (iI i4))] [.int (iI v13)] _
      refine tn_bipush dX2_loosenBinds_28 (by decide) ?_
      refine tn_icmp_eq (tgt := 45) dX2_loosenBinds_30 (by decide) ⟨by omega, by omega⟩ ⟨by decide, by decide⟩ (fun h14 => ?_) (fun h14 => ?_)
      · refine tn_iinc (q0 := 4) (L' := [(4, .int (iI (i4 + 1))), (0, .ref a), (1, .ref rx1), (2, .int (iI c2)), (3, .int (iI c3))]) dX2_loosenBinds_45 rfl (by decide) rfl ?_
        refine tn_goto (tgt := 12) dX2_loosenBinds_48 (by decide) ?_
        exact tn_sub [1, 2, 3, 4, 0] rfl (ih _ (by omega) (i4 + 1) (by omega) ⟨by have z := hQ.1; omega, fun j a b => (Classical.em (j = i4)).elim (fun e => by rw [e]; omega) (fun e => hQ.2 j a (by omega))⟩ rfl)
      · refine tn_aload_n dX2_loosenBinds_33 rfl 1 rfl ?_
        refine tn_iload dX2_loosenBinds_34 4 rfl ?_
        refine tn_iconst dX2_loosenBinds_36 ?_
        refine tn_callV (M := m_X2_loosenBinds) (pc := 37) (ix := 53) (ci := 1) (M' := m_X1_get) (As := [.int (iI i4), .int (iI 0)]) (rest := []) dX2_loosenBinds_37 ok_X1_get im_X1_get se_X1_get ml2_53 np_X1_get rfl rfl h_rx1 rfl (Nat.le_of_ble_eq_true rfl) (Nat.le_of_ble_eq_true rfl) rfl (k_X1_get_x (d + 3) (T := T) (σ := σ) (a := rx1) (k := i4) (c := 0) (x := x) (n := n) (W := W) h_rx1 (by omega) (by decide) hw (hx) (hn) hW (by omega) (by omega)) (fun r15 T17 σ16 gt18 hp => ?_)
        obtain ⟨v21, rfl, rfl, rfl, f19, f20⟩ := hp
        clear gt18
        show Tn _ _ 40 T σ [(0, .ref a), (1, .ref rx1), (2, .int (iI c2)), (3, .int (iI c3)), (4, .int (iI i4))] [.int (iI v21)] _
        refine tn_bipush dX2_loosenBinds_40 (by decide) ?_
        refine tn_icmp_ne (tgt := 51) dX2_loosenBinds_42 (by decide) ⟨by omega, by omega⟩ ⟨by decide, by decide⟩ (fun h22 => ?_) (fun h22 => ?_)
        · exact tn_sub [0, 1, 2, 3, 4] rfl (hx_51 (i4) (by omega) True.intro ⟨hQ.1, hQ.2, by have z := hQ.1; omega⟩)
        · refine tn_iinc (q0 := 4) (L' := [(4, .int (iI (i4 + 1))), (0, .ref a), (1, .ref rx1), (2, .int (iI c2)), (3, .int (iI c3))]) dX2_loosenBinds_45 rfl (by decide) rfl ?_
          refine tn_goto (tgt := 12) dX2_loosenBinds_48 (by decide) ?_
          exact tn_sub [1, 2, 3, 4, 0] rfl (ih _ (by omega) (i4 + 1) (by omega) ⟨by have z := hQ.1; omega, fun j a b => (Classical.em (j = i4)).elim (fun e => by rw [e]; omega) (fun e => hQ.2 j a (by omega))⟩ rfl)
set_option maxHeartbeats 1000000 in
set_option maxRecDepth 20000 in
theorem l_X2_loosenBinds_x_66 (d : Nat) {T : CT} {σ0 : MS} {a : Nat} {rx1 : Nat} {c2 : Int} {c3 : Int} {c4 : Int} {S0 : Int → Int} {x : Nat} {n : Int} {W : Int → It} {fl : Nat} {xs : Nat} {xt : Nat} {Sv : Int → Int} {Qv : Int → Int} {wq : Int} {post : Option Value → CT → MS → Prop} (h_a : OB T a 2) (h_rx1 : OB T rx1 1) (t_rx1 : (T rx1).1 = 50) (r_c2 : 0 ≤ c2 ∧ c2 ≤ 200) (r_c3 : -2147483648 ≤ c3 ∧ c3 ≤ 2147483647) (r_c4 : 0 ≤ c4 ∧ c4 ≤ 201) (hw0 : WT T σ0) (hk : 0 ≤ c2 ∧ c2 < n) (hp5 : 0 ≤ W c2 0 ∧ W c2 0 ≤ 5) (hr3 : c3 = W c2 1) (hS0 : σ0.2.1 (1000 + xs) = S0) (hx : σ0.2.1 5 rx1 = (x : Int)) (hn : σ0.2.1 6 rx1 = n) (hfl : σ0.2.1 17 a = (fl : Int)) (hxs : σ0.2.1 20 fl = (xs : Int)) (hxt : σ0.2.1 21 fl = (xt : Int)) (hN : n ≤ 200) (hne : xs ≠ xt ∧ x ≠ xs ∧ x ≠ xt) (hwok : WOK W n) (hmok : MOK W n) (hLk : LNK W n) (hU : UNQ (vW W) n) (hx_148 : ∀ (i5 : Int) (σ : MS) , (WT T σ) → (FrC T [] σ0 σ) → (0 ≤ i5 ∧ i5 ≤ 200) → (CHX [] [x] [] σ0 σ) → (LBP W (cW σ x n) n c2 c4 S0 i5) → (i5 ≤ n) → (n ≤ i5) → Tn (d + 5) m_X2_loosenBinds 148 T σ [(0, .ref a), (1, .ref rx1), (2, .int (iI c2)), (3, .int (iI c3)), (4, .int (iI c4)), (5, .int (iI i5))] [] post) : ∀ (nq9 : Nat) (i5 : Int) (σ : MS) , (WT T σ) → (FrC T [] σ0 σ) → (0 ≤ i5 ∧ i5 ≤ 200) → (CHX [] [x] [] σ0 σ) → (LBP W (cW σ x n) n c2 c4 S0 i5) → (i5 ≤ n) → (2147483700 - i5).toNat = nq9 → Tn (d + 5) m_X2_loosenBinds 66 T σ [(0, .ref a), (1, .ref rx1), (2, .int (iI c2)), (3, .int (iI c3)), (4, .int (iI c4)), (5, .int (iI i5))] [] post := by
  intro nq9
  induction nq9 using Nat.strongRecOn with
  | _ nq9 ih =>
    intro i5 σ hw hF r_i5 hC hP h5 hm
    refine tn_iload dX2_loosenBinds_66 5 rfl ?_
    refine tn_aload_n dX2_loosenBinds_68 rfl 1 rfl ?_
    refine tn_getI (ci := 1) (i := 1) (n := 6) (t := σ0.2.1 6 rx1) dX2_loosenBinds_69 rfl lay_1 (by decide) fl2_45 h_rx1 rfl rfl (rc_F hF (Or.inl (by decide)) (by decide) (rfl)) ?_
    have g1 : ((0 : Int) ≤ σ0.2.1 6 rx1 ∧ σ0.2.1 6 rx1 ≤ 5000) ∧ ((T rx1).1 = 50 → σ0.2.1 6 rx1 ≤ 200) := wf_6 hw0 h_rx1
    have g1x := g1.2
    replace g1 := g1.1
    have g1x := g1x t_rx1
    refine tn_icmp_ge (tgt := 148) dX2_loosenBinds_72 (by decide) ⟨by omega, by omega⟩ ⟨by omega, by omega⟩ (fun h2 => ?_) (fun h2 => ?_)
    · exact tn_sub [0, 1, 2, 3, 4, 5] rfl (hx_148 (i5) σ hw (FrC.rfl.trans (FrC.sub hF (by decide))) (by omega) hC hP (by omega) (by omega))
    · refine tn_aload_n dX2_loosenBinds_75 rfl 0 rfl ?_
      have hk5 : (T fl).1 = 33 := ob_of (wf_17 hw0 h_a) hfl
      have hk5o : OB T fl 3 := ⟨by omega, by rw [hk5]; rfl, by omega⟩
      refine tn_getR (ci := 2) (i := 0) (n := 17) (x := fl) dX2_loosenBinds_76 rfl lay_2 (by decide) fl2_9 h_a rfl rfl (rc_F hF (Or.inl (by decide)) (by decide) (hfl)) ?_
      refine tn_iload dX2_loosenBinds_79 5 rfl ?_
      obtain ⟨hk9, hl10⟩ : AR T xs 1 201 201 := ar_of (wf_20 hw0 hk5o) hxs
      have hk9i : IA T xs := by unfold IA; omega
      have cv11 : σ.2.1 (1000 + xs) = S0 := (CHX.r hC (by first | (simp; done) | (simp only [List.mem_cons, List.not_mem_nil, or_false, not_or]; omega))).trans (hS0)
      refine tn_callV (M := m_X2_loosenBinds) (pc := 81) (ix := 49) (ci := 3) (M' := m_X3_isSeen) (As := [.int (iI i5)]) (rest := []) dX2_loosenBinds_81 ok_X3_isSeen im_X3_isSeen se_X3_isSeen ml2_49 np_X3_isSeen rfl rfl hk5o rfl (Nat.le_of_ble_eq_true rfl) (Nat.le_of_ble_eq_true rfl) rfl (k_X3_isSeen_x (d + 2) (T := T) (σ := σ) (a := fl) (k := i5) (xs := xs) (Sv := S0) hk5o (by omega) hw (rc_F hF (Or.inl (by decide)) (by decide) (hxs)) cv11) (fun r12 T14 σ13 gt15 hp => ?_)
      obtain ⟨v18, rfl, rfl, rfl, f16, f17⟩ := hp
      clear gt15
      show Tn _ _ 84 T σ [(0, .ref a), (1, .ref rx1), (2, .int (iI c2)), (3, .int (iI c3)), (4, .int (iI c4)), (5, .int (iI i5))] [.int (iI v18)] _
      refine tn_if_eq (tgt := 142) dX2_loosenBinds_84 (by decide) ⟨by omega, by omega⟩ (fun h19 => ?_) (fun h19 => ?_)
      · refine tn_iinc (q0 := 5) (L' := [(5, .int (iI (i5 + 1))), (0, .ref a), (1, .ref rx1), (2, .int (iI c2)), (3, .int (iI c3)), (4, .int (iI c4))]) dX2_loosenBinds_142 rfl (by decide) rfl ?_
        refine tn_goto (tgt := 66) dX2_loosenBinds_145 (by decide) ?_
        exact tn_sub [1, 2, 3, 4, 5, 0] rfl (ih _ (by omega) (i5 + 1) σ hw (FrC.rfl.trans (FrC.sub hF (by decide))) (by omega) hC (hP.no (r := c3) (by omega) (fun q => by have z := f17; omega) (by omega)) (by omega) rfl)
      · refine tn_aload_n dX2_loosenBinds_87 rfl 1 rfl ?_
        refine tn_iload dX2_loosenBinds_88 5 rfl ?_
        refine tn_iload_n dX2_loosenBinds_90 rfl 3 rfl ?_
        obtain ⟨hl23, hk22a, hk22b⟩ := cel_of (wf_5 hw0 h_rx1) hx
        have hk22 : (T x).1 = 1 := hk22a (by omega)
        clear hk22a hk22b
        have hk22i : IA T x := by unfold IA; omega
        refine tn_callV (M := m_X2_loosenBinds) (pc := 91) (ix := 67) (ci := 1) (M' := m_X1_leansOn) (As := [.int (iI i5), .int (iI c3)]) (rest := []) dX2_loosenBinds_91 ok_X1_leansOn im_X1_leansOn se_X1_leansOn ml2_67 np_X1_leansOn rfl rfl h_rx1 rfl (Nat.le_of_ble_eq_true rfl) (Nat.le_of_ble_eq_true rfl) rfl (k_X1_leansOn_x (d + 2) (T := T) (σ := σ) (a := rx1) (k := i5) (r := c3) (x := x) (n := n) (W := cW σ x n) h_rx1 (by omega) (by omega) hw (rc_F hF (Or.inl (by decide)) (by decide) (hx)) (rc_F hF (Or.inl (by decide)) (by decide) (hn)) rfl (by omega)) (fun r24 T26 σ25 gt27 hp => ?_)
        obtain ⟨v30, rfl, rfl, rfl, f28, f29⟩ := hp
        clear gt27
        show Tn _ _ 94 T σ [(0, .ref a), (1, .ref rx1), (2, .int (iI c2)), (3, .int (iI c3)), (4, .int (iI c4)), (5, .int (iI i5))] [.int (iI v30)] _
        refine tn_if_eq (tgt := 142) dX2_loosenBinds_94 (by decide) ⟨by omega, by omega⟩ (fun h31 => ?_) (fun h31 => ?_)
        · refine tn_iinc (q0 := 5) (L' := [(5, .int (iI (i5 + 1))), (0, .ref a), (1, .ref rx1), (2, .int (iI c2)), (3, .int (iI c3)), (4, .int (iI c4))]) dX2_loosenBinds_142 rfl (by decide) rfl ?_
          refine tn_goto (tgt := 66) dX2_loosenBinds_145 (by decide) ?_
          exact tn_sub [1, 2, 3, 4, 5, 0] rfl (ih _ (by omega) (i5 + 1) σ hw (FrC.rfl.trans (FrC.sub hF (by decide))) (by omega) hC (hP.no (by omega) (fun q => (f29.resolve_left (fun y => absurd y.1 (by omega))).2 q.2) (by omega)) (by omega) rfl)
        · refine tn_iload dX2_loosenBinds_97 5 rfl ?_
          refine tn_iload_n dX2_loosenBinds_99 rfl 2 rfl ?_
          refine tn_icmp_le (tgt := 133) dX2_loosenBinds_100 (by decide) ⟨by omega, by omega⟩ ⟨by omega, by omega⟩ (fun h32 => ?_) (fun h32 => ?_)
          · refine tn_aload_n dX2_loosenBinds_133 rfl 1 rfl ?_
            refine tn_iload dX2_loosenBinds_134 5 rfl ?_
            refine tn_bipush dX2_loosenBinds_136 (by decide) ?_
            refine tn_iconst dX2_loosenBinds_138 ?_
            refine tn_callV (M := m_X2_loosenBinds) (pc := 139) (ix := 73) (ci := 1) (M' := m_X1_setWhere) (As := [.int (iI i5), .int (iI 12), .int (iI 0)]) (rest := []) dX2_loosenBinds_139 ok_X1_setWhere im_X1_setWhere se_X1_setWhere ml2_73 np_X1_setWhere rfl rfl h_rx1 rfl (Nat.le_of_ble_eq_true rfl) (Nat.le_of_ble_eq_true rfl) rfl (k_X1_setWhere_x (d + 2) (T := T) (σ := σ) (a := rx1) (k := i5) (y := 12) (z := 0) (x := x) (n := n) (W := cW σ x n) h_rx1 (by omega) (by decide) (by decide) hw (rc_F hF (Or.inl (by decide)) (by decide) (hx)) (rc_F hF (Or.inl (by decide)) (by decide) (hn)) rfl (by omega) (by omega)) (fun r33 T35 σ34 gt36 hp => ?_)
            obtain ⟨rfl, rfl, w40, F41, f37, f38⟩ := hp
            clear gt36
            show Tn _ _ 142 T σ34 [(0, .ref a), (1, .ref rx1), (2, .int (iI c2)), (3, .int (iI c3)), (4, .int (iI c4)), (5, .int (iI i5))] [] _
            refine tn_iinc (q0 := 5) (L' := [(5, .int (iI (i5 + 1))), (0, .ref a), (1, .ref rx1), (2, .int (iI c2)), (3, .int (iI c3)), (4, .int (iI c4))]) dX2_loosenBinds_142 rfl (by decide) rfl ?_
            refine tn_goto (tgt := 66) dX2_loosenBinds_145 (by decide) ?_
            exact tn_sub [1, 2, 3, 4, 5, 0] rfl (ih _ (by omega) (i5 + 1) σ34 w40 ((FrC.rfl.trans (FrC.sub hF (by decide))).trans (FrC.sub F41 (by decide))) (by omega) (hC.trans (CHX.sub f37 (by simp) (by simp) (by simp))) (hP.gone (by omega) (by have z := f17; omega) (f29.resolve_right (fun q => absurd q.1 (by omega))).2 (by omega) (fun q => by omega) f38) (by omega) rfl)
          · refine tn_iload dX2_loosenBinds_103 5 rfl ?_
            refine tn_iload dX2_loosenBinds_105 4 rfl ?_
            refine tn_icmp_ge (tgt := 133) dX2_loosenBinds_107 (by decide) ⟨by omega, by omega⟩ ⟨by omega, by omega⟩ (fun h42 => ?_) (fun h42 => ?_)
            · refine tn_aload_n dX2_loosenBinds_133 rfl 1 rfl ?_
              refine tn_iload dX2_loosenBinds_134 5 rfl ?_
              refine tn_bipush dX2_loosenBinds_136 (by decide) ?_
              refine tn_iconst dX2_loosenBinds_138 ?_
              refine tn_callV (M := m_X2_loosenBinds) (pc := 139) (ix := 73) (ci := 1) (M' := m_X1_setWhere) (As := [.int (iI i5), .int (iI 12), .int (iI 0)]) (rest := []) dX2_loosenBinds_139 ok_X1_setWhere im_X1_setWhere se_X1_setWhere ml2_73 np_X1_setWhere rfl rfl h_rx1 rfl (Nat.le_of_ble_eq_true rfl) (Nat.le_of_ble_eq_true rfl) rfl (k_X1_setWhere_x (d + 2) (T := T) (σ := σ) (a := rx1) (k := i5) (y := 12) (z := 0) (x := x) (n := n) (W := cW σ x n) h_rx1 (by omega) (by decide) (by decide) hw (rc_F hF (Or.inl (by decide)) (by decide) (hx)) (rc_F hF (Or.inl (by decide)) (by decide) (hn)) rfl (by omega) (by omega)) (fun r43 T45 σ44 gt46 hp => ?_)
              obtain ⟨rfl, rfl, w50, F51, f47, f48⟩ := hp
              clear gt46
              show Tn _ _ 142 T σ44 [(0, .ref a), (1, .ref rx1), (2, .int (iI c2)), (3, .int (iI c3)), (4, .int (iI c4)), (5, .int (iI i5))] [] _
              refine tn_iinc (q0 := 5) (L' := [(5, .int (iI (i5 + 1))), (0, .ref a), (1, .ref rx1), (2, .int (iI c2)), (3, .int (iI c3)), (4, .int (iI c4))]) dX2_loosenBinds_142 rfl (by decide) rfl ?_
              refine tn_goto (tgt := 66) dX2_loosenBinds_145 (by decide) ?_
              exact tn_sub [1, 2, 3, 4, 5, 0] rfl (ih _ (by omega) (i5 + 1) σ44 w50 ((FrC.rfl.trans (FrC.sub hF (by decide))).trans (FrC.sub F51 (by decide))) (by omega) (hC.trans (CHX.sub f47 (by simp) (by simp) (by simp))) (hP.gone (by omega) (by have z := f17; omega) (f29.resolve_right (fun q => absurd q.1 (by omega))).2 (by omega) (fun q => by omega) f48) (by omega) rfl)
            · refine tn_aload_n dX2_loosenBinds_110 rfl 1 rfl ?_
              refine tn_iload dX2_loosenBinds_111 5 rfl ?_
              refine tn_bipush dX2_loosenBinds_113 (by decide) ?_
              refine tn_callV (M := m_X2_loosenBinds) (pc := 115) (ix := 53) (ci := 1) (M' := m_X1_get) (As := [.int (iI i5), .int (iI 11)]) (rest := []) dX2_loosenBinds_115 ok_X1_get im_X1_get se_X1_get ml2_53 np_X1_get rfl rfl h_rx1 rfl (Nat.le_of_ble_eq_true rfl) (Nat.le_of_ble_eq_true rfl) rfl (k_X1_get_x (d + 3) (T := T) (σ := σ) (a := rx1) (k := i5) (c := 11) (x := x) (n := n) (W := cW σ x n) h_rx1 (by omega) (by decide) hw (rc_F hF (Or.inl (by decide)) (by decide) (hx)) (rc_F hF (Or.inl (by decide)) (by decide) (hn)) rfl (by omega) (by omega)) (fun r52 T54 σ53 gt55 hp => ?_)
              obtain ⟨v58, rfl, rfl, rfl, f56, f57⟩ := hp
              clear gt55
              show Tn _ _ 118 T σ [(0, .ref a), (1, .ref rx1), (2, .int (iI c2)), (3, .int (iI c3)), (4, .int (iI c4)), (5, .int (iI i5))] [.int (iI v58)] _
              refine tn_iconst dX2_loosenBinds_118 ?_
              refine tn_icmp_ne (tgt := 133) dX2_loosenBinds_119 (by decide) ⟨by omega, by omega⟩ ⟨by decide, by decide⟩ (fun h59 => ?_) (fun h59 => ?_)
              · refine tn_aload_n dX2_loosenBinds_133 rfl 1 rfl ?_
                refine tn_iload dX2_loosenBinds_134 5 rfl ?_
                refine tn_bipush dX2_loosenBinds_136 (by decide) ?_
                refine tn_iconst dX2_loosenBinds_138 ?_
                refine tn_callV (M := m_X2_loosenBinds) (pc := 139) (ix := 73) (ci := 1) (M' := m_X1_setWhere) (As := [.int (iI i5), .int (iI 12), .int (iI 0)]) (rest := []) dX2_loosenBinds_139 ok_X1_setWhere im_X1_setWhere se_X1_setWhere ml2_73 np_X1_setWhere rfl rfl h_rx1 rfl (Nat.le_of_ble_eq_true rfl) (Nat.le_of_ble_eq_true rfl) rfl (k_X1_setWhere_x (d + 2) (T := T) (σ := σ) (a := rx1) (k := i5) (y := 12) (z := 0) (x := x) (n := n) (W := cW σ x n) h_rx1 (by omega) (by decide) (by decide) hw (rc_F hF (Or.inl (by decide)) (by decide) (hx)) (rc_F hF (Or.inl (by decide)) (by decide) (hn)) rfl (by omega) (by omega)) (fun r60 T62 σ61 gt63 hp => ?_)
                obtain ⟨rfl, rfl, w67, F68, f64, f65⟩ := hp
                clear gt63
                show Tn _ _ 142 T σ61 [(0, .ref a), (1, .ref rx1), (2, .int (iI c2)), (3, .int (iI c3)), (4, .int (iI c4)), (5, .int (iI i5))] [] _
                refine tn_iinc (q0 := 5) (L' := [(5, .int (iI (i5 + 1))), (0, .ref a), (1, .ref rx1), (2, .int (iI c2)), (3, .int (iI c3)), (4, .int (iI c4))]) dX2_loosenBinds_142 rfl (by decide) rfl ?_
                refine tn_goto (tgt := 66) dX2_loosenBinds_145 (by decide) ?_
                exact tn_sub [1, 2, 3, 4, 5, 0] rfl (ih _ (by omega) (i5 + 1) σ61 w67 ((FrC.rfl.trans (FrC.sub hF (by decide))).trans (FrC.sub F68 (by decide))) (by omega) (hC.trans (CHX.sub f64 (by simp) (by simp) (by simp))) (hP.gone (by omega) (by have z := f17; omega) (f29.resolve_right (fun q => absurd q.1 (by omega))).2 (by omega) (fun q => by omega) f65) (by omega) rfl)
              · refine tn_aload_n dX2_loosenBinds_122 rfl 0 rfl ?_
                refine tn_aload_n dX2_loosenBinds_123 rfl 1 rfl ?_
                refine tn_iload_n dX2_loosenBinds_124 rfl 2 rfl ?_
                refine tn_iload dX2_loosenBinds_125 5 rfl ?_
                refine tn_callV (M := m_X2_loosenBinds) (pc := 127) (ix := 70) (ci := 2) (M' := m_X2_takeOver) (As := [.ref rx1, .int (iI c2), .int (iI i5)]) (rest := []) dX2_loosenBinds_127 ok_X2_takeOver im_X2_takeOver se_X2_takeOver ml2_70 np_X2_takeOver rfl rfl h_a rfl (Nat.le_of_ble_eq_true rfl) (Nat.le_of_ble_eq_true rfl) rfl (k_X2_takeOver_x (d + 1) (T := T) (σ := σ) (a := a) (p1 := rx1) (p2 := c2) (p3 := i5) (x := x) (n := n) (W := cW σ x n) h_a h_rx1 t_rx1 (by omega) (by omega) hw (rc_F hF (Or.inl (by decide)) (by decide) (hx)) (rc_F hF (Or.inl (by decide)) (by decide) (hn)) rfl (by omega) (by omega) (by rw [hP.kk (by omega)]; omega)) (fun r69 T71 σ70 gt72 hp => ?_)
                obtain ⟨rfl, rfl, w76, F77, f73, f74⟩ := hp
                clear gt72
                show Tn _ _ 130 T σ70 [(0, .ref a), (1, .ref rx1), (2, .int (iI c2)), (3, .int (iI c3)), (4, .int (iI c4)), (5, .int (iI i5))] [] _
                refine tn_goto (tgt := 142) dX2_loosenBinds_130 (by decide) ?_
                refine tn_iinc (q0 := 5) (L' := [(5, .int (iI (i5 + 1))), (0, .ref a), (1, .ref rx1), (2, .int (iI c2)), (3, .int (iI c3)), (4, .int (iI c4))]) dX2_loosenBinds_142 rfl (by decide) rfl ?_
                refine tn_goto (tgt := 66) dX2_loosenBinds_145 (by decide) ?_
                exact tn_sub [1, 2, 3, 4, 5, 0] rfl (ih _ (by omega) (i5 + 1) σ70 w76 ((FrC.rfl.trans (FrC.sub hF (by decide))).trans (FrC.sub F77 (by decide))) (by omega) (hC.trans (CHX.sub f73 (by simp) (by simp) (by simp))) (hP.take (by omega) (by omega) (by have z := f17; omega) (f29.resolve_right (fun q => absurd q.1 (by omega))).2 (by omega) ⟨by omega, by omega⟩ f57 (by omega) f74) (by omega) rfl)
set_option maxHeartbeats 1000000 in
set_option maxRecDepth 20000 in
theorem k_X2_loosenBinds_x (d : Nat) {T : CT} {σ : MS} {a : Nat} {p1 : Nat} {p2 : Int} {x : Nat} {n : Int} {W : Int → It} {fl : Nat} {xs : Nat} {xt : Nat} {Sv : Int → Int} {Qv : Int → Int} {wq : Int} (ha : OB T a 2) (h_p1 : OB T p1 1) (t_p1 : (T p1).1 = 50) (h_p2 : -2147483648 ≤ p2 ∧ p2 ≤ 2147483647) (hw : WT T σ) (hx : σ.2.1 5 p1 = (x : Int)) (hn : σ.2.1 6 p1 = n) (hW : cW σ x n = W) (hfl : σ.2.1 17 a = (fl : Int)) (hxs : σ.2.1 20 fl = (xs : Int)) (hxt : σ.2.1 21 fl = (xt : Int)) (hSv : σ.2.1 (1000 + xs) = Sv) (hQv : σ.2.1 (1000 + xt) = Qv) (hwq : σ.2.1 22 fl = wq) (hN : n ≤ 200) (hne : xs ≠ xt ∧ x ≠ xs ∧ x ≠ xt) (hwok : WOK W n) (hmok : MOK W n) (hLk : LNK W n) (hU : UNQ (vW W) n) (hk : 0 ≤ p2 ∧ p2 < n) (hp5 : W p2 0 ≤ 5) : Tn (d + 5) m_X2_loosenBinds 0 T σ [(0, .ref a), (1, .ref p1), (2, .int (iI p2))] [] (fun ro T2 σ2 => ro = none ∧ T = T2 ∧ WT T2 σ2 ∧ FrC T [22] σ σ2 ∧ (CHX [(22, fl)] [x, xs, xt] [] σ σ2) ∧ (vW (cW σ2 x n) = rbV (vW W) n p2) ∧ (WOK (cW σ2 x n) n ∧ MOK (cW σ2 x n) n)) := by
  have hk0 := (hwok p2 hk.1 hk.2).1
  refine tn_aload_n dX2_loosenBinds_0 rfl 1 rfl ?_
  refine tn_iload_n dX2_loosenBinds_1 rfl 2 rfl ?_
  refine tn_iconst dX2_loosenBinds_2 ?_
  obtain ⟨hl4, hk3a, hk3b⟩ := cel_of (wf_5 hw h_p1) hx
  have hk3 : (T x).1 = 1 := hk3a (by omega)
  clear hk3a hk3b
  have hk3i : IA T x := by unfold IA; omega
  refine tn_callV (M := m_X2_loosenBinds) (pc := 3) (ix := 53) (ci := 1) (M' := m_X1_get) (As := [.int (iI p2), .int (iI 1)]) (rest := []) dX2_loosenBinds_3 ok_X1_get im_X1_get se_X1_get ml2_53 np_X1_get rfl rfl h_p1 rfl (Nat.le_of_ble_eq_true rfl) (Nat.le_of_ble_eq_true rfl) rfl (k_X1_get_x (d + 3) (T := T) (σ := σ) (a := p1) (k := p2) (c := 1) (x := x) (n := n) (W := W) h_p1 (by omega) (by decide) hw (hx) (hn) hW (by omega) (by omega)) (fun r5 T7 σ6 gt8 hp => ?_)
  obtain ⟨v11, rfl, rfl, rfl, f9, f10⟩ := hp
  clear gt8
  show Tn _ _ 6 T σ [(0, .ref a), (1, .ref p1), (2, .int (iI p2))] [.int (iI v11)] _
  refine tn_istore_n (L' := [(3, .int (iI v11)), (0, .ref a), (1, .ref p1), (2, .int (iI p2))]) dX2_loosenBinds_6 rfl (by decide) rfl ?_
  refine tn_iload_n dX2_loosenBinds_7 rfl 3 rfl ?_
  refine tn_iconst dX2_loosenBinds_8 ?_
  refine tn_iadd dX2_loosenBinds_9 ?_
  refine tn_istore (L' := [(4, .int (iI (p2 + 1))), (3, .int (iI v11)), (0, .ref a), (1, .ref p1), (2, .int (iI p2))]) dX2_loosenBinds_10 (by decide) rfl ?_
  refine tn_sub [2, 3, 4, 1, 0] rfl (l_X2_loosenBinds_x_12 (d) (T := T) (σ := σ) (a := a) (rx1 := p1) (c2 := p2) (c3 := v11) (x := x) (n := n) (W := (W)) (fl := fl) (xs := xs) (xt := xt) (Sv := (Sv)) (Qv := (Qv)) (wq := wq) ha h_p1 t_p1 (by omega) (by omega) hw (by omega) (hx) (hn) hW (hfl) (hxs) (hxt) hSv hQv (hwq) hN hne hwok hmok hLk hU (fun i412 r18 f19 f20 => ?_) _ (p2 + 1) (by omega) ⟨by omega, fun j a b => by omega⟩ rfl)
  show Tn _ _ 51 T σ [(0, .ref a), (1, .ref p1), (2, .int (iI p2)), (3, .int (iI v11)), (4, .int (iI i412))] [] _
  refine tn_aload_n dX2_loosenBinds_51 rfl 0 rfl ?_
  have hk23 : (T fl).1 = 33 := ob_of (wf_17 hw ha) hfl
  have hk23o : OB T fl 3 := ⟨by omega, by rw [hk23]; rfl, by omega⟩
  refine tn_getR (ci := 2) (i := 0) (n := 17) (x := fl) dX2_loosenBinds_52 rfl lay_2 (by decide) fl2_9 ha rfl rfl (hfl) ?_
  refine tn_aload_n dX2_loosenBinds_55 rfl 1 rfl ?_
  refine tn_iload_n dX2_loosenBinds_56 rfl 2 rfl ?_
  refine tn_iconst dX2_loosenBinds_57 ?_
  refine tn_iadd dX2_loosenBinds_58 ?_
  refine tn_iload_n dX2_loosenBinds_59 rfl 3 rfl ?_
  obtain ⟨hk27, hl28⟩ : AR T xs 1 201 201 := ar_of (wf_20 hw hk23o) hxs
  have hk27i : IA T xs := by unfold IA; omega
  obtain ⟨hk31, hl32⟩ : AR T xt 1 201 201 := ar_of (wf_21 hw hk23o) hxt
  have hk31i : IA T xt := by unfold IA; omega
  refine tn_callV (M := m_X2_loosenBinds) (pc := 60) (ix := 41) (ci := 3) (M' := m_X3_seeFrom) (As := [.ref p1, .int (iI (p2 + 1)), .int (iI v11)]) (rest := []) dX2_loosenBinds_60 ok_X3_seeFrom im_X3_seeFrom se_X3_seeFrom ml2_41 np_X3_seeFrom rfl rfl hk23o rfl (Nat.le_of_ble_eq_true rfl) (Nat.le_of_ble_eq_true rfl) rfl (k_X3_seeFrom_x (d) (T := T) (σ := σ) (a := fl) (p1 := p1) (p2 := p2 + 1) (p3 := v11) (x := x) (n := n) (W := W) (xs := xs) (Sv := Sv) (xt := xt) (Qv := Qv) (wq := wq) (B := (fun j => wrT (vW W j) (W p2 1))) hk23o h_p1 (by omega) (by omega) hw (hx) (hn) hW (hxs) hSv (hxt) hQv (hwq) (by omega) (by omega) (by omega) (by omega) (by have z := rbq_w hwok hp5 hk; rw [← f10] at z; rw [← f10]; exact z)) (fun r33 T35 σ34 gt36 hp => ?_)
  obtain ⟨rfl, rfl, w40, F41, f37, f38⟩ := hp
  clear gt36
  show Tn _ _ 63 T σ34 [(0, .ref a), (1, .ref p1), (2, .int (iI p2)), (3, .int (iI v11)), (4, .int (iI i412))] [] _
  refine tn_iconst dX2_loosenBinds_63 ?_
  refine tn_istore (L' := [(5, .int (iI 0)), (0, .ref a), (1, .ref p1), (2, .int (iI p2)), (3, .int (iI v11)), (4, .int (iI i412))]) dX2_loosenBinds_64 (by decide) rfl ?_
  have cv42 : cW σ34 x n = W := (cW_row (CHX.r f37 (by first | (simp; done) | (simp only [List.mem_cons, List.not_mem_nil, or_false, not_or]; omega)))).trans (hW)
  refine tn_sub [1, 2, 3, 4, 5, 0] rfl (l_X2_loosenBinds_x_66 (d) (T := T) (σ0 := σ34) (a := a) (rx1 := p1) (c2 := p2) (c3 := v11) (c4 := i412) (x := x) (n := n) (W := W) (fl := fl) (xs := xs) (xt := xt) (Sv := Sv) (Qv := Qv) (wq := wq) (S0 := (σ34.2.1 (1000 + xs))) ha h_p1 t_p1 (by omega) (by omega) (by omega) w40 (by omega) (by omega) f10 rfl (rc_F F41 (Or.inl (by decide)) (by decide) (hx)) (rc_F F41 (Or.inl (by decide)) (by decide) (hn)) (rc_F F41 (Or.inl (by decide)) (by decide) (hfl)) (rc_F F41 (Or.inl (by decide)) (by decide) (hxs)) (rc_F F41 (Or.inl (by decide)) (by decide) (hxt)) hN hne hwok hmok hLk hU (fun i543 σ44 w47 F48 r49 f50 f51 f52 f53 => ?_) _ (0) σ34 w40 FrC.rfl (by omega) CHX.rfl (by rw [cv42]; exact LBP.nil) (by omega) rfl)
  show Tn _ _ 148 T σ44 [(0, .ref a), (1, .ref p1), (2, .int (iI p2)), (3, .int (iI v11)), (4, .int (iI i412)), (5, .int (iI i543))] [] _
  exact tn_vret rfl dX2_loosenBinds_148 ⟨rfl, rfl, w47, ((FrC.rfl.trans (FrC.sub F41 (by decide))).trans (FrC.sub F48 (by decide))), ((CHX.rfl.trans (CHX.sub f37 (by simp) (by simp) (by simp))).trans (CHX.sub f50 (by simp) (by simp) (by simp))), ((f51).fin (by omega) hwok hk hp5 f20 f38 (fun j q => by rw [← hW]; exact cW_off q)), (⟨((f51).wok (by omega) hwok hmok hk hp5).1, ((f51).wok (by omega) hwok hmok hk hp5).2.1⟩)⟩
end
