section
set_option maxHeartbeats 1000000 in
set_option maxRecDepth 20000 in
theorem l_X10_refresh_t9_122 (d : Nat) {T : CT} {σ0 : MS} {a : Nat} {c1 : Int} {rx2 : Nat} {x : Nat} {n : Int} {W : Int → It} {xh : Nat} {Rh : Int → Int} {P : Int} {Nm : Int} {xn : Nat} {Rn : Int → Int} {xb : Nat} {B : Int → Int} {xs : Nat} {xt : Nat} {xf : Nat} {Rf : Int → Int} {wd : Int} {Fq : Int} {post : Option Value → CT → MS → Prop} (h_a : OB T a 10) (r_c1 : 0 ≤ c1 ∧ c1 ≤ 5) (h_rx2 : OB T rx2 1) (t_rx2 : (T rx2).1 = 50) (hw0 : WT T σ0) (hx : σ0.2.1 5 rx2 = (x : Int)) (hn : σ0.2.1 6 rx2 = n) (hW : cW σ0 x n = W) (hxh : σ0.2.1 15 rx2 = (xh : Int)) (hRh : σ0.2.1 (1000 + xh) = Rh) (hP : σ0.2.1 8 rx2 = P) (hNm : σ0.2.1 7 rx2 = Nm) (hxn : σ0.2.1 14 rx2 = (xn : Int)) (hRn : σ0.2.1 (1000 + xn) = Rn) (hxb : σ0.2.1 90 a = (xb : Int)) (hxs : σ0.2.1 91 a = (xs : Int)) (hxt : σ0.2.1 92 a = (xt : Int)) (hxf : σ0.2.1 89 a = (xf : Int)) (hRf : σ0.2.1 (1000 + xf) = Rf) (hwd : σ0.2.1 93 a = wd) (hN : n ≤ 200) (hne : x ≠ xb ∧ x ≠ xs ∧ x ≠ xt ∧ x ≠ xf ∧ xh ≠ xb ∧ xh ≠ xs ∧ xh ≠ xt ∧ xh ≠ xf ∧ xn ≠ xb ∧ xn ≠ xs ∧ xn ≠ xt ∧ xn ≠ xf ∧ xb ≠ xs ∧ xb ≠ xt ∧ xb ≠ xf ∧ xs ≠ xt ∧ xs ≠ xf ∧ xt ≠ xf) (hrw : RWT W n P Nm Fq wd Rh Rn) (hx_144 : ∀ (i4 : Int) (σ : MS) , (WT T σ) → (FrC T [] σ0 σ) → (0 ≤ i4 ∧ i4 ≤ 200) → (CHX [] [xb] [] σ0 σ) → (True) → (i4 ≤ n) → (∀ k, 0 ≤ k → k < n → W k 0 = 12 → NBW W Rh P k ((σ.2.1 (1000 + xb)) k)) → Tn (d + 5) m_X10_refresh 144 T σ [(0, .ref a), (1, .int (iI c1)), (2, .ref rx2), (4, .int (iI i4))] [] post) : ∀ (nq9 : Nat) (i4 : Int) (σ : MS) , (WT T σ) → (FrC T [] σ0 σ) → (0 ≤ i4 ∧ i4 ≤ 200) → (CHX [] [xb] [] σ0 σ) → (∀ k, 0 ≤ k → k < i4 → W k 0 = 12 → NBW W Rh P k ((σ.2.1 (1000 + xb)) k)) → (i4 ≤ n) → (2147483700 - i4).toNat = nq9 → Tn (d + 5) m_X10_refresh 122 T σ [(0, .ref a), (1, .int (iI c1)), (2, .ref rx2), (4, .int (iI i4))] [] post := by
  intro nq9
  induction nq9 using Nat.strongRecOn with
  | _ nq9 ih =>
    intro i4 σ hw hF r_i4 hC hL_ h4 hm
    refine tn_iload dX10_refresh_122 3 rfl ?_
    refine tn_aload_n dX10_refresh_124 rfl 2 rfl ?_
    refine tn_getI (ci := 1) (i := 1) (n := 6) (t := σ0.2.1 6 rx2) dX10_refresh_125 rfl lay_1 (by decide) fl10_53 h_rx2 rfl rfl (rc_F hF (Or.inl (by decide)) (by decide) (rfl)) ?_
    have g1 : ((0 : Int) ≤ σ0.2.1 6 rx2 ∧ σ0.2.1 6 rx2 ≤ 5000) ∧ ((T rx2).1 = 50 → σ0.2.1 6 rx2 ≤ 200) := wf_6 hw0 h_rx2
    have g1x := g1.2
    replace g1 := g1.1
    have g1x := g1x t_rx2
    refine tn_icmp_ge (tgt := 144) dX10_refresh_128 (by decide) ⟨by omega, by omega⟩ ⟨by omega, by omega⟩ (fun h2 => ?_) (fun h2 => ?_)
    · exact tn_sub [0, 1, 2, 3] rfl (hx_144 (i4) σ hw (FrC.rfl.trans (FrC.sub hF (by decide))) (by omega) hC True.intro (by omega) (fun k a b => hL_ k a (by omega)))
    · refine tn_aload_n dX10_refresh_131 rfl 0 rfl ?_
      refine tn_aload_n dX10_refresh_132 rfl 2 rfl ?_
      refine tn_iload dX10_refresh_133 3 rfl ?_
      obtain ⟨hl6, hk5a, hk5b⟩ := cel_of (wf_5 hw0 h_rx2) hx
      have hk5 : (T x).1 = 1 := hk5a (by omega)
      clear hk5a hk5b
      have hk5i : IA T x := by unfold IA; omega
      have cv7 : cW σ x n = W := (cW_row (CHX.r hC (by first | (simp; done) | (simp only [List.mem_cons, List.not_mem_nil, or_false, not_or]; first | omega | ((repeat' apply And.intro) <;> first | assumption | (apply Ne.symm; assumption)))))).trans (hW)
      obtain ⟨hk10, hl11⟩ : AR T xh 1 144 144 := ar_of (wf_15 hw0 h_rx2) hxh
      have hk10i : IA T xh := by unfold IA; omega
      have cv12 : σ.2.1 (1000 + xh) = Rh := (CHX.r hC (by first | (simp; done) | (simp only [List.mem_cons, List.not_mem_nil, or_false, not_or]; first | omega | ((repeat' apply And.intro) <;> first | assumption | (apply Ne.symm; assumption))))).trans (hRh)
      obtain ⟨hk15, hl16⟩ : AR T xb 1 200 200 := ar_of (wf_90 hw0 h_a) hxb
      have hk15i : IA T xb := by unfold IA; omega
      refine tn_callV (M := m_X10_refresh) (pc := 135) (ix := 70) (ci := 10) (M' := m_X10_nameBind) (As := [.ref rx2, .int (iI i4)]) (rest := []) dX10_refresh_135 ok_X10_nameBind im_X10_nameBind se_X10_nameBind ml10_70 np_X10_nameBind rfl rfl h_a rfl (Nat.le_of_ble_eq_true rfl) (Nat.le_of_ble_eq_true rfl) rfl (k_X10_nameBind_t (d) (T := T) (σ := σ) (a := a) (p1 := rx2) (p2 := i4) (x := x) (n := n) (W := W) (xh := xh) (Rh := Rh) (P := P) (xb := xb) h_a h_rx2 t_rx2 (by omega) hw (rc_F hF (Or.inl (by decide)) (by decide) (hx)) (rc_F hF (Or.inl (by decide)) (by decide) (hn)) cv7 (rc_F hF (Or.inl (by decide)) (by decide) (hxh)) cv12 (rc_F hF (Or.inl (by decide)) (by decide) (hP)) (rc_F hF (Or.inl (by decide)) (by decide) (hxb)) (by omega) (by omega)) (fun r17 T19 σ18 gt20 hp => ?_)
      obtain ⟨rfl, rfl, w24, F25, f21, f22⟩ := hp
      clear gt20
      show Tn _ _ 138 T σ18 [(0, .ref a), (1, .int (iI c1)), (2, .ref rx2), (4, .int (iI i4))] [] _
      refine tn_iinc (q0 := 3) (L' := [(4, .int (iI (i4 + 1))), (0, .ref a), (1, .int (iI c1)), (2, .ref rx2)]) dX10_refresh_138 rfl (by decide) rfl ?_
      refine tn_goto (tgt := 122) dX10_refresh_141 (by decide) ?_
      exact tn_sub [1, 2, 3, 0] rfl (ih _ (by omega) (i4 + 1) σ18 w24 ((FrC.rfl.trans (FrC.sub hF (by decide))).trans (FrC.sub F25 (by decide))) (by omega) (hC.trans (CHX.sub f21 (by simp) (by simp) (by simp))) (NBX.on hL_ f22) (by omega) rfl)
set_option maxHeartbeats 1000000 in
set_option maxRecDepth 20000 in
theorem l_X10_refresh_t9_179 (d : Nat) {T : CT} {σ0 : MS} {a : Nat} {c1 : Int} {rx2 : Nat} {c4 : Int} {Mn : Nat} {rk0 : Int} {x : Nat} {n : Int} {W : Int → It} {xh : Nat} {Rh : Int → Int} {P : Int} {Nm : Int} {xn : Nat} {Rn : Int → Int} {xb : Nat} {B : Int → Int} {xs : Nat} {xt : Nat} {xf : Nat} {Rf : Int → Int} {wd : Int} {Fq : Int} {post : Option Value → CT → MS → Prop} (h_a : OB T a 10) (r_c1 : 0 ≤ c1 ∧ c1 ≤ 5) (h_rx2 : OB T rx2 1) (t_rx2 : (T rx2).1 = 50) (r_c4 : 0 ≤ c4 ∧ c4 ≤ 999999) (hw0 : WT T σ0) (hnb : ∀ k, 0 ≤ k → k < n → W k 0 = 12 → NBW W Rh P k (B k)) (hM : (Mn : Int) = (n + 1) * wd) (hMx : (Mn : Int) ≤ ((T xt).2 : Int)) (hx : σ0.2.1 5 rx2 = (x : Int)) (hn : σ0.2.1 6 rx2 = n) (hW : cW σ0 x n = W) (hxh : σ0.2.1 15 rx2 = (xh : Int)) (hRh : σ0.2.1 (1000 + xh) = Rh) (hP : σ0.2.1 8 rx2 = P) (hNm : σ0.2.1 7 rx2 = Nm) (hxn : σ0.2.1 14 rx2 = (xn : Int)) (hRn : σ0.2.1 (1000 + xn) = Rn) (hxb : σ0.2.1 90 a = (xb : Int)) (hB : σ0.2.1 (1000 + xb) = B) (hxs : σ0.2.1 91 a = (xs : Int)) (hxt : σ0.2.1 92 a = (xt : Int)) (hxf : σ0.2.1 89 a = (xf : Int)) (hRf : σ0.2.1 (1000 + xf) = Rf) (hwd : σ0.2.1 93 a = wd) (hN : n ≤ 200) (hne : x ≠ xb ∧ x ≠ xs ∧ x ≠ xt ∧ x ≠ xf ∧ xh ≠ xb ∧ xh ≠ xs ∧ xh ≠ xt ∧ xh ≠ xf ∧ xn ≠ xb ∧ xn ≠ xs ∧ xn ≠ xt ∧ xn ≠ xf ∧ xb ≠ xs ∧ xb ≠ xt ∧ xb ≠ xf ∧ xs ≠ xt ∧ xs ≠ xf ∧ xt ≠ xf) (hrw : RWT W n P Nm Fq wd Rh Rn) (hx_201 : ∀ (i5 : Int) (σ : MS) , (WT T σ) → (FrC T [94] σ0 σ) → (0 ≤ i5 ∧ i5 ≤ 200) → (CHX [(94, a)] [xs, xt] [] σ0 σ) → (True) → (i5 ≤ n) → (RDS W n P Nm Fq wd Rh Rn B Mn rk0 n (σ.2.1 (1000 + xt)) (σ.2.1 94 a)) → Tn (d + 5) m_X10_refresh 201 T σ [(0, .ref a), (1, .int (iI c1)), (2, .ref rx2), (4, .int (iI c4)), (5, .int (iI i5))] [] post) : ∀ (nq9 : Nat) (i5 : Int) (σ : MS) , (WT T σ) → (FrC T [94] σ0 σ) → (0 ≤ i5 ∧ i5 ≤ 200) → (CHX [(94, a)] [xs, xt] [] σ0 σ) → (RDS W n P Nm Fq wd Rh Rn B Mn rk0 i5 (σ.2.1 (1000 + xt)) (σ.2.1 94 a)) → (i5 ≤ n) → (2147483700 - i5).toNat = nq9 → Tn (d + 5) m_X10_refresh 179 T σ [(0, .ref a), (1, .int (iI c1)), (2, .ref rx2), (4, .int (iI c4)), (5, .int (iI i5))] [] post := by
  intro nq9
  induction nq9 using Nat.strongRecOn with
  | _ nq9 ih =>
    intro i5 σ hw hF r_i5 hC hS h5 hm
    refine tn_iload dX10_refresh_179 4 rfl ?_
    refine tn_aload_n dX10_refresh_181 rfl 2 rfl ?_
    refine tn_getI (ci := 1) (i := 1) (n := 6) (t := σ0.2.1 6 rx2) dX10_refresh_182 rfl lay_1 (by decide) fl10_53 h_rx2 rfl rfl (rc_F hF (Or.inl (by decide)) (by decide) (rfl)) ?_
    have g1 : ((0 : Int) ≤ σ0.2.1 6 rx2 ∧ σ0.2.1 6 rx2 ≤ 5000) ∧ ((T rx2).1 = 50 → σ0.2.1 6 rx2 ≤ 200) := wf_6 hw0 h_rx2
    have g1x := g1.2
    replace g1 := g1.1
    have g1x := g1x t_rx2
    refine tn_icmp_ge (tgt := 201) dX10_refresh_185 (by decide) ⟨by omega, by omega⟩ ⟨by omega, by omega⟩ (fun h2 => ?_) (fun h2 => ?_)
    · exact tn_sub [0, 1, 2, 3, 4] rfl (hx_201 (i5) σ hw (FrC.rfl.trans (FrC.sub hF (by decide))) (by omega) hC True.intro (by omega) (by have e : i5 = n := (by omega); rw [e] at hS; exact hS))
    · have hwd9 := hrw.wdr
      refine tn_aload_n dX10_refresh_188 rfl 0 rfl ?_
      refine tn_aload_n dX10_refresh_189 rfl 2 rfl ?_
      refine tn_iload dX10_refresh_190 4 rfl ?_
      obtain ⟨hl6, hk5a, hk5b⟩ := cel_of (wf_5 hw0 h_rx2) hx
      have hk5 : (T x).1 = 1 := hk5a (by omega)
      clear hk5a hk5b
      have hk5i : IA T x := by unfold IA; omega
      have cv7 : cW σ x n = W := (cW_row (CHX.r hC (by first | (simp; done) | (simp only [List.mem_cons, List.not_mem_nil, or_false, not_or]; first | omega | ((repeat' apply And.intro) <;> first | assumption | (apply Ne.symm; assumption)))))).trans (hW)
      obtain ⟨hk10, hl11⟩ : AR T xh 1 144 144 := ar_of (wf_15 hw0 h_rx2) hxh
      have hk10i : IA T xh := by unfold IA; omega
      have cv12 : σ.2.1 (1000 + xh) = Rh := (CHX.r hC (by first | (simp; done) | (simp only [List.mem_cons, List.not_mem_nil, or_false, not_or]; first | omega | ((repeat' apply And.intro) <;> first | assumption | (apply Ne.symm; assumption))))).trans (hRh)
      obtain ⟨hk15, hl16⟩ : AR T xn 11 12 12 := ar_of (wf_14 hw0 h_rx2) hxn
      have hk15i : IA T xn := by unfold IA; omega
      have cv17 : σ.2.1 (1000 + xn) = Rn := (CHX.r hC (by first | (simp; done) | (simp only [List.mem_cons, List.not_mem_nil, or_false, not_or]; first | omega | ((repeat' apply And.intro) <;> first | assumption | (apply Ne.symm; assumption))))).trans (hRn)
      obtain ⟨hk20, hl21⟩ : AR T xt 1 0 32788 := ar_of ((wf_92 hw0 h_a).resolve_left (by omega)) hxt
      have hk20i : IA T xt := by unfold IA; omega
      obtain ⟨hk24, hl25⟩ : AR T xs 1 145 145 := ar_of (wf_91 hw0 h_a) hxs
      have hk24i : IA T xs := by unfold IA; omega
      obtain ⟨hk28, hl29⟩ : AR T xb 1 200 200 := ar_of (wf_90 hw0 h_a) hxb
      have hk28i : IA T xb := by unfold IA; omega
      have cv30 : σ.2.1 (1000 + xb) = B := (CHX.r hC (by first | (simp; done) | (simp only [List.mem_cons, List.not_mem_nil, or_false, not_or]; first | omega | ((repeat' apply And.intro) <;> first | assumption | (apply Ne.symm; assumption))))).trans (hB)
      refine tn_callV (M := m_X10_refresh) (pc := 192) (ix := 83) (ci := 10) (M' := m_X10_goThrough) (As := [.ref rx2, .int (iI i5)]) (rest := []) dX10_refresh_192 ok_X10_goThrough im_X10_goThrough se_X10_goThrough ml10_83 np_X10_goThrough rfl rfl h_a rfl (Nat.le_of_ble_eq_true rfl) (Nat.le_of_ble_eq_true rfl) rfl (k_X10_goThrough_t (d) (T := T) (σ := σ) (a := a) (p1 := rx2) (p2 := i5) (x := x) (n := n) (W := W) (xh := xh) (Rh := Rh) (xn := xn) (Rn := Rn) (xt := xt) (R0 := σ.2.1 (1000 + xt)) (wd := wd) (xs := xs) (xb := xb) (B := B) h_a h_rx2 t_rx2 (by omega) hw (rc_F hF (Or.inl (by decide)) (by decide) (hx)) (rc_F hF (Or.inl (by decide)) (by decide) (hn)) cv7 (rc_F hF (Or.inl (by decide)) (by decide) (hxh)) cv12 (rc_F hF (Or.inl (by decide)) (by decide) (hxn)) cv17 (rc_F hF (Or.inl (by decide)) (by decide) (hxt)) rfl (rc_F hF (Or.inl (by decide)) (by decide) (hwd)) (rc_F hF (Or.inl (by decide)) (by decide) (hxs)) (rc_F hF (Or.inl (by decide)) (by decide) (hxb)) cv30 (by omega) (by omega) (by omega) (by omega) (fun q a b => by have z9 := row_rg hM (by omega) a b; omega) (fun e => hrw.bd (by omega) (by omega) e) (fun e => hrw.lv (by omega) (by omega) e)) (fun r31 T33 σ32 gt34 hp => ?_)
      obtain ⟨rfl, rfl, w38, F39, f35, f36⟩ := hp
      clear gt34
      show Tn _ _ 195 T σ32 [(0, .ref a), (1, .int (iI c1)), (2, .ref rx2), (4, .int (iI c4)), (5, .int (iI i5))] [] _
      refine tn_iinc (q0 := 4) (L' := [(5, .int (iI (i5 + 1))), (0, .ref a), (1, .int (iI c1)), (2, .ref rx2), (4, .int (iI c4))]) dX10_refresh_195 rfl (by decide) rfl ?_
      refine tn_goto (tgt := 179) dX10_refresh_198 (by decide) ?_
      exact tn_sub [1, 2, 3, 4, 0] rfl (ih _ (by omega) (i5 + 1) σ32 w38 ((FrC.rfl.trans (FrC.sub hF (by decide))).trans (FrC.sub F39 (by decide))) (by omega) (hC.trans (CHX.sub f35 (by simp) (by simp) (by simp))) (RDS.step hS hrw hnb f36 (by omega) (by omega) hM (by have z9 := wf_94 hw h_a; omega)) (by omega) rfl)
set_option maxHeartbeats 1000000 in
set_option maxRecDepth 20000 in
theorem l_X10_refresh_t9_157 (d : Nat) {T : CT} {σ0 : MS} {a : Nat} {c1 : Int} {rx2 : Nat} {Mn : Nat} {x : Nat} {n : Int} {W : Int → It} {xh : Nat} {Rh : Int → Int} {P : Int} {Nm : Int} {xn : Nat} {Rn : Int → Int} {xb : Nat} {B : Int → Int} {xs : Nat} {xt : Nat} {xf : Nat} {Rf : Int → Int} {wd : Int} {Fq : Int} {post : Option Value → CT → MS → Prop} (h_a : OB T a 10) (r_c1 : 0 ≤ c1 ∧ c1 ≤ 5) (h_rx2 : OB T rx2 1) (t_rx2 : (T rx2).1 = 50) (hw0 : WT T σ0) (hnb : ∀ k, 0 ≤ k → k < n → W k 0 = 12 → NBW W Rh P k (B k)) (hM : (Mn : Int) = (n + 1) * wd) (hMx : (Mn : Int) ≤ ((T xt).2 : Int)) (hx : σ0.2.1 5 rx2 = (x : Int)) (hn : σ0.2.1 6 rx2 = n) (hW : cW σ0 x n = W) (hxh : σ0.2.1 15 rx2 = (xh : Int)) (hRh : σ0.2.1 (1000 + xh) = Rh) (hP : σ0.2.1 8 rx2 = P) (hNm : σ0.2.1 7 rx2 = Nm) (hxn : σ0.2.1 14 rx2 = (xn : Int)) (hRn : σ0.2.1 (1000 + xn) = Rn) (hxb : σ0.2.1 90 a = (xb : Int)) (hB : σ0.2.1 (1000 + xb) = B) (hxs : σ0.2.1 91 a = (xs : Int)) (hxt : σ0.2.1 92 a = (xt : Int)) (hxf : σ0.2.1 89 a = (xf : Int)) (hRf : σ0.2.1 (1000 + xf) = Rf) (hwd : σ0.2.1 93 a = wd) (hN : n ≤ 200) (hne : x ≠ xb ∧ x ≠ xs ∧ x ≠ xt ∧ x ≠ xf ∧ xh ≠ xb ∧ xh ≠ xs ∧ xh ≠ xt ∧ xh ≠ xf ∧ xn ≠ xb ∧ xn ≠ xs ∧ xn ≠ xt ∧ xn ≠ xf ∧ xb ≠ xs ∧ xb ≠ xt ∧ xb ≠ xf ∧ xs ≠ xt ∧ xs ≠ xf ∧ xt ≠ xf) (hrw : RWT W n P Nm Fq wd Rh Rn) (hx_207 : ∀ (i4 : Int) (σ : MS) , (WT T σ) → (FrC T [94] σ0 σ) → (0 ≤ i4 ∧ i4 ≤ 1000000) → (CHX [(94, a)] [xs, xt] [] σ0 σ) → (True) → (TOKT (vW W) n P Nm Rh Rn Fq (tbR wd (σ.2.1 (1000 + xt)))) → Tn (d + 5) m_X10_refresh 207 T σ [(0, .ref a), (1, .int (iI c1)), (2, .ref rx2), (4, .int (iI i4))] [] post) : ∀ (nq9 : Nat) (i4 : Int) (σ : MS) , (WT T σ) → (FrC T [94] σ0 σ) → (0 ≤ i4 ∧ i4 ≤ 1000000) → (CHX [(94, a)] [xs, xt] [] σ0 σ) → (RDR W n P Nm Fq wd Rh Rn B Mn i4 (σ.2.1 (1000 + xt)) (σ.2.1 94 a)) → (2147483700 - i4).toNat = nq9 → Tn (d + 5) m_X10_refresh 157 T σ [(0, .ref a), (1, .int (iI c1)), (2, .ref rx2), (4, .int (iI i4))] [] post := by
  intro nq9
  induction nq9 using Nat.strongRecOn with
  | _ nq9 ih =>
    intro i4 σ hw hF r_i4 hC hA hm
    refine tn_aload_n dX10_refresh_157 rfl 0 rfl ?_
    refine tn_getI (ci := 10) (i := 6) (n := 94) (t := σ.2.1 94 a) dX10_refresh_158 rfl lay_10 (by decide) fl10_78 h_a rfl rfl (rfl) ?_
    have g1 : ((0 : Int) ≤ σ.2.1 94 a ∧ σ.2.1 94 a ≤ 1) := wf_94 hw h_a
    refine tn_if_eq (tgt := 207) dX10_refresh_161 (by decide) ⟨by omega, by omega⟩ (fun h2 => ?_) (fun h2 => ?_)
    · exact tn_sub [0, 1, 2, 3] rfl (hx_207 (i4) σ hw (FrC.rfl.trans (FrC.sub hF (by decide))) (by omega) hC True.intro (by have e : σ.2.1 94 a = 0 := (by omega); rw [e] at hA; exact hA.fin hrw hnb))
    · refine tn_iload dX10_refresh_164 3 rfl ?_
      refine tn_ldc (n := 1000000) dX10_refresh_166 cst10_82 rfl ?_
      refine tn_icmp_ge (tgt := 207) dX10_refresh_168 (by decide) ⟨by omega, by omega⟩ ⟨by decide, by decide⟩ (fun h3 => ?_) (fun h3 => ?_)
      · exact tn_sub [0, 1, 2, 3] rfl (hx_207 (i4) σ hw (FrC.rfl.trans (FrC.sub hF (by decide))) (by omega) hC True.intro (by have q := hA.2.1; exfalso; split at q <;> omega))
      · refine tn_aload_n dX10_refresh_171 rfl 0 rfl ?_
        refine tn_iconst dX10_refresh_172 ?_
        refine tn_putV (ci := 10) (i := 6) (n := 94) (r := false) (v := 0) tyX10 tyX10_ok nmX10 dX10_refresh_173 rfl lay_10 (by decide) fl10_78 rfl (tyX10_ok 6 (by decide)) rfl rfl rfl h_a rfl rfl ?_
        refine tn_iconst dX10_refresh_176 ?_
        refine tn_istore (L' := [(5, .int (iI 0)), (0, .ref a), (1, .int (iI c1)), (2, .ref rx2), (4, .int (iI i4))]) dX10_refresh_177 (by decide) rfl ?_
        have cv4 : cW (sA 94 a (0) σ) x n = W := (cW_fld (by decide)).trans ((cW_row (CHX.r hC (by first | (simp; done) | (simp only [List.mem_cons, List.not_mem_nil, or_false, not_or]; first | omega | ((repeat' apply And.intro) <;> first | assumption | (apply Ne.symm; assumption)))))).trans (hW))
        have cv5 : (sA 94 a (0) σ).2.1 (1000 + xh) = Rh := (rv_fld (by decide)).trans ((CHX.r hC (by first | (simp; done) | (simp only [List.mem_cons, List.not_mem_nil, or_false, not_or]; first | omega | ((repeat' apply And.intro) <;> first | assumption | (apply Ne.symm; assumption))))).trans (hRh))
        have cv6 : (sA 94 a (0) σ).2.1 (1000 + xn) = Rn := (rv_fld (by decide)).trans ((CHX.r hC (by first | (simp; done) | (simp only [List.mem_cons, List.not_mem_nil, or_false, not_or]; first | omega | ((repeat' apply And.intro) <;> first | assumption | (apply Ne.symm; assumption))))).trans (hRn))
        have cv7 : (sA 94 a (0) σ).2.1 (1000 + xb) = B := (rv_fld (by decide)).trans ((CHX.r hC (by first | (simp; done) | (simp only [List.mem_cons, List.not_mem_nil, or_false, not_or]; first | omega | ((repeat' apply And.intro) <;> first | assumption | (apply Ne.symm; assumption))))).trans (hB))
        have cv8 : (sA 94 a (0) σ).2.1 (1000 + xf) = Rf := (rv_fld (by decide)).trans ((CHX.r hC (by first | (simp; done) | (simp only [List.mem_cons, List.not_mem_nil, or_false, not_or]; first | omega | ((repeat' apply And.intro) <;> first | assumption | (apply Ne.symm; assumption))))).trans (hRf))
        refine tn_sub [1, 2, 3, 4, 0] rfl (l_X10_refresh_t9_179 (d) (T := T) (σ0 := (sA 94 a (0) σ)) (a := a) (c1 := c1) (rx2 := rx2) (c4 := i4) (x := x) (n := n) (W := (W)) (xh := xh) (Rh := (Rh)) (P := P) (Nm := Nm) (xn := xn) (Rn := (Rn)) (xb := xb) (B := (B)) (xs := xs) (xt := xt) (xf := xf) (Rf := (Rf)) (wd := wd) (Fq := Fq) (Mn := Mn) (rk0 := (rkN (σ.2.1 (1000 + xt)) Mn : Int)) h_a (by omega) h_rx2 t_rx2 (by omega) (hw.put (by decide) (by decide) (fo_94 (by omega))) hnb hM hMx (rc_o (by decide) (rc_F hF (Or.inl (by decide)) (by decide) (hx))) (rc_o (by decide) (rc_F hF (Or.inl (by decide)) (by decide) (hn))) cv4 (rc_o (by decide) (rc_F hF (Or.inl (by decide)) (by decide) (hxh))) cv5 (rc_o (by decide) (rc_F hF (Or.inl (by decide)) (by decide) (hP))) (rc_o (by decide) (rc_F hF (Or.inl (by decide)) (by decide) (hNm))) (rc_o (by decide) (rc_F hF (Or.inl (by decide)) (by decide) (hxn))) cv6 (rc_o (by decide) (rc_F hF (Or.inl (by decide)) (by decide) (hxb))) cv7 (rc_o (by decide) (rc_F hF (Or.inl (by decide)) (by decide) (hxs))) (rc_o (by decide) (rc_F hF (Or.inl (by decide)) (by decide) (hxt))) (rc_o (by decide) (rc_F hF (Or.inl (by decide)) (by decide) (hxf))) cv8 (rc_o (by decide) (rc_F hF (Or.inl (by decide)) (by decide) (hwd))) hN hne hrw (fun i59 σ10 w13 F14 r15 f16 f17 f18 f19 => ?_) _ (0) (sA 94 a (0) σ) (hw.put (by decide) (by decide) (fo_94 (by omega))) FrC.rfl (by omega) CHX.rfl (by rw [show ((sA 94 a (0) σ)).2.1 94 a = 0 from ra_eq, show ((sA 94 a (0) σ)).2.1 (1000 + xt) = σ.2.1 (1000 + xt) from rv_fld (by decide)]; exact hA.in) (by have z9 := hrw.1.2.2.2.2; omega) rfl)
        show Tn _ _ 201 T σ10 [(0, .ref a), (1, .int (iI c1)), (2, .ref rx2), (4, .int (iI i4)), (5, .int (iI i59))] [] _
        refine tn_iinc (q0 := 3) (L' := [(4, .int (iI (i4 + 1))), (0, .ref a), (1, .int (iI c1)), (2, .ref rx2), (5, .int (iI i59))]) dX10_refresh_201 rfl (by decide) rfl ?_
        refine tn_goto (tgt := 157) dX10_refresh_204 (by decide) ?_
        exact tn_sub [1, 2, 3, 0] rfl (ih _ (by omega) (i4 + 1) σ10 w13 (((FrC.rfl.trans (FrC.sub hF (by decide))).put (by decide) (by decide)).trans (FrC.sub F14 (by decide))) (by omega) ((hC.fld (by simp) (by decide)).trans (CHX.sub f16 (by simp) (by simp) (by simp))) (hA.next (by omega) f19) rfl)
set_option maxHeartbeats 1000000 in
set_option maxRecDepth 20000 in
theorem k_X10_refresh_t9 (d : Nat) {T : CT} {σ : MS} {a : Nat} {r : Int} {c : Nat} {z : Int} {x : Nat} {n : Int} {W : Int → It} {xh : Nat} {Rh : Int → Int} {P : Int} {Nm : Int} {xn : Nat} {Rn : Int → Int} {xb : Nat} {B : Int → Int} {xs : Nat} {xt : Nat} {xf : Nat} {Rf : Int → Int} {wd : Int} {Fq : Int} (ha : OB T a 10) (h_r : -2147483648 ≤ r ∧ r ≤ 2147483647) (h_c : OB T c 1) (t_c : (T c).1 = 50) (h_z : -2147483648 ≤ z ∧ z ≤ 2147483647) (hw : WT T σ) (hx : σ.2.1 5 c = (x : Int)) (hn : σ.2.1 6 c = n) (hW : cW σ x n = W) (hxh : σ.2.1 15 c = (xh : Int)) (hRh : σ.2.1 (1000 + xh) = Rh) (hP : σ.2.1 8 c = P) (hNm : σ.2.1 7 c = Nm) (hxn : σ.2.1 14 c = (xn : Int)) (hRn : σ.2.1 (1000 + xn) = Rn) (hxb : σ.2.1 90 a = (xb : Int)) (hB : σ.2.1 (1000 + xb) = B) (hxs : σ.2.1 91 a = (xs : Int)) (hxt : σ.2.1 92 a = (xt : Int)) (hxf : σ.2.1 89 a = (xf : Int)) (hRf : σ.2.1 (1000 + xf) = Rf) (hwd : σ.2.1 93 a = wd) (hN : n ≤ 200) (hne : x ≠ xb ∧ x ≠ xs ∧ x ≠ xt ∧ x ≠ xf ∧ xh ≠ xb ∧ xh ≠ xs ∧ xh ≠ xt ∧ xh ≠ xf ∧ xn ≠ xb ∧ xn ≠ xs ∧ xn ≠ xt ∧ xn ≠ xf ∧ xb ≠ xs ∧ xb ≠ xt ∧ xb ≠ xf ∧ xs ≠ xt ∧ xs ≠ xf ∧ xt ≠ xf) (hrw : RWT W n P Nm Fq wd Rh Rn) (hr : 0 ≤ r ∧ r < 6) (hz : z = (n + 1) * wd ∧ 0 ≤ z ∧ z ≤ ((T xt).2 : Int)) : Tn (d + 5) m_X10_refresh 109 T σ [(0, .ref a), (1, .int (iI r)), (2, .ref c), (3, .int (iI z))] [] (fun ro T2 σ2 => ro = none ∧ T = T2 ∧ WT T2 σ2 ∧ FrC T [94] σ σ2 ∧ (CHX [(94, a)] [xb, xs, xt, xf] [] σ σ2) ∧ (TOKT (vW W) n P Nm Rh Rn Fq (tbR wd (σ2.2.1 (1000 + xt)))) ∧ (σ2.2.1 (1000 + xf) = uZ Rf r 1)) := by
  have hwd9 := hrw.wdr
  have hnm9 := hrw.nm
  have hzz9 := hrw.zz hz.1
  refine tn_aload_n dX10_refresh_109 rfl 0 rfl ?_
  obtain ⟨hk3, hl4⟩ : AR T xt 1 0 32788 := ar_of ((wf_92 hw ha).resolve_left (by omega)) hxt
  have hk3i : IA T xt := by unfold IA; omega
  refine tn_getR (ci := 10) (i := 4) (n := 92) (x := xt) dX10_refresh_110 rfl lay_10 (by decide) fl10_61 ha rfl rfl (hxt) ?_
  refine tn_iconst dX10_refresh_113 ?_
  refine tn_iload_n dX10_refresh_114 rfl 3 rfl ?_
  refine tn_iconst dX10_refresh_115 ?_
  refine tn_callS (M := m_X10_refresh) (pc := 116) (ix := 64) (M' := m_J7_fill_fda19) (As := [.ref xt, .int (iI 0), .int (iI z), .int (iI 0)]) (rest := []) dX10_refresh_116 ok_J7_fill_fda19 stt_J7_fill_fda19 ml10_64 np_J7_fill_fda19 rfl (Nat.le_of_ble_eq_true rfl) (Nat.le_of_ble_eq_true rfl) rfl (k_J7_fill_fda19_x (d + 2) (T := T) (σ := σ) (x := xt) (f := 0) (t := z) (y := 0) hk3i (by omega) (by decide) (by omega) (by decide) hw (nh_k hk3 (by unfold HT; omega)) (by omega) (by omega)) (fun r5 T7 σ6 gt8 hp => ?_)
  obtain ⟨rfl, rfl, w12, F13, f9, f10⟩ := hp
  clear gt8
  show Tn _ _ 119 T σ6 [(0, .ref a), (1, .int (iI r)), (2, .ref c), (3, .int (iI z))] [] _
  refine tn_iconst dX10_refresh_119 ?_
  refine tn_istore (L' := [(4, .int (iI 0)), (0, .ref a), (1, .int (iI r)), (2, .ref c), (3, .int (iI z))]) dX10_refresh_120 (by decide) rfl ?_
  have cv14 : cW σ6 x n = W := (cW_row (CHX.r f9 (by first | (simp; done) | (simp only [List.mem_cons, List.not_mem_nil, or_false, not_or]; first | omega | ((repeat' apply And.intro) <;> first | assumption | (apply Ne.symm; assumption)))))).trans (hW)
  have cv15 : σ6.2.1 (1000 + xh) = Rh := (CHX.r f9 (by first | (simp; done) | (simp only [List.mem_cons, List.not_mem_nil, or_false, not_or]; first | omega | ((repeat' apply And.intro) <;> first | assumption | (apply Ne.symm; assumption))))).trans (hRh)
  have cv16 : σ6.2.1 (1000 + xn) = Rn := (CHX.r f9 (by first | (simp; done) | (simp only [List.mem_cons, List.not_mem_nil, or_false, not_or]; first | omega | ((repeat' apply And.intro) <;> first | assumption | (apply Ne.symm; assumption))))).trans (hRn)
  have cv17 : σ6.2.1 (1000 + xf) = Rf := (CHX.r f9 (by first | (simp; done) | (simp only [List.mem_cons, List.not_mem_nil, or_false, not_or]; first | omega | ((repeat' apply And.intro) <;> first | assumption | (apply Ne.symm; assumption))))).trans (hRf)
  refine tn_sub [1, 2, 3, 0] rfl (l_X10_refresh_t9_122 (d) (T := T) (σ0 := σ6) (a := a) (c1 := r) (rx2 := c) (x := x) (n := n) (W := (W)) (xh := xh) (Rh := (Rh)) (P := P) (Nm := Nm) (xn := xn) (Rn := (Rn)) (xb := xb) (B := B) (xs := xs) (xt := xt) (xf := xf) (Rf := (Rf)) (wd := wd) (Fq := Fq) ha (by omega) h_c t_c w12 (rc_F F13 (Or.inl (by decide)) (by decide) (hx)) (rc_F F13 (Or.inl (by decide)) (by decide) (hn)) cv14 (rc_F F13 (Or.inl (by decide)) (by decide) (hxh)) cv15 (rc_F F13 (Or.inl (by decide)) (by decide) (hP)) (rc_F F13 (Or.inl (by decide)) (by decide) (hNm)) (rc_F F13 (Or.inl (by decide)) (by decide) (hxn)) cv16 (rc_F F13 (Or.inl (by decide)) (by decide) (hxb)) (rc_F F13 (Or.inl (by decide)) (by decide) (hxs)) (rc_F F13 (Or.inl (by decide)) (by decide) (hxt)) (rc_F F13 (Or.inl (by decide)) (by decide) (hxf)) cv17 (rc_F F13 (Or.inl (by decide)) (by decide) (hwd)) hN hne hrw (fun i418 σ19 w22 F23 r24 f25 f26 f27 f28 => ?_) _ (0) σ6 w12 FrC.rfl (by omega) CHX.rfl (fun k a b => by omega) (by have z9 := hrw.1.2.2.2.2; omega) rfl)
  show Tn _ _ 144 T σ19 [(0, .ref a), (1, .int (iI r)), (2, .ref c), (4, .int (iI i418))] [] _
  have cv29 : σ19.2.1 (1000 + xt) = σ6.2.1 (1000 + xt) := (CHX.r f25 (by first | (simp; done) | (simp only [List.mem_cons, List.not_mem_nil, or_false, not_or]; first | omega | ((repeat' apply And.intro) <;> first | assumption | (apply Ne.symm; assumption))))).trans (rfl)
  refine tn_aload_n dX10_refresh_144 rfl 0 rfl ?_
  refine tn_aload_n dX10_refresh_145 rfl 2 rfl ?_
  obtain ⟨hk32, hl33⟩ : AR T xn 11 12 12 := ar_of (wf_14 hw h_c) hxn
  have hk32i : IA T xn := by unfold IA; omega
  have cv34 : σ19.2.1 (1000 + xn) = Rn := (CHX.r f25 (by first | (simp; done) | (simp only [List.mem_cons, List.not_mem_nil, or_false, not_or]; first | omega | ((repeat' apply And.intro) <;> first | assumption | (apply Ne.symm; assumption))))).trans (cv16)
  refine tn_callV (M := m_X10_refresh) (pc := 146) (ix := 74) (ci := 10) (M' := m_X10_begin) (As := [.ref c]) (rest := []) dX10_refresh_146 ok_X10_begin im_X10_begin se_X10_begin ml10_74 np_X10_begin rfl rfl ha rfl (Nat.le_of_ble_eq_true rfl) (Nat.le_of_ble_eq_true rfl) rfl (k_X10_begin_t (d + 2) (T := T) (σ := σ19) (a := a) (p1 := c) (xn := xn) (Rn := Rn) (P := P) (N := Nm) (xt := xt) (wd := wd) ha h_c t_c w22 (rc_F F23 (Or.inl (by decide)) (by decide) (rc_F F13 (Or.inl (by decide)) (by decide) (hxn))) cv34 (rc_F F23 (Or.inl (by decide)) (by decide) (rc_F F13 (Or.inl (by decide)) (by decide) (hP))) (rc_F F23 (Or.inl (by decide)) (by decide) (rc_F F13 (Or.inl (by decide)) (by decide) (hNm))) (rc_F F23 (Or.inl (by decide)) (by decide) (rc_F F13 (Or.inl (by decide)) (by decide) (hxt))) (rc_F F23 (Or.inl (by decide)) (by decide) (rc_F F13 (Or.inl (by decide)) (by decide) (hwd))) (by omega) (by omega)) (fun r35 T37 σ36 gt38 hp => ?_)
  obtain ⟨rfl, rfl, w42, F43, f39, f40⟩ := hp
  clear gt38
  show Tn _ _ 149 T σ36 [(0, .ref a), (1, .int (iI r)), (2, .ref c), (4, .int (iI i418))] [] _
  have htb := BGX.tbk hrw f40 (fun q a b => by rw [cv29]; exact f10.z a (by omega))
  refine tn_aload_n dX10_refresh_149 rfl 0 rfl ?_
  refine tn_iconst dX10_refresh_150 ?_
  refine tn_putV (ci := 10) (i := 6) (n := 94) (r := false) (v := 1) tyX10 tyX10_ok nmX10 dX10_refresh_151 rfl lay_10 (by decide) fl10_78 rfl (tyX10_ok 6 (by decide)) rfl rfl rfl ha rfl rfl ?_
  refine tn_iconst dX10_refresh_154 ?_
  refine tn_istore (L' := [(4, .int (iI 0)), (0, .ref a), (1, .int (iI r)), (2, .ref c)]) dX10_refresh_155 (by decide) rfl ?_
  have cv44 : cW (sA 94 a (1) σ36) x n = W := (cW_fld (by decide)).trans ((cW_row (CHX.r f39 (by first | (simp; done) | (simp only [List.mem_cons, List.not_mem_nil, or_false, not_or]; first | omega | ((repeat' apply And.intro) <;> first | assumption | (apply Ne.symm; assumption)))))).trans ((cW_row (CHX.r f25 (by first | (simp; done) | (simp only [List.mem_cons, List.not_mem_nil, or_false, not_or]; first | omega | ((repeat' apply And.intro) <;> first | assumption | (apply Ne.symm; assumption)))))).trans (cv14)))
  have cv45 : (sA 94 a (1) σ36).2.1 (1000 + xh) = Rh := (rv_fld (by decide)).trans ((CHX.r f39 (by first | (simp; done) | (simp only [List.mem_cons, List.not_mem_nil, or_false, not_or]; first | omega | ((repeat' apply And.intro) <;> first | assumption | (apply Ne.symm; assumption))))).trans ((CHX.r f25 (by first | (simp; done) | (simp only [List.mem_cons, List.not_mem_nil, or_false, not_or]; first | omega | ((repeat' apply And.intro) <;> first | assumption | (apply Ne.symm; assumption))))).trans (cv15)))
  have cv46 : (sA 94 a (1) σ36).2.1 (1000 + xn) = Rn := (rv_fld (by decide)).trans ((CHX.r f39 (by first | (simp; done) | (simp only [List.mem_cons, List.not_mem_nil, or_false, not_or]; first | omega | ((repeat' apply And.intro) <;> first | assumption | (apply Ne.symm; assumption))))).trans (cv34))
  have cv47 : (sA 94 a (1) σ36).2.1 (1000 + xb) = σ19.2.1 (1000 + xb) := (rv_fld (by decide)).trans ((CHX.r f39 (by first | (simp; done) | (simp only [List.mem_cons, List.not_mem_nil, or_false, not_or]; first | omega | ((repeat' apply And.intro) <;> first | assumption | (apply Ne.symm; assumption))))).trans (rfl))
  have cv48 : (sA 94 a (1) σ36).2.1 (1000 + xf) = Rf := (rv_fld (by decide)).trans ((CHX.r f39 (by first | (simp; done) | (simp only [List.mem_cons, List.not_mem_nil, or_false, not_or]; first | omega | ((repeat' apply And.intro) <;> first | assumption | (apply Ne.symm; assumption))))).trans ((CHX.r f25 (by first | (simp; done) | (simp only [List.mem_cons, List.not_mem_nil, or_false, not_or]; first | omega | ((repeat' apply And.intro) <;> first | assumption | (apply Ne.symm; assumption))))).trans (cv17)))
  refine tn_sub [1, 2, 3, 0] rfl (l_X10_refresh_t9_157 (d) (T := T) (σ0 := (sA 94 a (1) σ36)) (a := a) (c1 := r) (rx2 := c) (x := x) (n := n) (W := (W)) (xh := xh) (Rh := (Rh)) (P := P) (Nm := Nm) (xn := xn) (Rn := (Rn)) (xb := xb) (B := (σ19.2.1 (1000 + xb))) (xs := xs) (xt := xt) (xf := xf) (Rf := (Rf)) (wd := wd) (Fq := Fq) (Mn := z.toNat) ha (by omega) h_c t_c (w42.put (by decide) (by decide) (fo_94 (by omega))) f28 (by omega) (by omega) (rc_o (by decide) (rc_F F43 (Or.inl (by decide)) (by decide) (rc_F F23 (Or.inl (by decide)) (by decide) (rc_F F13 (Or.inl (by decide)) (by decide) (hx))))) (rc_o (by decide) (rc_F F43 (Or.inl (by decide)) (by decide) (rc_F F23 (Or.inl (by decide)) (by decide) (rc_F F13 (Or.inl (by decide)) (by decide) (hn))))) cv44 (rc_o (by decide) (rc_F F43 (Or.inl (by decide)) (by decide) (rc_F F23 (Or.inl (by decide)) (by decide) (rc_F F13 (Or.inl (by decide)) (by decide) (hxh))))) cv45 (rc_o (by decide) (rc_F F43 (Or.inl (by decide)) (by decide) (rc_F F23 (Or.inl (by decide)) (by decide) (rc_F F13 (Or.inl (by decide)) (by decide) (hP))))) (rc_o (by decide) (rc_F F43 (Or.inl (by decide)) (by decide) (rc_F F23 (Or.inl (by decide)) (by decide) (rc_F F13 (Or.inl (by decide)) (by decide) (hNm))))) (rc_o (by decide) (rc_F F43 (Or.inl (by decide)) (by decide) (rc_F F23 (Or.inl (by decide)) (by decide) (rc_F F13 (Or.inl (by decide)) (by decide) (hxn))))) cv46 (rc_o (by decide) (rc_F F43 (Or.inl (by decide)) (by decide) (rc_F F23 (Or.inl (by decide)) (by decide) (rc_F F13 (Or.inl (by decide)) (by decide) (hxb))))) cv47 (rc_o (by decide) (rc_F F43 (Or.inl (by decide)) (by decide) (rc_F F23 (Or.inl (by decide)) (by decide) (rc_F F13 (Or.inl (by decide)) (by decide) (hxs))))) (rc_o (by decide) (rc_F F43 (Or.inl (by decide)) (by decide) (rc_F F23 (Or.inl (by decide)) (by decide) (rc_F F13 (Or.inl (by decide)) (by decide) (hxt))))) (rc_o (by decide) (rc_F F43 (Or.inl (by decide)) (by decide) (rc_F F23 (Or.inl (by decide)) (by decide) (rc_F F13 (Or.inl (by decide)) (by decide) (hxf))))) cv48 (rc_o (by decide) (rc_F F43 (Or.inl (by decide)) (by decide) (rc_F F23 (Or.inl (by decide)) (by decide) (rc_F F13 (Or.inl (by decide)) (by decide) (hwd))))) hN hne hrw (fun i449 σ50 w53 F54 r55 f56 f57 f58 => ?_) _ (0) (sA 94 a (1) σ36) (w42.put (by decide) (by decide) (fo_94 (by omega))) FrC.rfl (by omega) CHX.rfl (by rw [show ((sA 94 a (1) σ36)).2.1 94 a = 1 from ra_eq, show ((sA 94 a (1) σ36)).2.1 (1000 + xt) = σ36.2.1 (1000 + xt) from rv_fld (by decide)]; exact RDR.start hrw (by omega) htb) rfl)
  show Tn _ _ 207 T σ50 [(0, .ref a), (1, .int (iI r)), (2, .ref c), (4, .int (iI i449))] [] _
  have cv59 : σ50.2.1 (1000 + xf) = Rf := (CHX.r f56 (by first | (simp; done) | (simp only [List.mem_cons, List.not_mem_nil, or_false, not_or]; first | omega | ((repeat' apply And.intro) <;> first | assumption | (apply Ne.symm; assumption))))).trans (cv48)
  refine tn_aload_n dX10_refresh_207 rfl 0 rfl ?_
  obtain ⟨hk62, hl63⟩ : AR T xf 1 6 6 := ar_of (wf_89 hw ha) hxf
  have hk62i : IA T xf := by unfold IA; omega
  refine tn_getR (ci := 10) (i := 1) (n := 89) (x := xf) dX10_refresh_208 rfl lay_10 (by decide) fl10_17 ha rfl rfl (rc_F F54 (Or.inl (by decide)) (by decide) (rc_o (by decide) (rc_F F43 (Or.inl (by decide)) (by decide) (rc_F F23 (Or.inl (by decide)) (by decide) (rc_F F13 (Or.inl (by decide)) (by decide) (hxf)))))) ?_
  refine tn_iload_n dX10_refresh_211 rfl 1 rfl ?_
  refine tn_iconst dX10_refresh_212 ?_
  refine tn_iast (z := r) (v := 1) dX10_refresh_213 hk62i (by omega) (by omega) (by omega) ?_
  have cv64 : (sA (1000 + xf) (r) (1) σ50).2.1 (1000 + xt) = σ50.2.1 (1000 + xt) := (rv_arr (by omega)).trans (rfl)
  exact tn_vret rfl dX10_refresh_214 ⟨rfl, rfl, (w53.arr (Or.inl hk62i) (vok_1 (by have q9 := hk62; omega) (by omega))), ((((((FrC.rfl.trans (FrC.sub F13 (by decide))).trans (FrC.sub F23 (by decide))).trans (FrC.sub F43 (by decide))).put (by decide) (by decide)).trans (FrC.sub F54 (by decide))).arr (hk_no (nh_k hk62 (by unfold HT; omega)))), ((((((CHX.rfl.trans (CHX.sub f9 (by simp) (by simp) (by simp))).trans (CHX.sub f25 (by simp) (by simp) (by simp))).trans (CHX.sub f39 (by simp) (by simp) (by simp))).fld (by simp) (by decide)).trans (CHX.sub f56 (by simp) (by simp) (by simp))).arr (by simp)), (by rw [cv64]; exact f58), (row_put.trans (congrArg (fun f => uZ f r 1) cv59))⟩
end
