def fn (σ : MS) (m c : Int) : Int := if m = 2 then 1 else σ.2.1 14 (σ.2.1 78 c)

theorem fl12_572 : Cond.fieldLink RX12 572 (TX12 83).1 (TX12 83).2.1 (TX12 83).2.2.1 ∈ pWW := pw7 (List.mem_of_getElem? (i := 88) rfl) rfl
theorem fl12_575 : Cond.fieldLink RX12 575 (TX12 84).1 (TX12 84).2.1 (TX12 84).2.2.1 ∈ pWW := pw7 (List.mem_of_getElem? (i := 89) rfl) rfl
theorem dX12_isFrame_39 : decode cX12_isFrame 39 = .ok (.iload 5, 2) := by decide +kernel
theorem dX12_isFrame_41 : decode cX12_isFrame 41 = .ok (.iconst (-1), 1) := by decide +kernel
theorem dX12_isFrame_42 : decode cX12_isFrame 42 = .ok (.if_icmp .eq 56, 3) := by decide +kernel
theorem dX12_isFrame_45 : decode cX12_isFrame 45 = .ok (.iload_n 3, 1) := by decide +kernel
theorem dX12_isFrame_46 : decode cX12_isFrame 46 = .ok (.ifCond .ne 17, 3) := by decide +kernel
theorem dX12_isFrame_63 : decode cX12_isFrame 63 = .ok (.iinc 3 (-1), 3) := by decide +kernel
theorem dX12_isFrame_66 : decode cX12_isFrame 66 = .ok (.iload_n 1, 1) := by decide +kernel
theorem dX12_isFrame_67 : decode cX12_isFrame 67 = .ok (.iconst 2, 1) := by decide +kernel
theorem dX12_isFrame_68 : decode cX12_isFrame 68 = .ok (.if_icmp .ne 7, 3) := by decide +kernel
theorem dX12_isFrame_75 : decode cX12_isFrame 75 = .ok (.aload_n 0, 1) := by decide +kernel
theorem dX12_isFrame_76 : decode cX12_isFrame 76 = .ok (.getfield 50, 3) := by decide +kernel
theorem dX12_isFrame_79 : decode cX12_isFrame 79 = .ok (.bipush 12, 2) := by decide +kernel
theorem dX12_isFrame_81 : decode cX12_isFrame 81 = .ok (.aload_n 0, 1) := by decide +kernel
theorem dX12_isFrame_82 : decode cX12_isFrame 82 = .ok (.getfield 167, 3) := by decide +kernel
theorem dX12_isFrame_85 : decode cX12_isFrame 85 = .ok (.iload 4, 2) := by decide +kernel
theorem dX12_isFrame_87 : decode cX12_isFrame 87 = .ok (.iaload, 1) := by decide +kernel
theorem dX12_isFrame_88 : decode cX12_isFrame 88 = .ok (.imul, 1) := by decide +kernel
theorem dX12_isFrame_89 : decode cX12_isFrame 89 = .ok (.iload 5, 2) := by decide +kernel
theorem dX12_isFrame_91 : decode cX12_isFrame 91 = .ok (.iadd, 1) := by decide +kernel
theorem dX12_isFrame_92 : decode cX12_isFrame 92 = .ok (.iaload, 1) := by decide +kernel
theorem dX12_isFrame_93 : decode cX12_isFrame 93 = .ok (.istore 5, 2) := by decide +kernel
theorem dX12_isFrame_95 : decode cX12_isFrame 95 = .ok (.goto (-56), 3) := by decide +kernel
theorem dX12_isFrame_71 : decode cX12_isFrame 71 = .ok (.iconst (-1), 1) := by decide +kernel
theorem dX12_isFrame_72 : decode cX12_isFrame 72 = .ok (.goto 21, 3) := by decide +kernel
theorem dX12_isFrame_49 : decode cX12_isFrame 49 = .ok (.aload_n 0, 1) := by decide +kernel
theorem dX12_isFrame_50 : decode cX12_isFrame 50 = .ok (.iload 4, 2) := by decide +kernel
theorem dX12_isFrame_52 : decode cX12_isFrame 52 = .ok (.putfield 572, 3) := by decide +kernel
theorem dX12_isFrame_55 : decode cX12_isFrame 55 = .ok (.aload_n 0, 1) := by decide +kernel
theorem dX12_isFrame_56 : decode cX12_isFrame 56 = .ok (.iload 5, 2) := by decide +kernel
theorem dX12_isFrame_58 : decode cX12_isFrame 58 = .ok (.putfield 575, 3) := by decide +kernel
theorem dX12_isFrame_61 : decode cX12_isFrame 61 = .ok (.iconst 1, 1) := by decide +kernel
theorem dX12_isFrame_62 : decode cX12_isFrame 62 = .ok (.ireturn, 1) := by decide +kernel
set_option maxHeartbeats 4000000 in
set_option maxRecDepth 20000 in
theorem l_isFr2 (d : Nat) {b : Nat} {σ : MS} {m : Int} {k : Int} {c : Int} {post : Option Value → MS → Prop} (hR : RG σ) (hm2 : 0 ≤ m ∧ m ≤ 2) (hmc : 0 ≤ σ.2.1 73 m ∧ σ.2.1 73 m ≤ 9) (hde : ∀ c, 9 * m ≤ c → c < 9 * m + σ.2.1 73 m → DEC σ m c (fn σ m c)) (hc : 9 * m ≤ c ∧ c < 9 * m + σ.2.1 73 m) (hx_98 : ∀ (w : Int) (f : Int) , (0 ≤ w ∧ w ≤ 2147483647) → Tm (d + 1) m_X12_isFrame 98 b σ [(5, .int (iI f)), (4, .int (iI c)), (3, .int (iI w)), (0, .ref b), (1, .int (iI m)), (2, .int (iI k))] [] post) (hr1 : ∀ c f, 9 * m ≤ c → c < 9 * m + σ.2.1 73 m → 0 ≤ f → f < fn σ m c → post (some (.int (iI 1))) (sS 84 f (sS 83 c σ))) : ∀ (n : Nat) (w : Int) (f : Int) , (-1 ≤ f ∧ f < fn σ m c ∧ 0 ≤ w ∧ w ≤ 2147483647) → (f + 1).toNat = n → Tm (d + 1) m_X12_isFrame 39 b σ [(5, .int (iI f)), (4, .int (iI c)), (3, .int (iI w)), (0, .ref b), (1, .int (iI m)), (2, .int (iI k))] [] post := by
  intro n
  induction n using Nat.strongRecOn with
  | _ n ih =>
    intro w f h0 hm
    have hd := hde c hc.1 hc.2
    have hd1 := hd.1
    have hd2 := hd.2.1
    refine tm_iload dX12_isFrame_39 0 rfl ?_
    refine tm_iconst dX12_isFrame_41 ?_
    refine tm_icmp_eq (tgt := 98) dX12_isFrame_42 (by decide) ⟨by omega, by omega⟩ ⟨by decide, by decide⟩ (fun h1 => ?_) (fun h1 => ?_)
    · exact tm_sub [0, 1, 2, 3, 4, 5] rfl (hx_98 (w) (f) (by omega))
    · refine tm_iload_n dX12_isFrame_45 rfl 2 rfl ?_
      refine tm_if_ne (tgt := 63) dX12_isFrame_46 (by decide) ⟨by omega, by omega⟩ (fun h2 => ?_) (fun h2 => ?_)
      · have hdd := hd.2.2 f (by omega) (by omega)
        refine tm_iinc (q0 := 2) (L' := [(3, .int (iI (w + (-1)))), (5, .int (iI f)), (4, .int (iI c)), (0, .ref b), (1, .int (iI m)), (2, .int (iI k))]) dX12_isFrame_63 rfl (by decide) rfl ?_
        refine tm_iload_n dX12_isFrame_66 rfl 4 rfl ?_
        refine tm_iconst dX12_isFrame_67 ?_
        refine tm_icmp_ne (tgt := 75) dX12_isFrame_68 (by decide) ⟨by omega, by omega⟩ ⟨by decide, by decide⟩ (fun h3 => ?_) (fun h3 => ?_)
        · have hpr : pr σ m c f = σ.2.1 16 (12 * σ.2.1 78 c + f) := if_neg (by omega)
          rw [hpr] at hdd
          refine tm_aload_n dX12_isFrame_75 rfl 3 rfl ?_
          refine tm_get (k := 16) (v := .ref (b + 1 + 13)) lay_12 dX12_isFrame_76 (by decide) fl12_50 rfl ?_
          refine tm_bipush dX12_isFrame_79 (by decide) ?_
          refine tm_aload_n dX12_isFrame_81 rfl 3 rfl ?_
          refine tm_get (k := 78) (v := .ref (b + 1 + 49)) lay_12 dX12_isFrame_82 (by decide) fl12_167 rfl ?_
          refine tm_iload dX12_isFrame_85 2 rfl ?_
          refine tm_iald (z := c) (v := σ.2.1 78 c) dX12_isFrame_87 (show mT[49]? = some (78, 0, 27) from rfl) (by omega) (by omega) (by decide) (rfl) ?_
          have g4 := RG.a hR 78 (c)
          refine tm_imul dX12_isFrame_88 ?_
          refine tm_iload dX12_isFrame_89 1 rfl ?_
          refine tm_iadd dX12_isFrame_91 ?_
          refine tm_iald (z := (12 * (σ.2.1 78 c)) + f) (v := σ.2.1 16 ((12 * (σ.2.1 78 c)) + f)) dX12_isFrame_92 (show mT[13]? = some (16, 0, 72) from rfl) (by omega) (by omega) (by decide) (rfl) ?_
          have g5 := RG.a hR 16 ((12 * (σ.2.1 78 c)) + f)
          refine tm_istore (L' := [(5, .int (iI (σ.2.1 16 ((12 * (σ.2.1 78 c)) + f)))), (3, .int (iI (w + (-1)))), (4, .int (iI c)), (0, .ref b), (1, .int (iI m)), (2, .int (iI k))]) dX12_isFrame_93 (by decide) rfl ?_
          refine tm_goto (tgt := 39) dX12_isFrame_95 (by decide) ?_
          exact tm_sub [0, 2, 1, 3, 4, 5] rfl (ih _ (by omega) (w + (-1)) (σ.2.1 16 ((12 * (σ.2.1 78 c)) + f)) (by omega) rfl)
        · have hpr : pr σ m c f = -1 := if_pos (by omega)
          rw [hpr] at hdd
          refine tm_iconst dX12_isFrame_71 ?_
          refine tm_goto (tgt := 93) dX12_isFrame_72 (by decide) ?_
          refine tm_istore (L' := [(5, .int (iI (-1))), (3, .int (iI (w + (-1)))), (4, .int (iI c)), (0, .ref b), (1, .int (iI m)), (2, .int (iI k))]) dX12_isFrame_93 (by decide) rfl ?_
          refine tm_goto (tgt := 39) dX12_isFrame_95 (by decide) ?_
          exact tm_sub [0, 2, 1, 3, 4, 5] rfl (ih _ (by omega) (w + (-1)) (-1) (by omega) rfl)
      · refine tm_aload_n dX12_isFrame_49 rfl 3 rfl ?_
        refine tm_iload dX12_isFrame_50 1 rfl ?_
        refine tm_putS (k := 83) (v := c) lay_12 dX12_isFrame_52 (by decide) fl12_572 rfl (tyX12_ok 83 (by decide)) rfl rfl rfl ?_
        refine tm_aload_n dX12_isFrame_55 rfl 3 rfl ?_
        refine tm_iload dX12_isFrame_56 0 rfl ?_
        refine tm_putS (k := 84) (v := f) lay_12 dX12_isFrame_58 (by decide) fl12_575 rfl (tyX12_ok 84 (by decide)) rfl rfl rfl ?_
        refine tm_iconst dX12_isFrame_61 ?_
        exact tm_zret (v := 1) rfl (by decide) dX12_isFrame_62 (hr1 c f hc.1 hc.2 (by omega) (by omega))
theorem dX12_isFrame_17 : decode cX12_isFrame 17 = .ok (.iload 4, 2) := by decide +kernel
theorem dX12_isFrame_19 : decode cX12_isFrame 19 = .ok (.bipush 9, 2) := by decide +kernel
theorem dX12_isFrame_21 : decode cX12_isFrame 21 = .ok (.iload_n 1, 1) := by decide +kernel
theorem dX12_isFrame_22 : decode cX12_isFrame 22 = .ok (.imul, 1) := by decide +kernel
theorem dX12_isFrame_23 : decode cX12_isFrame 23 = .ok (.if_icmp .lt 81, 3) := by decide +kernel
theorem dX12_isFrame_26 : decode cX12_isFrame 26 = .ok (.iload_n 3, 1) := by decide +kernel
theorem dX12_isFrame_27 : decode cX12_isFrame 27 = .ok (.ifCond .lt 77, 3) := by decide +kernel
theorem dX12_isFrame_30 : decode cX12_isFrame 30 = .ok (.aload_n 0, 1) := by decide +kernel
theorem dX12_isFrame_31 : decode cX12_isFrame 31 = .ok (.getfield 173, 3) := by decide +kernel
theorem dX12_isFrame_34 : decode cX12_isFrame 34 = .ok (.iload 4, 2) := by decide +kernel
theorem dX12_isFrame_36 : decode cX12_isFrame 36 = .ok (.iaload, 1) := by decide +kernel
theorem dX12_isFrame_37 : decode cX12_isFrame 37 = .ok (.istore 5, 2) := by decide +kernel
theorem dX12_isFrame_98 : decode cX12_isFrame 98 = .ok (.iinc 4 (-1), 3) := by decide +kernel
theorem dX12_isFrame_101 : decode cX12_isFrame 101 = .ok (.goto (-84), 3) := by decide +kernel
set_option maxHeartbeats 4000000 in
set_option maxRecDepth 20000 in
theorem l_isFr1 (d : Nat) {b : Nat} {σ : MS} {m : Int} {k : Int} {post : Option Value → MS → Prop} (hR : RG σ) (hm2 : 0 ≤ m ∧ m ≤ 2) (hmc : 0 ≤ σ.2.1 73 m ∧ σ.2.1 73 m ≤ 9) (hde : ∀ c, 9 * m ≤ c → c < 9 * m + σ.2.1 73 m → DEC σ m c (fn σ m c)) (hx_104 : ∀ (w : Int) (c : Int) , Tm (d + 1) m_X12_isFrame 104 b σ [(4, .int (iI c)), (3, .int (iI w)), (0, .ref b), (1, .int (iI m)), (2, .int (iI k))] [] post) (hr1 : ∀ c f, 9 * m ≤ c → c < 9 * m + σ.2.1 73 m → 0 ≤ f → f < fn σ m c → post (some (.int (iI 1))) (sS 84 f (sS 83 c σ))) : ∀ (n : Nat) (w : Int) (c : Int) , (9 * m - 1 ≤ c ∧ c < 9 * m + σ.2.1 73 m ∧ -2147483648 ≤ w ∧ w ≤ 2147483647) → (c + 1 - 9 * m).toNat = n → Tm (d + 1) m_X12_isFrame 17 b σ [(4, .int (iI c)), (3, .int (iI w)), (0, .ref b), (1, .int (iI m)), (2, .int (iI k))] [] post := by
  intro n
  induction n using Nat.strongRecOn with
  | _ n ih =>
    intro w c h0 hm
    refine tm_iload dX12_isFrame_17 0 rfl ?_
    refine tm_bipush dX12_isFrame_19 (by decide) ?_
    refine tm_iload_n dX12_isFrame_21 rfl 3 rfl ?_
    refine tm_imul dX12_isFrame_22 ?_
    refine tm_icmp_lt (tgt := 104) dX12_isFrame_23 (by decide) ⟨by omega, by omega⟩ ⟨by omega, by omega⟩ (fun h1 => ?_) (fun h1 => ?_)
    · exact tm_sub [0, 1, 2, 3, 4] rfl (hx_104 (w) (c) )
    · refine tm_iload_n dX12_isFrame_26 rfl 1 rfl ?_
      refine tm_if_lt (tgt := 104) dX12_isFrame_27 (by decide) ⟨by omega, by omega⟩ (fun h2 => ?_) (fun h2 => ?_)
      · exact tm_sub [0, 1, 2, 3, 4] rfl (hx_104 (w) (c) )
      · have hd := hde c (by omega) (by omega)
        have hd2 := hd.2.1
        refine tm_aload_n dX12_isFrame_30 rfl 2 rfl ?_
        refine tm_get (k := 80) (v := .ref (b + 1 + 51)) lay_12 dX12_isFrame_31 (by decide) fl12_173 rfl ?_
        refine tm_iload dX12_isFrame_34 0 rfl ?_
        refine tm_iald (z := c) (v := σ.2.1 80 c) dX12_isFrame_36 (show mT[51]? = some (80, 0, 27) from rfl) (by omega) (by omega) (by decide) (rfl) ?_
        have g3 := RG.a hR 80 (c)
        refine tm_istore (L' := [(5, .int (iI (σ.2.1 80 c))), (4, .int (iI c)), (3, .int (iI w)), (0, .ref b), (1, .int (iI m)), (2, .int (iI k))]) dX12_isFrame_37 (by decide) rfl ?_
        refine tm_sub [0, 1, 2, 3, 4, 5] rfl (l_isFr2 (d) (σ := σ) (m := m) (k := k) (c := c) hR hm2 hmc hde ⟨by omega, by omega⟩ (fun w9 f10 f8 => ?_) hr1 _ (w) (σ.2.1 80 c) (by omega) rfl)
        show Tm _ _ 98 b σ [(5, .int (iI f10)), (4, .int (iI c)), (3, .int (iI w9)), (0, .ref b), (1, .int (iI m)), (2, .int (iI k))] [] _
        refine tm_iinc (q0 := 1) (L' := [(4, .int (iI (c + (-1)))), (5, .int (iI f10)), (3, .int (iI w9)), (0, .ref b), (1, .int (iI m)), (2, .int (iI k))]) dX12_isFrame_98 rfl (by decide) rfl ?_
        refine tm_goto (tgt := 17) dX12_isFrame_101 (by decide) ?_
        exact tm_sub [0, 2, 3, 4, 5] rfl (ih _ (by omega) (w9) (c + (-1)) (by omega) rfl)
theorem dX12_isFrame_0 : decode cX12_isFrame 0 = .ok (.iload_n 2, 1) := by decide +kernel
theorem dX12_isFrame_1 : decode cX12_isFrame 1 = .ok (.istore_n 3, 1) := by decide +kernel
theorem dX12_isFrame_2 : decode cX12_isFrame 2 = .ok (.bipush 9, 2) := by decide +kernel
theorem dX12_isFrame_4 : decode cX12_isFrame 4 = .ok (.iload_n 1, 1) := by decide +kernel
theorem dX12_isFrame_5 : decode cX12_isFrame 5 = .ok (.imul, 1) := by decide +kernel
theorem dX12_isFrame_6 : decode cX12_isFrame 6 = .ok (.aload_n 0, 1) := by decide +kernel
theorem dX12_isFrame_7 : decode cX12_isFrame 7 = .ok (.getfield 152, 3) := by decide +kernel
theorem dX12_isFrame_10 : decode cX12_isFrame 10 = .ok (.iload_n 1, 1) := by decide +kernel
theorem dX12_isFrame_11 : decode cX12_isFrame 11 = .ok (.iaload, 1) := by decide +kernel
theorem dX12_isFrame_12 : decode cX12_isFrame 12 = .ok (.iadd, 1) := by decide +kernel
theorem dX12_isFrame_13 : decode cX12_isFrame 13 = .ok (.iconst 1, 1) := by decide +kernel
theorem dX12_isFrame_14 : decode cX12_isFrame 14 = .ok (.isub, 1) := by decide +kernel
theorem dX12_isFrame_15 : decode cX12_isFrame 15 = .ok (.istore 4, 2) := by decide +kernel
theorem dX12_isFrame_104 : decode cX12_isFrame 104 = .ok (.iconst 0, 1) := by decide +kernel
theorem dX12_isFrame_105 : decode cX12_isFrame 105 = .ok (.ireturn, 1) := by decide +kernel
set_option maxHeartbeats 4000000 in
set_option maxRecDepth 20000 in
theorem c_X12_isFrame (d : Nat) {b : Nat} {σ : MS} {m : Int} {k : Int} (hR : RG σ) (hm2 : 0 ≤ m ∧ m ≤ 2) (hmc : 0 ≤ σ.2.1 73 m ∧ σ.2.1 73 m ≤ 9) (hde : ∀ c, 9 * m ≤ c → c < 9 * m + σ.2.1 73 m → DEC σ m c (fn σ m c)) (h_k : -2147483648 ≤ k ∧ k ≤ 2147483647) : Tm (d + 1) m_X12_isFrame 0 b σ [(0, .ref b), (1, .int (iI m)), (2, .int (iI k))] [] (fun ro σ2 => ∃ v : Int, ro = some (.int (iI v)) ∧ ((v = 0 ∨ v = 1)) ∧ (Fr [83, 84] [] [] σ σ2) ∧ (RG σ2) ∧ (v = 1 → 9 * m ≤ σ2.1 83 ∧ σ2.1 83 < 9 * m + σ.2.1 73 m ∧ 0 ≤ σ2.1 84 ∧ σ2.1 84 < fn σ m (σ2.1 83))) := by
  refine tm_iload_n dX12_isFrame_0 rfl 2 rfl ?_
  refine tm_istore_n (L' := [(3, .int (iI k)), (0, .ref b), (1, .int (iI m)), (2, .int (iI k))]) dX12_isFrame_1 rfl (by decide) rfl ?_
  refine tm_bipush dX12_isFrame_2 (by decide) ?_
  refine tm_iload_n dX12_isFrame_4 rfl 2 rfl ?_
  refine tm_imul dX12_isFrame_5 ?_
  refine tm_aload_n dX12_isFrame_6 rfl 1 rfl ?_
  refine tm_get (k := 73) (v := .ref (b + 1 + 44)) lay_12 dX12_isFrame_7 (by decide) fl12_152 rfl ?_
  refine tm_iload_n dX12_isFrame_10 rfl 2 rfl ?_
  refine tm_iald (z := m) (v := σ.2.1 73 m) dX12_isFrame_11 (show mT[44]? = some (73, 0, 3) from rfl) (by omega) (by omega) (by decide) (rfl) ?_
  have g1 := RG.a hR 73 (m)
  refine tm_iadd dX12_isFrame_12 ?_
  refine tm_iconst dX12_isFrame_13 ?_
  refine tm_isub dX12_isFrame_14 ?_
  refine tm_istore (L' := [(4, .int (iI (((9 * m) + (σ.2.1 73 m)) - 1))), (3, .int (iI k)), (0, .ref b), (1, .int (iI m)), (2, .int (iI k))]) dX12_isFrame_15 (by decide) rfl ?_
  refine tm_sub [0, 1, 2, 3, 4] rfl (l_isFr1 (d) (σ := σ) (m := m) (k := k) hR hm2 hmc hde (fun w6 c7 => ?_) (fun c f a e g i => ⟨_, rfl, by omega, (Fr.rfl.S (by decide)).S (by decide), (hR.S (by omega)).S (by have := (hde c a e).2.1; omega), fun _ => ⟨a, e, g, i⟩⟩) _ (k) (((9 * m) + (σ.2.1 73 m)) - 1) (by omega) rfl)
  show Tm _ _ 104 b σ [(4, .int (iI c7)), (3, .int (iI w6)), (0, .ref b), (1, .int (iI m)), (2, .int (iI k))] [] _
  refine tm_iconst dX12_isFrame_104 ?_
  exact tm_zret (v := 0) rfl (by decide) dX12_isFrame_105 (⟨_, rfl, by omega, Fr.rfl, hR, fun q => absurd q (by decide)⟩)
