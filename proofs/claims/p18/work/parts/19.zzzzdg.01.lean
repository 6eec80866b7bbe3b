section
set_option maxHeartbeats 1000000 in
set_option maxRecDepth 20000 in
theorem k_X11_told_t (d : Nat) {T : CT} {σ : MS} {a : Nat} {r : Int} {k : Int} {f : Int} {m : Int} {w : Int} {tl bb bs bf : Nat} (ha : OB T a 11) (h_r : -2147483648 ≤ r ∧ r ≤ 2147483647) (h_k : -2147483648 ≤ k ∧ k ≤ 2147483647) (h_f : -2147483648 ≤ f ∧ f ≤ 2147483647) (h_m : -2147483648 ≤ m ∧ m ≤ 2147483647) (h_w : -2147483648 ≤ w ∧ w ≤ 2147483647) (hw : WT T σ) (htl : σ.2.1 102 a = (tl : Int)) (hbb : σ.2.1 90 tl = (bb : Int)) (hbs : σ.2.1 91 tl = (bs : Int)) (hbf : σ.2.1 89 tl = (bf : Int)) (hkt : TLH T σ tl a bb bs bf) : Tn (d + 6) m_X11_told 0 T σ [(0, .ref a), (1, .int (iI r)), (2, .int (iI k)), (3, .int (iI f)), (4, .int (iI m)), (5, .int (iI w))] [] (fun ro T2 σ2 => ∃ v : Int, ro = some (.int (iI v)) ∧ WT T2 σ2 ∧ FrC T [92, 93, 94, 900] σ σ2 ∧ (-2147483648 ≤ v ∧ v ≤ 2147483647) ∧ (TLT T T2 σ σ2 tl a bb bs bf) ∧ (GT T T2)) := by
  refine tn_aload_n dX11_told_0 rfl 0 rfl ?_
  refine tn_iload_n dX11_told_1 rfl 1 rfl ?_
  refine tn_callV (M := m_X11_told) (pc := 2) (ix := 123) (ci := 11) (M' := m_X11_codeOf) (As := [.int (iI r)]) (rest := []) dX11_told_2 ok_X11_codeOf im_X11_codeOf se_X11_codeOf ml11_123 np_X11_codeOf rfl rfl ha rfl (Nat.le_of_ble_eq_true rfl) (Nat.le_of_ble_eq_true rfl) rfl (k_X11_codeOf_x (d + 4) (T := T) (σ := σ) (a := a) (r := r) ha (by omega) hw ) (fun r1 T3 σ2 gt4 hp => ?_)
  obtain ⟨v6, rfl, rfl, rfl, rv7, f5⟩ := hp
  clear gt4
  rcases rv7 with rv7 | ⟨xq8, rfl, hk9⟩
  · show Tn _ _ 5 T σ [(0, .ref a), (1, .int (iI r)), (2, .int (iI k)), (3, .int (iI f)), (4, .int (iI m)), (5, .int (iI w))] (vl true v6 :: []) _
    rw [vl_null rv7]
    refine tn_astoreN (L' := [(6, .null), (0, .ref a), (1, .int (iI r)), (2, .int (iI k)), (3, .int (iI f)), (4, .int (iI m)), (5, .int (iI w))]) dX11_told_5 (by decide) rfl ?_
    refine tn_aloadN dX11_told_7 0 rfl ?_
    refine tn_ifnullN (tgt := 47) dX11_told_9 (by decide) ?_
    refine tn_iconst dX11_told_47 ?_
    exact tn_iret rfl dX11_told_48 ⟨_, rfl, hw, FrC.rfl, by omega, Or.inl ⟨rfl, rfl⟩, GT.rfl⟩
  · show Tn _ _ 5 T σ [(0, .ref a), (1, .int (iI r)), (2, .int (iI k)), (3, .int (iI f)), (4, .int (iI m)), (5, .int (iI w))] (vl true (xq8 : Int) :: []) _
    rw [vl_ref rfl]
    have hk9o : OB T xq8 1 := ⟨by omega, by rw [hk9]; rfl, by omega⟩
    refine tn_astore (L' := [(6, .ref xq8), (0, .ref a), (1, .int (iI r)), (2, .int (iI k)), (3, .int (iI f)), (4, .int (iI m)), (5, .int (iI w))]) dX11_told_5 (by decide) rfl ?_
    refine tn_aload dX11_told_7 0 rfl ?_
    refine tn_ifnull dX11_told_9 ?_
    refine tn_iload_n dX11_told_12 rfl 3 rfl ?_
    refine tn_if_lt (tgt := 47) dX11_told_13 (by decide) ⟨by omega, by omega⟩ (fun h10 => ?_) (fun h10 => ?_)
    · refine tn_iconst dX11_told_47 ?_
      exact tn_iret rfl dX11_told_48 ⟨_, rfl, hw, FrC.rfl, by omega, Or.inl ⟨rfl, rfl⟩, GT.rfl⟩
    · refine tn_iload_n dX11_told_16 rfl 3 rfl ?_
      refine tn_aload dX11_told_17 0 rfl ?_
      refine tn_getI (ci := 1) (i := 1) (n := 6) (t := σ.2.1 6 xq8) dX11_told_19 rfl lay_1 (by decide) fl11_127 hk9o rfl rfl (rfl) ?_
      have g11 : ((0 : Int) ≤ σ.2.1 6 xq8 ∧ σ.2.1 6 xq8 ≤ 5000) ∧ ((T xq8).1 = 50 → σ.2.1 6 xq8 ≤ 200) := wf_6 hw hk9o
      have g11x := g11.2
      replace g11 := g11.1
      have g11x := g11x hk9
      refine tn_icmp_gt (tgt := 47) dX11_told_22 (by decide) ⟨by omega, by omega⟩ ⟨by omega, by omega⟩ (fun h12 => ?_) (fun h12 => ?_)
      · refine tn_iconst dX11_told_47 ?_
        exact tn_iret rfl dX11_told_48 ⟨_, rfl, hw, FrC.rfl, by omega, Or.inl ⟨rfl, rfl⟩, GT.rfl⟩
      · refine tn_aload dX11_told_25 0 rfl ?_
        refine tn_iload_n dX11_told_27 rfl 4 rfl ?_
        refine tn_iload dX11_told_28 5 rfl ?_
        refine tn_callV (M := m_X11_told) (pc := 30) (ix := 172) (ci := 1) (M' := m_X1_hasName) (As := [.int (iI f), .int (iI m)]) (rest := []) dX11_told_30 ok_X1_hasName im_X1_hasName se_X1_hasName ml11_172 np_X1_hasName rfl rfl hk9o rfl (Nat.le_of_ble_eq_true rfl) (Nat.le_of_ble_eq_true rfl) rfl (k_X1_hasName (d + 3) (T := T) (σ := σ) (a := xq8) (f := f) (m := m) hk9o (by omega) (by omega) hw ) (fun r13 T15 σ14 gt16 hp => ?_)
        obtain ⟨v18, rfl, rfl, rfl, f17⟩ := hp
        clear gt16
        show Tn _ _ 33 T σ [(6, .ref xq8), (0, .ref a), (1, .int (iI r)), (2, .int (iI k)), (3, .int (iI f)), (4, .int (iI m)), (5, .int (iI w))] [.int (iI v18)] _
        refine tn_if_eq (tgt := 47) dX11_told_33 (by decide) ⟨by omega, by omega⟩ (fun h19 => ?_) (fun h19 => ?_)
        · refine tn_iconst dX11_told_47 ?_
          exact tn_iret rfl dX11_told_48 ⟨_, rfl, hw, FrC.rfl, by omega, Or.inl ⟨rfl, rfl⟩, GT.rfl⟩
        · refine tn_iload dX11_told_36 6 rfl ?_
          refine tn_if_lt (tgt := 47) dX11_told_38 (by decide) ⟨by omega, by omega⟩ (fun h20 => ?_) (fun h20 => ?_)
          · refine tn_iconst dX11_told_47 ?_
            exact tn_iret rfl dX11_told_48 ⟨_, rfl, hw, FrC.rfl, by omega, Or.inl ⟨rfl, rfl⟩, GT.rfl⟩
          · refine tn_iload dX11_told_41 6 rfl ?_
            refine tn_iconst dX11_told_43 ?_
            refine tn_icmp_le (tgt := 49) dX11_told_44 (by decide) ⟨by omega, by omega⟩ ⟨by decide, by decide⟩ (fun h21 => ?_) (fun h21 => ?_)
            · refine tn_aload_n dX11_told_49 rfl 1 rfl ?_
              have hk24 : (T tl).1 = 40 := ob_of (wf_102 hw ha) htl
              have hk24o : OB T tl 10 := ⟨by omega, by rw [hk24]; rfl, by omega⟩
              refine tn_getR (ci := 11) (i := 7) (n := 102) (x := tl) dX11_told_50 rfl lay_11 (by decide) fl11_39 ha rfl rfl (htl) ?_
              refine tn_iload_n dX11_told_53 rfl 2 rfl ?_
              refine tn_aload dX11_told_54 0 rfl ?_
              refine tn_callV (M := m_X11_told) (pc := 56) (ix := 176) (ci := 10) (M' := m_X10_refresh) (As := [.int (iI r), .ref xq8]) (rest := []) dX11_told_56 ok_X10_refresh im_X10_refresh se_X10_refresh ml11_176 np_X10_refresh rfl rfl hk24o rfl (Nat.le_of_ble_eq_true rfl) (Nat.le_of_ble_eq_true rfl) rfl (k_X10_refresh_t (d) (T := T) (σ := σ) (a := tl) (r := r) (c := xq8) hk24o (by omega) hk9o hk9 hw (hbb) (hbs) (hbf) (hkt xq8 r (by have z9 := f5; unfold CDF at z9; omega) (by have z9 := f5; unfold CDF at z9; omega) (by have z9 := f5; unfold CDF at z9; omega)).1 (hkt xq8 r (by have z9 := f5; unfold CDF at z9; omega) (by have z9 := f5; unfold CDF at z9; omega) (by have z9 := f5; unfold CDF at z9; omega)).2) (fun r26 T28 σ27 gt29 hp => ?_)
              obtain ⟨rfl, w32, F33, f30⟩ := hp
              replace ha : OB T28 a 11 := gt29.ob ha
              replace hk9o : OB T28 xq8 1 := gt29.ob hk9o
              replace hk9 : (T28 xq8).1 = 50 := gt29.kk hk9 (by decide) (by decide)
              show Tn _ _ 59 T28 σ27 [(6, .ref xq8), (0, .ref a), (1, .int (iI r)), (2, .int (iI k)), (3, .int (iI f)), (4, .int (iI m)), (5, .int (iI w))] [] _
              refine tn_aload_n dX11_told_59 rfl 1 rfl ?_
              obtain ⟨xq34, hx35, hk36⟩ : ∃ x : Nat, σ27.2.1 102 a = (x : Int) ∧ (T28 x).1 = 40 := wf_102 w32 ha
              have hk36o : OB T28 xq34 10 := ⟨by omega, by rw [hk36]; rfl, by omega⟩
              refine tn_getR (ci := 11) (i := 7) (n := 102) (x := xq34) dX11_told_60 rfl lay_11 (by decide) fl11_39 ha rfl rfl (hx35) ?_
              refine tn_iload_n dX11_told_63 rfl 2 rfl ?_
              refine tn_aload_n dX11_told_64 rfl 1 rfl ?_
              refine tn_getR (ci := 11) (i := 7) (n := 102) (x := xq34) dX11_told_65 rfl lay_11 (by decide) fl11_39 ha rfl rfl (hx35) ?_
              refine tn_aload dX11_told_68 0 rfl ?_
              refine tn_iload_n dX11_told_70 rfl 3 rfl ?_
              refine tn_iload_n dX11_told_71 rfl 4 rfl ?_
              refine tn_callV (M := m_X11_told) (pc := 72) (ix := 180) (ci := 10) (M' := m_X10_slotAt) (As := [.ref xq8, .int (iI k), .int (iI f)]) (rest := [.int (iI r), .ref xq34]) dX11_told_72 ok_X10_slotAt im_X10_slotAt se_X10_slotAt ml11_180 np_X10_slotAt rfl rfl hk36o rfl (Nat.le_of_ble_eq_true rfl) (Nat.le_of_ble_eq_true rfl) rfl (k_X10_slotAt (d + 3) (T := T28) (σ := σ27) (a := xq34) (c := xq8) (k := k) (f := f) hk36o hk9o (by omega) (by omega) w32 ) (fun r38 T40 σ39 gt41 hp => ?_)
              obtain ⟨v43, rfl, rfl, rfl, f42⟩ := hp
              clear gt41
              show Tn _ _ 75 T28 σ27 [(6, .ref xq8), (0, .ref a), (1, .int (iI r)), (2, .int (iI k)), (3, .int (iI f)), (4, .int (iI m)), (5, .int (iI w))] [.int (iI v43), .int (iI r), .ref xq34] _
              refine tn_iload dX11_told_75 5 rfl ?_
              refine tn_iadd dX11_told_77 ?_
              refine tn_any (fun z44 g45 => ?_)
              have g45r : -2147483648 ≤ z44 ∧ z44 ≤ 2147483647 := g45
              refine tn_callV (M := m_X11_told) (pc := 78) (ix := 184) (ci := 10) (M' := m_X10_idIn) (As := [.int (iI r), .int (iI z44)]) (rest := []) dX11_told_78 ok_X10_idIn im_X10_idIn se_X10_idIn ml11_184 np_X10_idIn rfl rfl hk36o rfl (Nat.le_of_ble_eq_true rfl) (Nat.le_of_ble_eq_true rfl) rfl (k_X10_idIn (d + 3) (T := T28) (σ := σ27) (a := xq34) (p1 := r) (p2 := z44) hk36o (by omega) (by omega) w32 ) (fun r46 T48 σ47 gt49 hp => ?_)
              obtain ⟨v51, rfl, rfl, rfl, f50⟩ := hp
              clear gt49
              show Tn _ _ 81 T28 σ27 [(6, .ref xq8), (0, .ref a), (1, .int (iI r)), (2, .int (iI k)), (3, .int (iI f)), (4, .int (iI m)), (5, .int (iI w))] [.int (iI v51)] _
              refine tn_istore (L' := [(7, .int (iI v51)), (6, .ref xq8), (0, .ref a), (1, .int (iI r)), (2, .int (iI k)), (3, .int (iI f)), (4, .int (iI m)), (5, .int (iI w))]) dX11_told_81 (by decide) rfl ?_
              refine tn_iload dX11_told_83 7 rfl ?_
              by_cases h52 : w < 0 ∨ 3 < w
              · refine tn_tableOut (tgt := 167) dX11_told_85 (x := w) ⟨by omega, by omega⟩ h52 (by decide) ?_
                refine tn_aload_n dX11_told_167 rfl 2 rfl ?_
                refine tn_getR (ci := 11) (i := 7) (n := 102) (x := xq34) dX11_told_168 rfl lay_11 (by decide) fl11_39 ha rfl rfl (hx35) ?_
                refine tn_aload dX11_told_171 1 rfl ?_
                refine tn_iload dX11_told_173 0 rfl ?_
                refine tn_bipush dX11_told_175 (by decide) ?_
                refine tn_callV (M := m_X11_told) (pc := 177) (ix := 191) (ci := 10) (M' := m_X10_part) (As := [.ref xq8, .int (iI v51), .int (iI 6)]) (rest := []) dX11_told_177 ok_X10_part im_X10_part se_X10_part ml11_191 np_X10_part rfl rfl hk36o rfl (Nat.le_of_ble_eq_true rfl) (Nat.le_of_ble_eq_true rfl) rfl (k_X10_part (d + 2) (T := T28) (σ := σ27) (a := xq34) (c := xq8) (i := v51) (e := 6) hk36o hk9o (by omega) (by decide) w32 (by omega)) (fun r53 T55 σ54 gt56 hp => ?_)
                obtain ⟨v58, rfl, rfl, rfl, f57⟩ := hp
                clear gt56
                show Tn _ _ 180 T28 σ27 [(7, .int (iI v51)), (6, .ref xq8), (0, .ref a), (1, .int (iI r)), (2, .int (iI k)), (3, .int (iI f)), (4, .int (iI m)), (5, .int (iI w))] [.int (iI v58)] _
                exact tn_iret rfl dX11_told_180 ⟨_, rfl, w32, (FrC.rfl.trans (FrC.sub F33 (by decide))), by omega, Or.inr ⟨xq8, r, ⟨by have z9 := f5; unfold CDF at z9; omega, by have z9 := f5; unfold CDF at z9; omega, by have z9 := f5; unfold CDF at z9; omega⟩, f30⟩, gt29⟩
              · have h59 : w = 0 ∨ w = 1 ∨ w = 2 ∨ w = 3 := by omega
                rcases h59 with h59 | h59 | h59 | h59
                · refine tn_tableIn (tgt := 116) (off := 31) dX11_told_85 (x := w) ⟨by omega, by omega⟩ (by omega) (by omega) (by rw [h59]; rfl) (by decide) ?_
                  refine tn_aload_n dX11_told_116 rfl 2 rfl ?_
                  refine tn_getR (ci := 11) (i := 7) (n := 102) (x := xq34) dX11_told_117 rfl lay_11 (by decide) fl11_39 ha rfl rfl (hx35) ?_
                  refine tn_aload dX11_told_120 1 rfl ?_
                  refine tn_iload dX11_told_122 0 rfl ?_
                  refine tn_callV (M := m_X11_told) (pc := 124) (ix := 187) (ci := 10) (M' := m_X10_whereOf) (As := [.ref xq8, .int (iI v51)]) (rest := []) dX11_told_124 ok_X10_whereOf im_X10_whereOf se_X10_whereOf ml11_187 np_X10_whereOf rfl rfl hk36o rfl (Nat.le_of_ble_eq_true rfl) (Nat.le_of_ble_eq_true rfl) rfl (k_X10_whereOf (d + 3) (T := T28) (σ := σ27) (a := xq34) (c := xq8) (i := v51) hk36o hk9o (by omega) w32 ) (fun r60 T62 σ61 gt63 hp => ?_)
                  obtain ⟨v65, rfl, rfl, rfl, f64⟩ := hp
                  clear gt63
                  show Tn _ _ 127 T28 σ27 [(7, .int (iI v51)), (6, .ref xq8), (0, .ref a), (1, .int (iI r)), (2, .int (iI k)), (3, .int (iI f)), (4, .int (iI m)), (5, .int (iI w))] [.int (iI v65)] _
                  exact tn_iret rfl dX11_told_127 ⟨_, rfl, w32, (FrC.rfl.trans (FrC.sub F33 (by decide))), by omega, Or.inr ⟨xq8, r, ⟨by have z9 := f5; unfold CDF at z9; omega, by have z9 := f5; unfold CDF at z9; omega, by have z9 := f5; unfold CDF at z9; omega⟩, f30⟩, gt29⟩
                · refine tn_tableIn (tgt := 128) (off := 43) dX11_told_85 (x := w) ⟨by omega, by omega⟩ (by omega) (by omega) (by rw [h59]; rfl) (by decide) ?_
                  refine tn_aload_n dX11_told_128 rfl 2 rfl ?_
                  refine tn_getR (ci := 11) (i := 7) (n := 102) (x := xq34) dX11_told_129 rfl lay_11 (by decide) fl11_39 ha rfl rfl (hx35) ?_
                  refine tn_aload dX11_told_132 1 rfl ?_
                  refine tn_iload dX11_told_134 0 rfl ?_
                  refine tn_iconst dX11_told_136 ?_
                  refine tn_callV (M := m_X11_told) (pc := 137) (ix := 191) (ci := 10) (M' := m_X10_part) (As := [.ref xq8, .int (iI v51), .int (iI 3)]) (rest := []) dX11_told_137 ok_X10_part im_X10_part se_X10_part ml11_191 np_X10_part rfl rfl hk36o rfl (Nat.le_of_ble_eq_true rfl) (Nat.le_of_ble_eq_true rfl) rfl (k_X10_part (d + 2) (T := T28) (σ := σ27) (a := xq34) (c := xq8) (i := v51) (e := 3) hk36o hk9o (by omega) (by decide) w32 (by omega)) (fun r66 T68 σ67 gt69 hp => ?_)
                  obtain ⟨v71, rfl, rfl, rfl, f70⟩ := hp
                  clear gt69
                  show Tn _ _ 140 T28 σ27 [(7, .int (iI v51)), (6, .ref xq8), (0, .ref a), (1, .int (iI r)), (2, .int (iI k)), (3, .int (iI f)), (4, .int (iI m)), (5, .int (iI w))] [.int (iI v71)] _
                  exact tn_iret rfl dX11_told_140 ⟨_, rfl, w32, (FrC.rfl.trans (FrC.sub F33 (by decide))), by omega, Or.inr ⟨xq8, r, ⟨by have z9 := f5; unfold CDF at z9; omega, by have z9 := f5; unfold CDF at z9; omega, by have z9 := f5; unfold CDF at z9; omega⟩, f30⟩, gt29⟩
                · refine tn_tableIn (tgt := 141) (off := 56) dX11_told_85 (x := w) ⟨by omega, by omega⟩ (by omega) (by omega) (by rw [h59]; rfl) (by decide) ?_
                  refine tn_aload_n dX11_told_141 rfl 2 rfl ?_
                  refine tn_getR (ci := 11) (i := 7) (n := 102) (x := xq34) dX11_told_142 rfl lay_11 (by decide) fl11_39 ha rfl rfl (hx35) ?_
                  refine tn_aload dX11_told_145 1 rfl ?_
                  refine tn_iload dX11_told_147 0 rfl ?_
                  refine tn_iconst dX11_told_149 ?_
                  refine tn_callV (M := m_X11_told) (pc := 150) (ix := 191) (ci := 10) (M' := m_X10_part) (As := [.ref xq8, .int (iI v51), .int (iI 5)]) (rest := []) dX11_told_150 ok_X10_part im_X10_part se_X10_part ml11_191 np_X10_part rfl rfl hk36o rfl (Nat.le_of_ble_eq_true rfl) (Nat.le_of_ble_eq_true rfl) rfl (k_X10_part (d + 2) (T := T28) (σ := σ27) (a := xq34) (c := xq8) (i := v51) (e := 5) hk36o hk9o (by omega) (by decide) w32 (by omega)) (fun r72 T74 σ73 gt75 hp => ?_)
                  obtain ⟨v77, rfl, rfl, rfl, f76⟩ := hp
                  clear gt75
                  show Tn _ _ 153 T28 σ27 [(7, .int (iI v51)), (6, .ref xq8), (0, .ref a), (1, .int (iI r)), (2, .int (iI k)), (3, .int (iI f)), (4, .int (iI m)), (5, .int (iI w))] [.int (iI v77)] _
                  exact tn_iret rfl dX11_told_153 ⟨_, rfl, w32, (FrC.rfl.trans (FrC.sub F33 (by decide))), by omega, Or.inr ⟨xq8, r, ⟨by have z9 := f5; unfold CDF at z9; omega, by have z9 := f5; unfold CDF at z9; omega, by have z9 := f5; unfold CDF at z9; omega⟩, f30⟩, gt29⟩
                · refine tn_tableIn (tgt := 154) (off := 69) dX11_told_85 (x := w) ⟨by omega, by omega⟩ (by omega) (by omega) (by rw [h59]; rfl) (by decide) ?_
                  refine tn_aload_n dX11_told_154 rfl 2 rfl ?_
                  refine tn_getR (ci := 11) (i := 7) (n := 102) (x := xq34) dX11_told_155 rfl lay_11 (by decide) fl11_39 ha rfl rfl (hx35) ?_
                  refine tn_aload dX11_told_158 1 rfl ?_
                  refine tn_iload dX11_told_160 0 rfl ?_
                  refine tn_iconst dX11_told_162 ?_
                  refine tn_callV (M := m_X11_told) (pc := 163) (ix := 191) (ci := 10) (M' := m_X10_part) (As := [.ref xq8, .int (iI v51), .int (iI 4)]) (rest := []) dX11_told_163 ok_X10_part im_X10_part se_X10_part ml11_191 np_X10_part rfl rfl hk36o rfl (Nat.le_of_ble_eq_true rfl) (Nat.le_of_ble_eq_true rfl) rfl (k_X10_part (d + 2) (T := T28) (σ := σ27) (a := xq34) (c := xq8) (i := v51) (e := 4) hk36o hk9o (by omega) (by decide) w32 (by omega)) (fun r78 T80 σ79 gt81 hp => ?_)
                  obtain ⟨v83, rfl, rfl, rfl, f82⟩ := hp
                  clear gt81
                  show Tn _ _ 166 T28 σ27 [(7, .int (iI v51)), (6, .ref xq8), (0, .ref a), (1, .int (iI r)), (2, .int (iI k)), (3, .int (iI f)), (4, .int (iI m)), (5, .int (iI w))] [.int (iI v83)] _
                  exact tn_iret rfl dX11_told_166 ⟨_, rfl, w32, (FrC.rfl.trans (FrC.sub F33 (by decide))), by omega, Or.inr ⟨xq8, r, ⟨by have z9 := f5; unfold CDF at z9; omega, by have z9 := f5; unfold CDF at z9; omega, by have z9 := f5; unfold CDF at z9; omega⟩, f30⟩, gt29⟩
            · refine tn_iconst dX11_told_47 ?_
              exact tn_iret rfl dX11_told_48 ⟨_, rfl, hw, FrC.rfl, by omega, Or.inl ⟨rfl, rfl⟩, GT.rfl⟩
end
