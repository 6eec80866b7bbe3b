section
theorem arC_boolean : Cond.arrayClass .boolean ∈ pWW := pw8 (List.mem_of_getElem? (i := 27) rfl) rfl
def z0 : MS := (fun j => if j = 27 then -1 else 0, fun _ _ => 0, fun _ _ => 0)
def mFk (b k : Nat) : List Value := [.int (iI 0), (if 0 < k then .ref (b + 1 + 0) else .null), .int (iI 0), (if 1 < k then .ref (b + 1 + 1) else .null), (if 2 < k then .ref (b + 1 + 2) else .null), (if 3 < k then .ref (b + 1 + 3) else .null), (if 4 < k then .ref (b + 1 + 4) else .null), (if 5 < k then .ref (b + 1 + 5) else .null), (if 6 < k then .ref (b + 1 + 6) else .null), (if 7 < k then .ref (b + 1 + 7) else .null), .int (iI 0), (if 8 < k then .ref (b + 1 + 8) else .null), (if 9 < k then .ref (b + 1 + 9) else .null), (if 10 < k then .ref (b + 1 + 10) else .null), (if 11 < k then .ref (b + 1 + 11) else .null), (if 12 < k then .ref (b + 1 + 12) else .null), (if 13 < k then .ref (b + 1 + 13) else .null), (if 14 < k then .ref (b + 1 + 14) else .null), (if 15 < k then .ref (b + 1 + 15) else .null), .int (iI 0), .int (iI 0), .int (iI 0), .int (iI 0), .int (iI 0), .long 0, .int (iI 0), .int (iI 0), .int (iI (if 16 < k then -1 else 0)), .int (iI 0), .int (iI 0), .int (iI 0), .int (iI 0), .int (iI 0), .int (iI 0), .int (iI 0), (if 16 < k then .ref (b + 1 + 16) else .null), (if 17 < k then .ref (b + 1 + 17) else .null), (if 18 < k then .ref (b + 1 + 18) else .null), (if 19 < k then .ref (b + 1 + 19) else .null), .int (iI 0), .int (iI 0), (if 20 < k then .ref (b + 1 + 20) else .null), (if 21 < k then .ref (b + 1 + 21) else .null), .int (iI 0), (if 22 < k then .ref (b + 1 + 22) else .null), (if 23 < k then .ref (b + 1 + 23) else .null), (if 24 < k then .ref (b + 1 + 24) else .null), (if 25 < k then .ref (b + 1 + 25) else .null), (if 26 < k then .ref (b + 1 + 26) else .null), (if 27 < k then .ref (b + 1 + 27) else .null), (if 28 < k then .ref (b + 1 + 28) else .null), (if 29 < k then .ref (b + 1 + 29) else .null), (if 30 < k then .ref (b + 1 + 30) else .null), (if 31 < k then .ref (b + 1 + 31) else .null), (if 32 < k then .ref (b + 1 + 32) else .null), (if 33 < k then .ref (b + 1 + 33) else .null), (if 34 < k then .ref (b + 1 + 34) else .null), (if 35 < k then .ref (b + 1 + 35) else .null), (if 36 < k then .ref (b + 1 + 36) else .null), (if 37 < k then .ref (b + 1 + 37) else .null), (if 38 < k then .ref (b + 1 + 38) else .null), (if 39 < k then .ref (b + 1 + 39) else .null), .int (iI 0), (if 40 < k then .ref (b + 1 + 40) else .null), (if 41 < k then .ref (b + 1 + 41) else .null), (if 42 < k then .ref (b + 1 + 42) else .null), (if 43 < k then .ref (b + 1 + 43) else .null), .int (iI 0), .int (iI 0), .int (iI 0), .int (iI 0), .int (iI 0), .int (iI 0), (if 44 < k then .ref (b + 1 + 44) else .null), (if 45 < k then .ref (b + 1 + 45) else .null), (if 46 < k then .ref (b + 1 + 46) else .null), (if 47 < k then .ref (b + 1 + 47) else .null), (if 48 < k then .ref (b + 1 + 48) else .null), (if 49 < k then .ref (b + 1 + 49) else .null), (if 50 < k then .ref (b + 1 + 50) else .null), (if 51 < k then .ref (b + 1 + 51) else .null), (if 52 < k then .ref (b + 1 + 52) else .null), (if 53 < k then .ref (b + 1 + 53) else .null), .int (iI 0), .int (iI 0), .int (iI 0), (if 54 < k then .ref (b + 1 + 54) else .null)]
def ovK (b k : Nat) (P0 : PH) : PH := fun q => if q = b then some (.inr (12, mFk b k)) else if b < q ∧ q < b + 1 + k then mC z0 (q - b - 1) else P0 q
theorem ovK_b {b k : Nat} {P0 : PH} {e : pE} : pS (ovK b k P0) (b + 1 + k) e b = some (.inr (12, mFk b k)) := by
  rw [pS_ne (by omega)]
  exact if_pos rfl
theorem ovK_step {b k : Nat} {P0 : PH} {e : pE} {Y : List Value} (he : mC z0 k = some e) (hf : Y = mFk b (k + 1)) : pS (pS (ovK b k P0) (b + 1 + k) e) b (.inr (12, Y)) = ovK b (k + 1) P0 := by
  rw [hf]
  funext q
  by_cases h1 : q = b
  · simp only [pS, ovK, if_pos h1]
  · by_cases h2 : q = b + 1 + k
    · simp only [pS, ovK, if_neg h1, if_pos h2]
      rw [if_pos (by omega), h2, show b + 1 + k - b - 1 = k by omega, he]
    · simp only [pS, ovK, if_neg h1, if_neg h2]
      by_cases h3 : b < q ∧ q < b + 1 + k
      · rw [if_pos h3, if_pos (by omega)]
      · rw [if_neg h3, if_neg (by omega)]
theorem pS_3 {P : PH} {a b : Nat} {x y e : pE} (h : a ≠ b) : pS (pS (pS P b x) a e) b y = pS (pS P a e) b y := by
  funext q
  unfold pS
  by_cases h1 : q = b
  · rw [if_pos h1, if_pos h1]
  · rw [if_neg h1, if_neg h1, if_neg h1]
theorem ovK_b3 {b k : Nat} {P0 : PH} {e : pE} {X : List Value} : pS (pS (ovK b k P0) b (.inr (12, X))) (b + 1 + k) e b = some (.inr (12, X)) := by
  rw [pS_ne (by omega), pS_same]
theorem ovK_0 {b : Nat} {P0 : PH} : pS P0 b (.inr (12, mFk b 0)) = ovK b 0 P0 := by
  funext q
  unfold pS ovK
  by_cases h1 : q = b
  · rw [if_pos h1, if_pos h1]
  · rw [if_neg h1, if_neg h1, if_neg (by omega)]
theorem ovK_55 {b : Nat} {P0 : PH} : ovK b 55 P0 = ovM b z0 P0 := by
  funext q
  unfold ovK ovM
  by_cases h1 : q = b
  · rw [if_pos h1, if_pos h1]
    rfl
  · rw [if_neg h1, if_neg h1]
theorem mlo12_1 : Cond.methodLink RX12 1 objectInit ∈ pWW := pw7 (List.mem_of_getElem? (i := 3) rfl) rfl
theorem dX12_init_5 : decode cX12_init 5 = .ok (.sipush 1200, 3) := by decide +kernel
theorem dX12_init_4 : decode cX12_init 4 = .ok (.aload_n 0, 1) := by decide +kernel
theorem dX12_init_8 : decode cX12_init 8 = .ok (.newarray .byte, 2) := by decide +kernel
theorem dX12_init_10 : decode cX12_init 10 = .ok (.putfield 7, 3) := by decide +kernel
set_option maxRecDepth 20000 in
theorem in_0 (d : Nat) {b n n2 : Nat} {P0 PF : PH} (hn2 : 1200 + n = n2) (kk : Wp (d + 1) m_X12_init 13 (ovK b 1 P0) (b + 1 + 1) [(0, .ref b)] [] (none, PF, b + 56, n)) : Wp (d + 1) m_X12_init 4 (ovK b 0 P0) (b + 1 + 0) [(0, .ref b)] [] (none, PF, b + 56, n2) := by
  subst hn2
  refine wp_aload_n dX12_init_4 rfl 0 rfl ?_
  refine wp_sipush (v := iI 1200) dX12_init_5 (iI_16 (by decide)) ?_
  refine wp_newa (atype := .byte) (tc := 1) (N := 1200) (a0 := (1200, .inl (fun _ => 0))) (o := (none, PF, b + 56, n)) dX12_init_8 arC_byte rfl (fun cA => rfl) (iI_n_lt (b := 0) ⟨by omega, by omega⟩ inR_0 (by omega)) (by rw [iI_nat (by omega) (by omega)]; rfl) (by show 1200 * 1 ≤ 536870912; omega) (by show b + 1 + 0 + 1 ≤ b + 56; omega) ?_
  refine wp_putF (ci := 12) (k := 1) (fs := mFk b 0) tyX12 tyX12_ok nmX12 dX12_init_10 rfl lay_12 (by decide) fl12_7 rfl rfl rfl (tyX12_ok 1 (by decide)) rfl rfl ovK_b ?_
  rw [ovK_step (b := b) (k := 0) (P0 := P0) (e := .inl (1, 1200, .inl (fun _ => 0))) (Y := (mFk b 0).set 1 (.ref (b + 1 + 0))) rfl rfl]
  exact kk
theorem dX12_init_14 : decode cX12_init 14 = .ok (.sipush 2860, 3) := by decide +kernel
theorem dX12_init_13 : decode cX12_init 13 = .ok (.aload_n 0, 1) := by decide +kernel
theorem dX12_init_17 : decode cX12_init 17 = .ok (.newarray .int, 2) := by decide +kernel
theorem dX12_init_19 : decode cX12_init 19 = .ok (.putfield 13, 3) := by decide +kernel
set_option maxRecDepth 20000 in
theorem in_1 (d : Nat) {b n n2 : Nat} {P0 PF : PH} (hn2 : 2860 + n = n2) (kk : Wp (d + 1) m_X12_init 22 (ovK b 2 P0) (b + 1 + 2) [(0, .ref b)] [] (none, PF, b + 56, n)) : Wp (d + 1) m_X12_init 13 (ovK b 1 P0) (b + 1 + 1) [(0, .ref b)] [] (none, PF, b + 56, n2) := by
  subst hn2
  refine wp_aload_n dX12_init_13 rfl 0 rfl ?_
  refine wp_sipush (v := iI 2860) dX12_init_14 (iI_16 (by decide)) ?_
  refine wp_newa (atype := .int) (tc := 0) (N := 2860) (a0 := (2860, .inl (fun _ => 0))) (o := (none, PF, b + 56, n)) dX12_init_17 arC_int rfl (fun cA => rfl) (iI_n_lt (b := 0) ⟨by omega, by omega⟩ inR_0 (by omega)) (by rw [iI_nat (by omega) (by omega)]; rfl) (by show 2860 * 4 ≤ 536870912; omega) (by show b + 1 + 1 + 1 ≤ b + 56; omega) ?_
  refine wp_putF (ci := 12) (k := 3) (fs := mFk b 1) tyX12 tyX12_ok nmX12 dX12_init_19 rfl lay_12 (by decide) fl12_13 rfl rfl rfl (tyX12_ok 3 (by decide)) rfl rfl ovK_b ?_
  rw [ovK_step (b := b) (k := 1) (P0 := P0) (e := .inl (0, 2860, .inl (fun _ => 0))) (Y := (mFk b 1).set 3 (.ref (b + 1 + 1))) rfl rfl]
  exact kk
theorem dX12_init_23 : decode cX12_init 23 = .ok (.sipush 2860, 3) := by decide +kernel
theorem dX12_init_22 : decode cX12_init 22 = .ok (.aload_n 0, 1) := by decide +kernel
theorem dX12_init_26 : decode cX12_init 26 = .ok (.newarray .int, 2) := by decide +kernel
theorem dX12_init_28 : decode cX12_init 28 = .ok (.putfield 17, 3) := by decide +kernel
set_option maxRecDepth 20000 in
theorem in_2 (d : Nat) {b n n2 : Nat} {P0 PF : PH} (hn2 : 2860 + n = n2) (kk : Wp (d + 1) m_X12_init 31 (ovK b 3 P0) (b + 1 + 3) [(0, .ref b)] [] (none, PF, b + 56, n)) : Wp (d + 1) m_X12_init 22 (ovK b 2 P0) (b + 1 + 2) [(0, .ref b)] [] (none, PF, b + 56, n2) := by
  subst hn2
  refine wp_aload_n dX12_init_22 rfl 0 rfl ?_
  refine wp_sipush (v := iI 2860) dX12_init_23 (iI_16 (by decide)) ?_
  refine wp_newa (atype := .int) (tc := 0) (N := 2860) (a0 := (2860, .inl (fun _ => 0))) (o := (none, PF, b + 56, n)) dX12_init_26 arC_int rfl (fun cA => rfl) (iI_n_lt (b := 0) ⟨by omega, by omega⟩ inR_0 (by omega)) (by rw [iI_nat (by omega) (by omega)]; rfl) (by show 2860 * 4 ≤ 536870912; omega) (by show b + 1 + 2 + 1 ≤ b + 56; omega) ?_
  refine wp_putF (ci := 12) (k := 4) (fs := mFk b 2) tyX12 tyX12_ok nmX12 dX12_init_28 rfl lay_12 (by decide) fl12_17 rfl rfl rfl (tyX12_ok 4 (by decide)) rfl rfl ovK_b ?_
  rw [ovK_step (b := b) (k := 2) (P0 := P0) (e := .inl (0, 2860, .inl (fun _ => 0))) (Y := (mFk b 2).set 4 (.ref (b + 1 + 2))) rfl rfl]
  exact kk
theorem dX12_init_32 : decode cX12_init 32 = .ok (.sipush 2860, 3) := by decide +kernel
theorem dX12_init_31 : decode cX12_init 31 = .ok (.aload_n 0, 1) := by decide +kernel
theorem dX12_init_35 : decode cX12_init 35 = .ok (.newarray .int, 2) := by decide +kernel
theorem dX12_init_37 : decode cX12_init 37 = .ok (.putfield 20, 3) := by decide +kernel
set_option maxRecDepth 20000 in
theorem in_3 (d : Nat) {b n n2 : Nat} {P0 PF : PH} (hn2 : 2860 + n = n2) (kk : Wp (d + 1) m_X12_init 40 (ovK b 4 P0) (b + 1 + 4) [(0, .ref b)] [] (none, PF, b + 56, n)) : Wp (d + 1) m_X12_init 31 (ovK b 3 P0) (b + 1 + 3) [(0, .ref b)] [] (none, PF, b + 56, n2) := by
  subst hn2
  refine wp_aload_n dX12_init_31 rfl 0 rfl ?_
  refine wp_sipush (v := iI 2860) dX12_init_32 (iI_16 (by decide)) ?_
  refine wp_newa (atype := .int) (tc := 0) (N := 2860) (a0 := (2860, .inl (fun _ => 0))) (o := (none, PF, b + 56, n)) dX12_init_35 arC_int rfl (fun cA => rfl) (iI_n_lt (b := 0) ⟨by omega, by omega⟩ inR_0 (by omega)) (by rw [iI_nat (by omega) (by omega)]; rfl) (by show 2860 * 4 ≤ 536870912; omega) (by show b + 1 + 3 + 1 ≤ b + 56; omega) ?_
  refine wp_putF (ci := 12) (k := 5) (fs := mFk b 3) tyX12 tyX12_ok nmX12 dX12_init_37 rfl lay_12 (by decide) fl12_20 rfl rfl rfl (tyX12_ok 5 (by decide)) rfl rfl ovK_b ?_
  rw [ovK_step (b := b) (k := 3) (P0 := P0) (e := .inl (0, 2860, .inl (fun _ => 0))) (Y := (mFk b 3).set 5 (.ref (b + 1 + 3))) rfl rfl]
  exact kk
theorem dX12_init_41 : decode cX12_init 41 = .ok (.sipush 2860, 3) := by decide +kernel
theorem dX12_init_40 : decode cX12_init 40 = .ok (.aload_n 0, 1) := by decide +kernel
theorem dX12_init_44 : decode cX12_init 44 = .ok (.newarray .int, 2) := by decide +kernel
theorem dX12_init_46 : decode cX12_init 46 = .ok (.putfield 23, 3) := by decide +kernel
set_option maxRecDepth 20000 in
theorem in_4 (d : Nat) {b n n2 : Nat} {P0 PF : PH} (hn2 : 2860 + n = n2) (kk : Wp (d + 1) m_X12_init 49 (ovK b 5 P0) (b + 1 + 5) [(0, .ref b)] [] (none, PF, b + 56, n)) : Wp (d + 1) m_X12_init 40 (ovK b 4 P0) (b + 1 + 4) [(0, .ref b)] [] (none, PF, b + 56, n2) := by
  subst hn2
  refine wp_aload_n dX12_init_40 rfl 0 rfl ?_
  refine wp_sipush (v := iI 2860) dX12_init_41 (iI_16 (by decide)) ?_
  refine wp_newa (atype := .int) (tc := 0) (N := 2860) (a0 := (2860, .inl (fun _ => 0))) (o := (none, PF, b + 56, n)) dX12_init_44 arC_int rfl (fun cA => rfl) (iI_n_lt (b := 0) ⟨by omega, by omega⟩ inR_0 (by omega)) (by rw [iI_nat (by omega) (by omega)]; rfl) (by show 2860 * 4 ≤ 536870912; omega) (by show b + 1 + 4 + 1 ≤ b + 56; omega) ?_
  refine wp_putF (ci := 12) (k := 6) (fs := mFk b 4) tyX12 tyX12_ok nmX12 dX12_init_46 rfl lay_12 (by decide) fl12_23 rfl rfl rfl (tyX12_ok 6 (by decide)) rfl rfl ovK_b ?_
  rw [ovK_step (b := b) (k := 4) (P0 := P0) (e := .inl (0, 2860, .inl (fun _ => 0))) (Y := (mFk b 4).set 6 (.ref (b + 1 + 4))) rfl rfl]
  exact kk
theorem dX12_init_50 : decode cX12_init 50 = .ok (.sipush 11440, 3) := by decide +kernel
theorem dX12_init_49 : decode cX12_init 49 = .ok (.aload_n 0, 1) := by decide +kernel
theorem dX12_init_53 : decode cX12_init 53 = .ok (.newarray .int, 2) := by decide +kernel
theorem dX12_init_55 : decode cX12_init 55 = .ok (.putfield 26, 3) := by decide +kernel
set_option maxRecDepth 20000 in
theorem in_5 (d : Nat) {b n n2 : Nat} {P0 PF : PH} (hn2 : 11440 + n = n2) (kk : Wp (d + 1) m_X12_init 58 (ovK b 6 P0) (b + 1 + 6) [(0, .ref b)] [] (none, PF, b + 56, n)) : Wp (d + 1) m_X12_init 49 (ovK b 5 P0) (b + 1 + 5) [(0, .ref b)] [] (none, PF, b + 56, n2) := by
  subst hn2
  refine wp_aload_n dX12_init_49 rfl 0 rfl ?_
  refine wp_sipush (v := iI 11440) dX12_init_50 (iI_16 (by decide)) ?_
  refine wp_newa (atype := .int) (tc := 0) (N := 11440) (a0 := (11440, .inl (fun _ => 0))) (o := (none, PF, b + 56, n)) dX12_init_53 arC_int rfl (fun cA => rfl) (iI_n_lt (b := 0) ⟨by omega, by omega⟩ inR_0 (by omega)) (by rw [iI_nat (by omega) (by omega)]; rfl) (by show 11440 * 4 ≤ 536870912; omega) (by show b + 1 + 5 + 1 ≤ b + 56; omega) ?_
  refine wp_putF (ci := 12) (k := 7) (fs := mFk b 5) tyX12 tyX12_ok nmX12 dX12_init_55 rfl lay_12 (by decide) fl12_26 rfl rfl rfl (tyX12_ok 7 (by decide)) rfl rfl ovK_b ?_
  rw [ovK_step (b := b) (k := 5) (P0 := P0) (e := .inl (0, 11440, .inl (fun _ => 0))) (Y := (mFk b 5).set 7 (.ref (b + 1 + 5))) rfl rfl]
  exact kk
theorem dX12_init_59 : decode cX12_init 59 = .ok (.sipush 11440, 3) := by decide +kernel
theorem dX12_init_58 : decode cX12_init 58 = .ok (.aload_n 0, 1) := by decide +kernel
theorem dX12_init_62 : decode cX12_init 62 = .ok (.newarray .int, 2) := by decide +kernel
theorem dX12_init_64 : decode cX12_init 64 = .ok (.putfield 29, 3) := by decide +kernel
set_option maxRecDepth 20000 in
theorem in_6 (d : Nat) {b n n2 : Nat} {P0 PF : PH} (hn2 : 11440 + n = n2) (kk : Wp (d + 1) m_X12_init 67 (ovK b 7 P0) (b + 1 + 7) [(0, .ref b)] [] (none, PF, b + 56, n)) : Wp (d + 1) m_X12_init 58 (ovK b 6 P0) (b + 1 + 6) [(0, .ref b)] [] (none, PF, b + 56, n2) := by
  subst hn2
  refine wp_aload_n dX12_init_58 rfl 0 rfl ?_
  refine wp_sipush (v := iI 11440) dX12_init_59 (iI_16 (by decide)) ?_
  refine wp_newa (atype := .int) (tc := 0) (N := 11440) (a0 := (11440, .inl (fun _ => 0))) (o := (none, PF, b + 56, n)) dX12_init_62 arC_int rfl (fun cA => rfl) (iI_n_lt (b := 0) ⟨by omega, by omega⟩ inR_0 (by omega)) (by rw [iI_nat (by omega) (by omega)]; rfl) (by show 11440 * 4 ≤ 536870912; omega) (by show b + 1 + 6 + 1 ≤ b + 56; omega) ?_
  refine wp_putF (ci := 12) (k := 8) (fs := mFk b 6) tyX12 tyX12_ok nmX12 dX12_init_64 rfl lay_12 (by decide) fl12_29 rfl rfl rfl (tyX12_ok 8 (by decide)) rfl rfl ovK_b ?_
  rw [ovK_step (b := b) (k := 6) (P0 := P0) (e := .inl (0, 11440, .inl (fun _ => 0))) (Y := (mFk b 6).set 8 (.ref (b + 1 + 6))) rfl rfl]
  exact kk
theorem dX12_init_68 : decode cX12_init 68 = .ok (.bipush 13, 2) := by decide +kernel
theorem dX12_init_67 : decode cX12_init 67 = .ok (.aload_n 0, 1) := by decide +kernel
theorem dX12_init_70 : decode cX12_init 70 = .ok (.newarray .int, 2) := by decide +kernel
theorem dX12_init_72 : decode cX12_init 72 = .ok (.putfield 32, 3) := by decide +kernel
set_option maxRecDepth 20000 in
theorem in_7 (d : Nat) {b n n2 : Nat} {P0 PF : PH} (hn2 : 13 + n = n2) (kk : Wp (d + 1) m_X12_init 75 (ovK b 8 P0) (b + 1 + 8) [(0, .ref b)] [] (none, PF, b + 56, n)) : Wp (d + 1) m_X12_init 67 (ovK b 7 P0) (b + 1 + 7) [(0, .ref b)] [] (none, PF, b + 56, n2) := by
  subst hn2
  refine wp_aload_n dX12_init_67 rfl 0 rfl ?_
  refine wp_bipush (v := iI 13) dX12_init_68 (iI_8 (by decide)) ?_
  refine wp_newa (atype := .int) (tc := 0) (N := 13) (a0 := (13, .inl (fun _ => 0))) (o := (none, PF, b + 56, n)) dX12_init_70 arC_int rfl (fun cA => rfl) (iI_n_lt (b := 0) ⟨by omega, by omega⟩ inR_0 (by omega)) (by rw [iI_nat (by omega) (by omega)]; rfl) (by show 13 * 4 ≤ 536870912; omega) (by show b + 1 + 7 + 1 ≤ b + 56; omega) ?_
  refine wp_putF (ci := 12) (k := 9) (fs := mFk b 7) tyX12 tyX12_ok nmX12 dX12_init_72 rfl lay_12 (by decide) fl12_32 rfl rfl rfl (tyX12_ok 9 (by decide)) rfl rfl ovK_b ?_
  rw [ovK_step (b := b) (k := 7) (P0 := P0) (e := .inl (0, 13, .inl (fun _ => 0))) (Y := (mFk b 7).set 9 (.ref (b + 1 + 7))) rfl rfl]
  exact kk
theorem dX12_init_76 : decode cX12_init 76 = .ok (.bipush 6, 2) := by decide +kernel
theorem dX12_init_75 : decode cX12_init 75 = .ok (.aload_n 0, 1) := by decide +kernel
theorem dX12_init_78 : decode cX12_init 78 = .ok (.newarray .int, 2) := by decide +kernel
theorem dX12_init_80 : decode cX12_init 80 = .ok (.putfield 35, 3) := by decide +kernel
set_option maxRecDepth 20000 in
theorem in_8 (d : Nat) {b n n2 : Nat} {P0 PF : PH} (hn2 : 6 + n = n2) (kk : Wp (d + 1) m_X12_init 83 (ovK b 9 P0) (b + 1 + 9) [(0, .ref b)] [] (none, PF, b + 56, n)) : Wp (d + 1) m_X12_init 75 (ovK b 8 P0) (b + 1 + 8) [(0, .ref b)] [] (none, PF, b + 56, n2) := by
  subst hn2
  refine wp_aload_n dX12_init_75 rfl 0 rfl ?_
  refine wp_bipush (v := iI 6) dX12_init_76 (iI_8 (by decide)) ?_
  refine wp_newa (atype := .int) (tc := 0) (N := 6) (a0 := (6, .inl (fun _ => 0))) (o := (none, PF, b + 56, n)) dX12_init_78 arC_int rfl (fun cA => rfl) (iI_n_lt (b := 0) ⟨by omega, by omega⟩ inR_0 (by omega)) (by rw [iI_nat (by omega) (by omega)]; rfl) (by show 6 * 4 ≤ 536870912; omega) (by show b + 1 + 8 + 1 ≤ b + 56; omega) ?_
  refine wp_putF (ci := 12) (k := 11) (fs := mFk b 8) tyX12 tyX12_ok nmX12 dX12_init_80 rfl lay_12 (by decide) fl12_35 rfl rfl rfl (tyX12_ok 11 (by decide)) rfl rfl ovK_b ?_
  rw [ovK_step (b := b) (k := 8) (P0 := P0) (e := .inl (0, 6, .inl (fun _ => 0))) (Y := (mFk b 8).set 11 (.ref (b + 1 + 8))) rfl rfl]
  exact kk
theorem dX12_init_84 : decode cX12_init 84 = .ok (.bipush 6, 2) := by decide +kernel
theorem dX12_init_83 : decode cX12_init 83 = .ok (.aload_n 0, 1) := by decide +kernel
theorem dX12_init_86 : decode cX12_init 86 = .ok (.newarray .int, 2) := by decide +kernel
theorem dX12_init_88 : decode cX12_init 88 = .ok (.putfield 38, 3) := by decide +kernel
set_option maxRecDepth 20000 in
theorem in_9 (d : Nat) {b n n2 : Nat} {P0 PF : PH} (hn2 : 6 + n = n2) (kk : Wp (d + 1) m_X12_init 91 (ovK b 10 P0) (b + 1 + 10) [(0, .ref b)] [] (none, PF, b + 56, n)) : Wp (d + 1) m_X12_init 83 (ovK b 9 P0) (b + 1 + 9) [(0, .ref b)] [] (none, PF, b + 56, n2) := by
  subst hn2
  refine wp_aload_n dX12_init_83 rfl 0 rfl ?_
  refine wp_bipush (v := iI 6) dX12_init_84 (iI_8 (by decide)) ?_
  refine wp_newa (atype := .int) (tc := 0) (N := 6) (a0 := (6, .inl (fun _ => 0))) (o := (none, PF, b + 56, n)) dX12_init_86 arC_int rfl (fun cA => rfl) (iI_n_lt (b := 0) ⟨by omega, by omega⟩ inR_0 (by omega)) (by rw [iI_nat (by omega) (by omega)]; rfl) (by show 6 * 4 ≤ 536870912; omega) (by show b + 1 + 9 + 1 ≤ b + 56; omega) ?_
  refine wp_putF (ci := 12) (k := 12) (fs := mFk b 9) tyX12 tyX12_ok nmX12 dX12_init_88 rfl lay_12 (by decide) fl12_38 rfl rfl rfl (tyX12_ok 12 (by decide)) rfl rfl ovK_b ?_
  rw [ovK_step (b := b) (k := 9) (P0 := P0) (e := .inl (0, 6, .inl (fun _ => 0))) (Y := (mFk b 9).set 12 (.ref (b + 1 + 9))) rfl rfl]
  exact kk
theorem dX12_init_92 : decode cX12_init 92 = .ok (.bipush 6, 2) := by decide +kernel
theorem dX12_init_91 : decode cX12_init 91 = .ok (.aload_n 0, 1) := by decide +kernel
theorem dX12_init_94 : decode cX12_init 94 = .ok (.newarray .int, 2) := by decide +kernel
theorem dX12_init_96 : decode cX12_init 96 = .ok (.putfield 41, 3) := by decide +kernel
set_option maxRecDepth 20000 in
theorem in_10 (d : Nat) {b n n2 : Nat} {P0 PF : PH} (hn2 : 6 + n = n2) (kk : Wp (d + 1) m_X12_init 99 (ovK b 11 P0) (b + 1 + 11) [(0, .ref b)] [] (none, PF, b + 56, n)) : Wp (d + 1) m_X12_init 91 (ovK b 10 P0) (b + 1 + 10) [(0, .ref b)] [] (none, PF, b + 56, n2) := by
  subst hn2
  refine wp_aload_n dX12_init_91 rfl 0 rfl ?_
  refine wp_bipush (v := iI 6) dX12_init_92 (iI_8 (by decide)) ?_
  refine wp_newa (atype := .int) (tc := 0) (N := 6) (a0 := (6, .inl (fun _ => 0))) (o := (none, PF, b + 56, n)) dX12_init_94 arC_int rfl (fun cA => rfl) (iI_n_lt (b := 0) ⟨by omega, by omega⟩ inR_0 (by omega)) (by rw [iI_nat (by omega) (by omega)]; rfl) (by show 6 * 4 ≤ 536870912; omega) (by show b + 1 + 10 + 1 ≤ b + 56; omega) ?_
  refine wp_putF (ci := 12) (k := 13) (fs := mFk b 10) tyX12 tyX12_ok nmX12 dX12_init_96 rfl lay_12 (by decide) fl12_41 rfl rfl rfl (tyX12_ok 13 (by decide)) rfl rfl ovK_b ?_
  rw [ovK_step (b := b) (k := 10) (P0 := P0) (e := .inl (0, 6, .inl (fun _ => 0))) (Y := (mFk b 10).set 13 (.ref (b + 1 + 10))) rfl rfl]
  exact kk
theorem dX12_init_100 : decode cX12_init 100 = .ok (.bipush 6, 2) := by decide +kernel
theorem dX12_init_99 : decode cX12_init 99 = .ok (.aload_n 0, 1) := by decide +kernel
theorem dX12_init_102 : decode cX12_init 102 = .ok (.newarray .int, 2) := by decide +kernel
theorem dX12_init_104 : decode cX12_init 104 = .ok (.putfield 44, 3) := by decide +kernel
set_option maxRecDepth 20000 in
theorem in_11 (d : Nat) {b n n2 : Nat} {P0 PF : PH} (hn2 : 6 + n = n2) (kk : Wp (d + 1) m_X12_init 107 (ovK b 12 P0) (b + 1 + 12) [(0, .ref b)] [] (none, PF, b + 56, n)) : Wp (d + 1) m_X12_init 99 (ovK b 11 P0) (b + 1 + 11) [(0, .ref b)] [] (none, PF, b + 56, n2) := by
  subst hn2
  refine wp_aload_n dX12_init_99 rfl 0 rfl ?_
  refine wp_bipush (v := iI 6) dX12_init_100 (iI_8 (by decide)) ?_
  refine wp_newa (atype := .int) (tc := 0) (N := 6) (a0 := (6, .inl (fun _ => 0))) (o := (none, PF, b + 56, n)) dX12_init_102 arC_int rfl (fun cA => rfl) (iI_n_lt (b := 0) ⟨by omega, by omega⟩ inR_0 (by omega)) (by rw [iI_nat (by omega) (by omega)]; rfl) (by show 6 * 4 ≤ 536870912; omega) (by show b + 1 + 11 + 1 ≤ b + 56; omega) ?_
  refine wp_putF (ci := 12) (k := 14) (fs := mFk b 11) tyX12 tyX12_ok nmX12 dX12_init_104 rfl lay_12 (by decide) fl12_44 rfl rfl rfl (tyX12_ok 14 (by decide)) rfl rfl ovK_b ?_
  rw [ovK_step (b := b) (k := 11) (P0 := P0) (e := .inl (0, 6, .inl (fun _ => 0))) (Y := (mFk b 11).set 14 (.ref (b + 1 + 11))) rfl rfl]
  exact kk
theorem dX12_init_108 : decode cX12_init 108 = .ok (.bipush 72, 2) := by decide +kernel
theorem dX12_init_107 : decode cX12_init 107 = .ok (.aload_n 0, 1) := by decide +kernel
theorem dX12_init_110 : decode cX12_init 110 = .ok (.newarray .int, 2) := by decide +kernel
theorem dX12_init_112 : decode cX12_init 112 = .ok (.putfield 47, 3) := by decide +kernel
set_option maxRecDepth 20000 in
theorem in_12 (d : Nat) {b n n2 : Nat} {P0 PF : PH} (hn2 : 72 + n = n2) (kk : Wp (d + 1) m_X12_init 115 (ovK b 13 P0) (b + 1 + 13) [(0, .ref b)] [] (none, PF, b + 56, n)) : Wp (d + 1) m_X12_init 107 (ovK b 12 P0) (b + 1 + 12) [(0, .ref b)] [] (none, PF, b + 56, n2) := by
  subst hn2
  refine wp_aload_n dX12_init_107 rfl 0 rfl ?_
  refine wp_bipush (v := iI 72) dX12_init_108 (iI_8 (by decide)) ?_
  refine wp_newa (atype := .int) (tc := 0) (N := 72) (a0 := (72, .inl (fun _ => 0))) (o := (none, PF, b + 56, n)) dX12_init_110 arC_int rfl (fun cA => rfl) (iI_n_lt (b := 0) ⟨by omega, by omega⟩ inR_0 (by omega)) (by rw [iI_nat (by omega) (by omega)]; rfl) (by show 72 * 4 ≤ 536870912; omega) (by show b + 1 + 12 + 1 ≤ b + 56; omega) ?_
  refine wp_putF (ci := 12) (k := 15) (fs := mFk b 12) tyX12 tyX12_ok nmX12 dX12_init_112 rfl lay_12 (by decide) fl12_47 rfl rfl rfl (tyX12_ok 15 (by decide)) rfl rfl ovK_b ?_
  rw [ovK_step (b := b) (k := 12) (P0 := P0) (e := .inl (0, 72, .inl (fun _ => 0))) (Y := (mFk b 12).set 15 (.ref (b + 1 + 12))) rfl rfl]
  exact kk
theorem dX12_init_116 : decode cX12_init 116 = .ok (.bipush 72, 2) := by decide +kernel
theorem dX12_init_115 : decode cX12_init 115 = .ok (.aload_n 0, 1) := by decide +kernel
theorem dX12_init_118 : decode cX12_init 118 = .ok (.newarray .int, 2) := by decide +kernel
theorem dX12_init_120 : decode cX12_init 120 = .ok (.putfield 50, 3) := by decide +kernel
set_option maxRecDepth 20000 in
theorem in_13 (d : Nat) {b n n2 : Nat} {P0 PF : PH} (hn2 : 72 + n = n2) (kk : Wp (d + 1) m_X12_init 123 (ovK b 14 P0) (b + 1 + 14) [(0, .ref b)] [] (none, PF, b + 56, n)) : Wp (d + 1) m_X12_init 115 (ovK b 13 P0) (b + 1 + 13) [(0, .ref b)] [] (none, PF, b + 56, n2) := by
  subst hn2
  refine wp_aload_n dX12_init_115 rfl 0 rfl ?_
  refine wp_bipush (v := iI 72) dX12_init_116 (iI_8 (by decide)) ?_
  refine wp_newa (atype := .int) (tc := 0) (N := 72) (a0 := (72, .inl (fun _ => 0))) (o := (none, PF, b + 56, n)) dX12_init_118 arC_int rfl (fun cA => rfl) (iI_n_lt (b := 0) ⟨by omega, by omega⟩ inR_0 (by omega)) (by rw [iI_nat (by omega) (by omega)]; rfl) (by show 72 * 4 ≤ 536870912; omega) (by show b + 1 + 13 + 1 ≤ b + 56; omega) ?_
  refine wp_putF (ci := 12) (k := 16) (fs := mFk b 13) tyX12 tyX12_ok nmX12 dX12_init_120 rfl lay_12 (by decide) fl12_50 rfl rfl rfl (tyX12_ok 16 (by decide)) rfl rfl ovK_b ?_
  rw [ovK_step (b := b) (k := 13) (P0 := P0) (e := .inl (0, 72, .inl (fun _ => 0))) (Y := (mFk b 13).set 16 (.ref (b + 1 + 13))) rfl rfl]
  exact kk
theorem dX12_init_124 : decode cX12_init 124 = .ok (.bipush 72, 2) := by decide +kernel
theorem dX12_init_123 : decode cX12_init 123 = .ok (.aload_n 0, 1) := by decide +kernel
theorem dX12_init_126 : decode cX12_init 126 = .ok (.newarray .int, 2) := by decide +kernel
theorem dX12_init_128 : decode cX12_init 128 = .ok (.putfield 53, 3) := by decide +kernel
set_option maxRecDepth 20000 in
theorem in_14 (d : Nat) {b n n2 : Nat} {P0 PF : PH} (hn2 : 72 + n = n2) (kk : Wp (d + 1) m_X12_init 131 (ovK b 15 P0) (b + 1 + 15) [(0, .ref b)] [] (none, PF, b + 56, n)) : Wp (d + 1) m_X12_init 123 (ovK b 14 P0) (b + 1 + 14) [(0, .ref b)] [] (none, PF, b + 56, n2) := by
  subst hn2
  refine wp_aload_n dX12_init_123 rfl 0 rfl ?_
  refine wp_bipush (v := iI 72) dX12_init_124 (iI_8 (by decide)) ?_
  refine wp_newa (atype := .int) (tc := 0) (N := 72) (a0 := (72, .inl (fun _ => 0))) (o := (none, PF, b + 56, n)) dX12_init_126 arC_int rfl (fun cA => rfl) (iI_n_lt (b := 0) ⟨by omega, by omega⟩ inR_0 (by omega)) (by rw [iI_nat (by omega) (by omega)]; rfl) (by show 72 * 4 ≤ 536870912; omega) (by show b + 1 + 14 + 1 ≤ b + 56; omega) ?_
  refine wp_putF (ci := 12) (k := 17) (fs := mFk b 14) tyX12 tyX12_ok nmX12 dX12_init_128 rfl lay_12 (by decide) fl12_53 rfl rfl rfl (tyX12_ok 17 (by decide)) rfl rfl ovK_b ?_
  rw [ovK_step (b := b) (k := 14) (P0 := P0) (e := .inl (0, 72, .inl (fun _ => 0))) (Y := (mFk b 14).set 17 (.ref (b + 1 + 14))) rfl rfl]
  exact kk
theorem dX12_init_132 : decode cX12_init 132 = .ok (.sipush 864, 3) := by decide +kernel
theorem dX12_init_131 : decode cX12_init 131 = .ok (.aload_n 0, 1) := by decide +kernel
theorem dX12_init_135 : decode cX12_init 135 = .ok (.newarray .int, 2) := by decide +kernel
theorem dX12_init_137 : decode cX12_init 137 = .ok (.putfield 56, 3) := by decide +kernel
set_option maxRecDepth 20000 in
theorem in_15 (d : Nat) {b n n2 : Nat} {P0 PF : PH} (hn2 : 864 + n = n2) (kk : Wp (d + 1) m_X12_init 140 (ovK b 16 P0) (b + 1 + 16) [(0, .ref b)] [] (none, PF, b + 56, n)) : Wp (d + 1) m_X12_init 131 (ovK b 15 P0) (b + 1 + 15) [(0, .ref b)] [] (none, PF, b + 56, n2) := by
  subst hn2
  refine wp_aload_n dX12_init_131 rfl 0 rfl ?_
  refine wp_sipush (v := iI 864) dX12_init_132 (iI_16 (by decide)) ?_
  refine wp_newa (atype := .int) (tc := 0) (N := 864) (a0 := (864, .inl (fun _ => 0))) (o := (none, PF, b + 56, n)) dX12_init_135 arC_int rfl (fun cA => rfl) (iI_n_lt (b := 0) ⟨by omega, by omega⟩ inR_0 (by omega)) (by rw [iI_nat (by omega) (by omega)]; rfl) (by show 864 * 4 ≤ 536870912; omega) (by show b + 1 + 15 + 1 ≤ b + 56; omega) ?_
  refine wp_putF (ci := 12) (k := 18) (fs := mFk b 15) tyX12 tyX12_ok nmX12 dX12_init_137 rfl lay_12 (by decide) fl12_56 rfl rfl rfl (tyX12_ok 18 (by decide)) rfl rfl ovK_b ?_
  rw [ovK_step (b := b) (k := 15) (P0 := P0) (e := .inl (0, 864, .inl (fun _ => 0))) (Y := (mFk b 15).set 18 (.ref (b + 1 + 15))) rfl rfl]
  exact kk
theorem dX12_init_140 : decode cX12_init 140 = .ok (.aload_n 0, 1) := by decide +kernel
theorem dX12_init_141 : decode cX12_init 141 = .ok (.iconst (-1), 1) := by decide +kernel
theorem dX12_init_142 : decode cX12_init 142 = .ok (.putfield 59, 3) := by decide +kernel
theorem dX12_init_146 : decode cX12_init 146 = .ok (.bipush 6, 2) := by decide +kernel
theorem dX12_init_145 : decode cX12_init 145 = .ok (.aload_n 0, 1) := by decide +kernel
theorem dX12_init_148 : decode cX12_init 148 = .ok (.newarray .int, 2) := by decide +kernel
theorem dX12_init_150 : decode cX12_init 150 = .ok (.putfield 63, 3) := by decide +kernel
set_option maxRecDepth 20000 in
theorem in_16 (d : Nat) {b n n2 : Nat} {P0 PF : PH} (hn2 : 6 + n = n2) (kk : Wp (d + 1) m_X12_init 153 (ovK b 17 P0) (b + 1 + 17) [(0, .ref b)] [] (none, PF, b + 56, n)) : Wp (d + 1) m_X12_init 140 (ovK b 16 P0) (b + 1 + 16) [(0, .ref b)] [] (none, PF, b + 56, n2) := by
  subst hn2
  refine wp_aload_n dX12_init_140 rfl 0 rfl ?_
  refine wp_iconst (v := iI (-1)) dX12_init_141 rfl ?_
  refine wp_put (ci := 12) (k := 27) (fs := mFk b 16) tyX12 tyX12_ok nmX12 dX12_init_142 rfl lay_12 (by decide) fl12_59 rfl (tyX12_ok 27 (by decide)) rfl rfl (if_pos rfl) ?_
  refine wp_aload_n dX12_init_145 rfl 0 rfl ?_
  refine wp_bipush (v := iI 6) dX12_init_146 (iI_8 (by decide)) ?_
  refine wp_newa (atype := .int) (tc := 0) (N := 6) (a0 := (6, .inl (fun _ => 0))) (o := (none, PF, b + 56, n)) dX12_init_148 arC_int rfl (fun cA => rfl) (iI_n_lt (b := 0) ⟨by omega, by omega⟩ inR_0 (by omega)) (by rw [iI_nat (by omega) (by omega)]; rfl) (by show 6 * 4 ≤ 536870912; omega) (by show b + 1 + 16 + 1 ≤ b + 56; omega) ?_
  refine wp_putF (ci := 12) (k := 35) (fs := (mFk b 16).set 27 (.int (iI (-1)))) tyX12 tyX12_ok nmX12 dX12_init_150 rfl lay_12 (by decide) fl12_63 rfl rfl rfl (tyX12_ok 35 (by decide)) rfl rfl ovK_b3 ?_
  rw [pS_3 (by omega), ovK_step (b := b) (k := 16) (P0 := P0) (e := .inl (0, 6, .inl (fun _ => 0))) (Y := ((mFk b 16).set 27 (.int (iI (-1)))).set 35 (.ref (b + 1 + 16))) rfl rfl]
  exact kk
theorem dX12_init_154 : decode cX12_init 154 = .ok (.bipush 6, 2) := by decide +kernel
theorem dX12_init_153 : decode cX12_init 153 = .ok (.aload_n 0, 1) := by decide +kernel
theorem dX12_init_156 : decode cX12_init 156 = .ok (.newarray .int, 2) := by decide +kernel
theorem dX12_init_158 : decode cX12_init 158 = .ok (.putfield 66, 3) := by decide +kernel
set_option maxRecDepth 20000 in
theorem in_17 (d : Nat) {b n n2 : Nat} {P0 PF : PH} (hn2 : 6 + n = n2) (kk : Wp (d + 1) m_X12_init 161 (ovK b 18 P0) (b + 1 + 18) [(0, .ref b)] [] (none, PF, b + 56, n)) : Wp (d + 1) m_X12_init 153 (ovK b 17 P0) (b + 1 + 17) [(0, .ref b)] [] (none, PF, b + 56, n2) := by
  subst hn2
  refine wp_aload_n dX12_init_153 rfl 0 rfl ?_
  refine wp_bipush (v := iI 6) dX12_init_154 (iI_8 (by decide)) ?_
  refine wp_newa (atype := .int) (tc := 0) (N := 6) (a0 := (6, .inl (fun _ => 0))) (o := (none, PF, b + 56, n)) dX12_init_156 arC_int rfl (fun cA => rfl) (iI_n_lt (b := 0) ⟨by omega, by omega⟩ inR_0 (by omega)) (by rw [iI_nat (by omega) (by omega)]; rfl) (by show 6 * 4 ≤ 536870912; omega) (by show b + 1 + 17 + 1 ≤ b + 56; omega) ?_
  refine wp_putF (ci := 12) (k := 36) (fs := mFk b 17) tyX12 tyX12_ok nmX12 dX12_init_158 rfl lay_12 (by decide) fl12_66 rfl rfl rfl (tyX12_ok 36 (by decide)) rfl rfl ovK_b ?_
  rw [ovK_step (b := b) (k := 17) (P0 := P0) (e := .inl (0, 6, .inl (fun _ => 0))) (Y := (mFk b 17).set 36 (.ref (b + 1 + 17))) rfl rfl]
  exact kk
theorem dX12_init_162 : decode cX12_init 162 = .ok (.bipush 6, 2) := by decide +kernel
theorem dX12_init_161 : decode cX12_init 161 = .ok (.aload_n 0, 1) := by decide +kernel
theorem dX12_init_164 : decode cX12_init 164 = .ok (.newarray .int, 2) := by decide +kernel
theorem dX12_init_166 : decode cX12_init 166 = .ok (.putfield 69, 3) := by decide +kernel
set_option maxRecDepth 20000 in
theorem in_18 (d : Nat) {b n n2 : Nat} {P0 PF : PH} (hn2 : 6 + n = n2) (kk : Wp (d + 1) m_X12_init 169 (ovK b 19 P0) (b + 1 + 19) [(0, .ref b)] [] (none, PF, b + 56, n)) : Wp (d + 1) m_X12_init 161 (ovK b 18 P0) (b + 1 + 18) [(0, .ref b)] [] (none, PF, b + 56, n2) := by
  subst hn2
  refine wp_aload_n dX12_init_161 rfl 0 rfl ?_
  refine wp_bipush (v := iI 6) dX12_init_162 (iI_8 (by decide)) ?_
  refine wp_newa (atype := .int) (tc := 0) (N := 6) (a0 := (6, .inl (fun _ => 0))) (o := (none, PF, b + 56, n)) dX12_init_164 arC_int rfl (fun cA => rfl) (iI_n_lt (b := 0) ⟨by omega, by omega⟩ inR_0 (by omega)) (by rw [iI_nat (by omega) (by omega)]; rfl) (by show 6 * 4 ≤ 536870912; omega) (by show b + 1 + 18 + 1 ≤ b + 56; omega) ?_
  refine wp_putF (ci := 12) (k := 37) (fs := mFk b 18) tyX12 tyX12_ok nmX12 dX12_init_166 rfl lay_12 (by decide) fl12_69 rfl rfl rfl (tyX12_ok 37 (by decide)) rfl rfl ovK_b ?_
  rw [ovK_step (b := b) (k := 18) (P0 := P0) (e := .inl (0, 6, .inl (fun _ => 0))) (Y := (mFk b 18).set 37 (.ref (b + 1 + 18))) rfl rfl]
  exact kk
theorem dX12_init_170 : decode cX12_init 170 = .ok (.bipush 72, 2) := by decide +kernel
theorem dX12_init_169 : decode cX12_init 169 = .ok (.aload_n 0, 1) := by decide +kernel
theorem dX12_init_172 : decode cX12_init 172 = .ok (.newarray .long, 2) := by decide +kernel
theorem dX12_init_174 : decode cX12_init 174 = .ok (.putfield 72, 3) := by decide +kernel
set_option maxRecDepth 20000 in
theorem in_19 (d : Nat) {b n n2 : Nat} {P0 PF : PH} (hn2 : 72 + n = n2) (kk : Wp (d + 1) m_X12_init 177 (ovK b 20 P0) (b + 1 + 20) [(0, .ref b)] [] (none, PF, b + 56, n)) : Wp (d + 1) m_X12_init 169 (ovK b 19 P0) (b + 1 + 19) [(0, .ref b)] [] (none, PF, b + 56, n2) := by
  subst hn2
  refine wp_aload_n dX12_init_169 rfl 0 rfl ?_
  refine wp_bipush (v := iI 72) dX12_init_170 (iI_8 (by decide)) ?_
  refine wp_newa (atype := .long) (tc := 3) (N := 72) (a0 := (72, .inr (.inl (fun _ => 0)))) (o := (none, PF, b + 56, n)) dX12_init_172 arC_long rfl (fun cA => rfl) (iI_n_lt (b := 0) ⟨by omega, by omega⟩ inR_0 (by omega)) (by rw [iI_nat (by omega) (by omega)]; rfl) (by show 72 * 8 ≤ 536870912; omega) (by show b + 1 + 19 + 1 ≤ b + 56; omega) ?_
  refine wp_putF (ci := 12) (k := 38) (fs := mFk b 19) tyX12 tyX12_ok nmX12 dX12_init_174 rfl lay_12 (by decide) fl12_72 rfl rfl rfl (tyX12_ok 38 (by decide)) rfl rfl ovK_b ?_
  rw [ovK_step (b := b) (k := 19) (P0 := P0) (e := .inl (3, 72, .inr (.inl (fun _ => 0)))) (Y := (mFk b 19).set 38 (.ref (b + 1 + 19))) rfl rfl]
  exact kk
theorem dX12_init_178 : decode cX12_init 178 = .ok (.iconst 4, 1) := by decide +kernel
theorem dX12_init_177 : decode cX12_init 177 = .ok (.aload_n 0, 1) := by decide +kernel
theorem dX12_init_179 : decode cX12_init 179 = .ok (.newarray .int, 2) := by decide +kernel
theorem dX12_init_181 : decode cX12_init 181 = .ok (.putfield 76, 3) := by decide +kernel
set_option maxRecDepth 20000 in
theorem in_20 (d : Nat) {b n n2 : Nat} {P0 PF : PH} (hn2 : 4 + n = n2) (kk : Wp (d + 1) m_X12_init 184 (ovK b 21 P0) (b + 1 + 21) [(0, .ref b)] [] (none, PF, b + 56, n)) : Wp (d + 1) m_X12_init 177 (ovK b 20 P0) (b + 1 + 20) [(0, .ref b)] [] (none, PF, b + 56, n2) := by
  subst hn2
  refine wp_aload_n dX12_init_177 rfl 0 rfl ?_
  refine wp_iconst (v := iI 4) dX12_init_178 rfl ?_
  refine wp_newa (atype := .int) (tc := 0) (N := 4) (a0 := (4, .inl (fun _ => 0))) (o := (none, PF, b + 56, n)) dX12_init_179 arC_int rfl (fun cA => rfl) (iI_n_lt (b := 0) ⟨by omega, by omega⟩ inR_0 (by omega)) (by rw [iI_nat (by omega) (by omega)]; rfl) (by show 4 * 4 ≤ 536870912; omega) (by show b + 1 + 20 + 1 ≤ b + 56; omega) ?_
  refine wp_putF (ci := 12) (k := 41) (fs := mFk b 20) tyX12 tyX12_ok nmX12 dX12_init_181 rfl lay_12 (by decide) fl12_76 rfl rfl rfl (tyX12_ok 41 (by decide)) rfl rfl ovK_b ?_
  rw [ovK_step (b := b) (k := 20) (P0 := P0) (e := .inl (0, 4, .inl (fun _ => 0))) (Y := (mFk b 20).set 41 (.ref (b + 1 + 20))) rfl rfl]
  exact kk
theorem dX12_init_185 : decode cX12_init 185 = .ok (.iconst 4, 1) := by decide +kernel
theorem dX12_init_184 : decode cX12_init 184 = .ok (.aload_n 0, 1) := by decide +kernel
theorem dX12_init_186 : decode cX12_init 186 = .ok (.newarray .int, 2) := by decide +kernel
theorem dX12_init_188 : decode cX12_init 188 = .ok (.putfield 79, 3) := by decide +kernel
set_option maxRecDepth 20000 in
theorem in_21 (d : Nat) {b n n2 : Nat} {P0 PF : PH} (hn2 : 4 + n = n2) (kk : Wp (d + 1) m_X12_init 191 (ovK b 22 P0) (b + 1 + 22) [(0, .ref b)] [] (none, PF, b + 56, n)) : Wp (d + 1) m_X12_init 184 (ovK b 21 P0) (b + 1 + 21) [(0, .ref b)] [] (none, PF, b + 56, n2) := by
  subst hn2
  refine wp_aload_n dX12_init_184 rfl 0 rfl ?_
  refine wp_iconst (v := iI 4) dX12_init_185 rfl ?_
  refine wp_newa (atype := .int) (tc := 0) (N := 4) (a0 := (4, .inl (fun _ => 0))) (o := (none, PF, b + 56, n)) dX12_init_186 arC_int rfl (fun cA => rfl) (iI_n_lt (b := 0) ⟨by omega, by omega⟩ inR_0 (by omega)) (by rw [iI_nat (by omega) (by omega)]; rfl) (by show 4 * 4 ≤ 536870912; omega) (by show b + 1 + 21 + 1 ≤ b + 56; omega) ?_
  refine wp_putF (ci := 12) (k := 42) (fs := mFk b 21) tyX12 tyX12_ok nmX12 dX12_init_188 rfl lay_12 (by decide) fl12_79 rfl rfl rfl (tyX12_ok 42 (by decide)) rfl rfl ovK_b ?_
  rw [ovK_step (b := b) (k := 21) (P0 := P0) (e := .inl (0, 4, .inl (fun _ => 0))) (Y := (mFk b 21).set 42 (.ref (b + 1 + 21))) rfl rfl]
  exact kk
theorem dX12_init_192 : decode cX12_init 192 = .ok (.sipush 260, 3) := by decide +kernel
theorem dX12_init_191 : decode cX12_init 191 = .ok (.aload_n 0, 1) := by decide +kernel
theorem dX12_init_195 : decode cX12_init 195 = .ok (.newarray .long, 2) := by decide +kernel
theorem dX12_init_197 : decode cX12_init 197 = .ok (.putfield 82, 3) := by decide +kernel
set_option maxRecDepth 20000 in
theorem in_22 (d : Nat) {b n n2 : Nat} {P0 PF : PH} (hn2 : 260 + n = n2) (kk : Wp (d + 1) m_X12_init 200 (ovK b 23 P0) (b + 1 + 23) [(0, .ref b)] [] (none, PF, b + 56, n)) : Wp (d + 1) m_X12_init 191 (ovK b 22 P0) (b + 1 + 22) [(0, .ref b)] [] (none, PF, b + 56, n2) := by
  subst hn2
  refine wp_aload_n dX12_init_191 rfl 0 rfl ?_
  refine wp_sipush (v := iI 260) dX12_init_192 (iI_16 (by decide)) ?_
  refine wp_newa (atype := .long) (tc := 3) (N := 260) (a0 := (260, .inr (.inl (fun _ => 0)))) (o := (none, PF, b + 56, n)) dX12_init_195 arC_long rfl (fun cA => rfl) (iI_n_lt (b := 0) ⟨by omega, by omega⟩ inR_0 (by omega)) (by rw [iI_nat (by omega) (by omega)]; rfl) (by show 260 * 8 ≤ 536870912; omega) (by show b + 1 + 22 + 1 ≤ b + 56; omega) ?_
  refine wp_putF (ci := 12) (k := 44) (fs := mFk b 22) tyX12 tyX12_ok nmX12 dX12_init_197 rfl lay_12 (by decide) fl12_82 rfl rfl rfl (tyX12_ok 44 (by decide)) rfl rfl ovK_b ?_
  rw [ovK_step (b := b) (k := 22) (P0 := P0) (e := .inl (3, 260, .inr (.inl (fun _ => 0)))) (Y := (mFk b 22).set 44 (.ref (b + 1 + 22))) rfl rfl]
  exact kk
theorem dX12_init_201 : decode cX12_init 201 = .ok (.sipush 260, 3) := by decide +kernel
theorem dX12_init_200 : decode cX12_init 200 = .ok (.aload_n 0, 1) := by decide +kernel
theorem dX12_init_204 : decode cX12_init 204 = .ok (.newarray .int, 2) := by decide +kernel
theorem dX12_init_206 : decode cX12_init 206 = .ok (.putfield 85, 3) := by decide +kernel
set_option maxRecDepth 20000 in
theorem in_23 (d : Nat) {b n n2 : Nat} {P0 PF : PH} (hn2 : 260 + n = n2) (kk : Wp (d + 1) m_X12_init 209 (ovK b 24 P0) (b + 1 + 24) [(0, .ref b)] [] (none, PF, b + 56, n)) : Wp (d + 1) m_X12_init 200 (ovK b 23 P0) (b + 1 + 23) [(0, .ref b)] [] (none, PF, b + 56, n2) := by
  subst hn2
  refine wp_aload_n dX12_init_200 rfl 0 rfl ?_
  refine wp_sipush (v := iI 260) dX12_init_201 (iI_16 (by decide)) ?_
  refine wp_newa (atype := .int) (tc := 0) (N := 260) (a0 := (260, .inl (fun _ => 0))) (o := (none, PF, b + 56, n)) dX12_init_204 arC_int rfl (fun cA => rfl) (iI_n_lt (b := 0) ⟨by omega, by omega⟩ inR_0 (by omega)) (by rw [iI_nat (by omega) (by omega)]; rfl) (by show 260 * 4 ≤ 536870912; omega) (by show b + 1 + 23 + 1 ≤ b + 56; omega) ?_
  refine wp_putF (ci := 12) (k := 45) (fs := mFk b 23) tyX12 tyX12_ok nmX12 dX12_init_206 rfl lay_12 (by decide) fl12_85 rfl rfl rfl (tyX12_ok 45 (by decide)) rfl rfl ovK_b ?_
  rw [ovK_step (b := b) (k := 23) (P0 := P0) (e := .inl (0, 260, .inl (fun _ => 0))) (Y := (mFk b 23).set 45 (.ref (b + 1 + 23))) rfl rfl]
  exact kk
theorem dX12_init_210 : decode cX12_init 210 = .ok (.sipush 4096, 3) := by decide +kernel
theorem dX12_init_209 : decode cX12_init 209 = .ok (.aload_n 0, 1) := by decide +kernel
theorem dX12_init_213 : decode cX12_init 213 = .ok (.newarray .int, 2) := by decide +kernel
theorem dX12_init_215 : decode cX12_init 215 = .ok (.putfield 88, 3) := by decide +kernel
set_option maxRecDepth 20000 in
theorem in_24 (d : Nat) {b n n2 : Nat} {P0 PF : PH} (hn2 : 4096 + n = n2) (kk : Wp (d + 1) m_X12_init 218 (ovK b 25 P0) (b + 1 + 25) [(0, .ref b)] [] (none, PF, b + 56, n)) : Wp (d + 1) m_X12_init 209 (ovK b 24 P0) (b + 1 + 24) [(0, .ref b)] [] (none, PF, b + 56, n2) := by
  subst hn2
  refine wp_aload_n dX12_init_209 rfl 0 rfl ?_
  refine wp_sipush (v := iI 4096) dX12_init_210 (iI_16 (by decide)) ?_
  refine wp_newa (atype := .int) (tc := 0) (N := 4096) (a0 := (4096, .inl (fun _ => 0))) (o := (none, PF, b + 56, n)) dX12_init_213 arC_int rfl (fun cA => rfl) (iI_n_lt (b := 0) ⟨by omega, by omega⟩ inR_0 (by omega)) (by rw [iI_nat (by omega) (by omega)]; rfl) (by show 4096 * 4 ≤ 536870912; omega) (by show b + 1 + 24 + 1 ≤ b + 56; omega) ?_
  refine wp_putF (ci := 12) (k := 46) (fs := mFk b 24) tyX12 tyX12_ok nmX12 dX12_init_215 rfl lay_12 (by decide) fl12_88 rfl rfl rfl (tyX12_ok 46 (by decide)) rfl rfl ovK_b ?_
  rw [ovK_step (b := b) (k := 24) (P0 := P0) (e := .inl (0, 4096, .inl (fun _ => 0))) (Y := (mFk b 24).set 46 (.ref (b + 1 + 24))) rfl rfl]
  exact kk
theorem dX12_init_219 : decode cX12_init 219 = .ok (.sipush 221, 3) := by decide +kernel
theorem dX12_init_218 : decode cX12_init 218 = .ok (.aload_n 0, 1) := by decide +kernel
theorem dX12_init_222 : decode cX12_init 222 = .ok (.newarray .boolean, 2) := by decide +kernel
theorem dX12_init_224 : decode cX12_init 224 = .ok (.putfield 91, 3) := by decide +kernel
set_option maxRecDepth 20000 in
theorem in_25 (d : Nat) {b n n2 : Nat} {P0 PF : PH} (hn2 : 221 + n = n2) (kk : Wp (d + 1) m_X12_init 227 (ovK b 26 P0) (b + 1 + 26) [(0, .ref b)] [] (none, PF, b + 56, n)) : Wp (d + 1) m_X12_init 218 (ovK b 25 P0) (b + 1 + 25) [(0, .ref b)] [] (none, PF, b + 56, n2) := by
  subst hn2
  refine wp_aload_n dX12_init_218 rfl 0 rfl ?_
  refine wp_sipush (v := iI 221) dX12_init_219 (iI_16 (by decide)) ?_
  refine wp_newa (atype := .boolean) (tc := 2) (N := 221) (a0 := (221, .inl (fun _ => 0))) (o := (none, PF, b + 56, n)) dX12_init_222 arC_boolean rfl (fun cA => rfl) (iI_n_lt (b := 0) ⟨by omega, by omega⟩ inR_0 (by omega)) (by rw [iI_nat (by omega) (by omega)]; rfl) (by show 221 * 1 ≤ 536870912; omega) (by show b + 1 + 25 + 1 ≤ b + 56; omega) ?_
  refine wp_putF (ci := 12) (k := 47) (fs := mFk b 25) tyX12 tyX12_ok nmX12 dX12_init_224 rfl lay_12 (by decide) fl12_91 rfl rfl rfl (tyX12_ok 47 (by decide)) rfl rfl ovK_b ?_
  rw [ovK_step (b := b) (k := 25) (P0 := P0) (e := .inl (2, 221, .inl (fun _ => 0))) (Y := (mFk b 25).set 47 (.ref (b + 1 + 25))) rfl rfl]
  exact kk
theorem dX12_init_228 : decode cX12_init 228 = .ok (.bipush 6, 2) := by decide +kernel
theorem dX12_init_227 : decode cX12_init 227 = .ok (.aload_n 0, 1) := by decide +kernel
theorem dX12_init_230 : decode cX12_init 230 = .ok (.newarray .boolean, 2) := by decide +kernel
theorem dX12_init_232 : decode cX12_init 232 = .ok (.putfield 95, 3) := by decide +kernel
set_option maxRecDepth 20000 in
theorem in_26 (d : Nat) {b n n2 : Nat} {P0 PF : PH} (hn2 : 6 + n = n2) (kk : Wp (d + 1) m_X12_init 235 (ovK b 27 P0) (b + 1 + 27) [(0, .ref b)] [] (none, PF, b + 56, n)) : Wp (d + 1) m_X12_init 227 (ovK b 26 P0) (b + 1 + 26) [(0, .ref b)] [] (none, PF, b + 56, n2) := by
  subst hn2
  refine wp_aload_n dX12_init_227 rfl 0 rfl ?_
  refine wp_bipush (v := iI 6) dX12_init_228 (iI_8 (by decide)) ?_
  refine wp_newa (atype := .boolean) (tc := 2) (N := 6) (a0 := (6, .inl (fun _ => 0))) (o := (none, PF, b + 56, n)) dX12_init_230 arC_boolean rfl (fun cA => rfl) (iI_n_lt (b := 0) ⟨by omega, by omega⟩ inR_0 (by omega)) (by rw [iI_nat (by omega) (by omega)]; rfl) (by show 6 * 1 ≤ 536870912; omega) (by show b + 1 + 26 + 1 ≤ b + 56; omega) ?_
  refine wp_putF (ci := 12) (k := 48) (fs := mFk b 26) tyX12 tyX12_ok nmX12 dX12_init_232 rfl lay_12 (by decide) fl12_95 rfl rfl rfl (tyX12_ok 48 (by decide)) rfl rfl ovK_b ?_
  rw [ovK_step (b := b) (k := 26) (P0 := P0) (e := .inl (2, 6, .inl (fun _ => 0))) (Y := (mFk b 26).set 48 (.ref (b + 1 + 26))) rfl rfl]
  exact kk
theorem cst12_98 : Cond.constant RX12 98 (190944) ∈ pWW := pw7 (List.mem_of_getElem? (i := 4) rfl) rfl
theorem dX12_init_236 : decode cX12_init 236 = .ok (.ldc 98, 2) := by decide +kernel
theorem dX12_init_235 : decode cX12_init 235 = .ok (.aload_n 0, 1) := by decide +kernel
theorem dX12_init_238 : decode cX12_init 238 = .ok (.newarray .int, 2) := by decide +kernel
theorem dX12_init_240 : decode cX12_init 240 = .ok (.putfield 99, 3) := by decide +kernel
set_option maxRecDepth 20000 in
theorem in_27 (d : Nat) {b n n2 : Nat} {P0 PF : PH} (hn2 : 190944 + n = n2) (kk : Wp (d + 1) m_X12_init 243 (ovK b 28 P0) (b + 1 + 28) [(0, .ref b)] [] (none, PF, b + 56, n)) : Wp (d + 1) m_X12_init 235 (ovK b 27 P0) (b + 1 + 27) [(0, .ref b)] [] (none, PF, b + 56, n2) := by
  subst hn2
  refine wp_aload_n dX12_init_235 rfl 0 rfl ?_
  refine wp_ldc (v := iI 190944) dX12_init_236 cst12_98 ?_
  refine wp_newa (atype := .int) (tc := 0) (N := 190944) (a0 := (190944, .inl (fun _ => 0))) (o := (none, PF, b + 56, n)) dX12_init_238 arC_int rfl (fun cA => rfl) (iI_n_lt (b := 0) ⟨by omega, by omega⟩ inR_0 (by omega)) (by rw [iI_nat (by omega) (by omega)]; rfl) (by show 190944 * 4 ≤ 536870912; omega) (by show b + 1 + 27 + 1 ≤ b + 56; omega) ?_
  refine wp_putF (ci := 12) (k := 49) (fs := mFk b 27) tyX12 tyX12_ok nmX12 dX12_init_240 rfl lay_12 (by decide) fl12_99 rfl rfl rfl (tyX12_ok 49 (by decide)) rfl rfl ovK_b ?_
  rw [ovK_step (b := b) (k := 27) (P0 := P0) (e := .inl (0, 190944, .inl (fun _ => 0))) (Y := (mFk b 27).set 49 (.ref (b + 1 + 27))) rfl rfl]
  exact kk
theorem dX12_init_244 : decode cX12_init 244 = .ok (.ldc 98, 2) := by decide +kernel
theorem dX12_init_243 : decode cX12_init 243 = .ok (.aload_n 0, 1) := by decide +kernel
theorem dX12_init_246 : decode cX12_init 246 = .ok (.newarray .int, 2) := by decide +kernel
theorem dX12_init_248 : decode cX12_init 248 = .ok (.putfield 102, 3) := by decide +kernel
set_option maxRecDepth 20000 in
theorem in_28 (d : Nat) {b n n2 : Nat} {P0 PF : PH} (hn2 : 190944 + n = n2) (kk : Wp (d + 1) m_X12_init 251 (ovK b 29 P0) (b + 1 + 29) [(0, .ref b)] [] (none, PF, b + 56, n)) : Wp (d + 1) m_X12_init 243 (ovK b 28 P0) (b + 1 + 28) [(0, .ref b)] [] (none, PF, b + 56, n2) := by
  subst hn2
  refine wp_aload_n dX12_init_243 rfl 0 rfl ?_
  refine wp_ldc (v := iI 190944) dX12_init_244 cst12_98 ?_
  refine wp_newa (atype := .int) (tc := 0) (N := 190944) (a0 := (190944, .inl (fun _ => 0))) (o := (none, PF, b + 56, n)) dX12_init_246 arC_int rfl (fun cA => rfl) (iI_n_lt (b := 0) ⟨by omega, by omega⟩ inR_0 (by omega)) (by rw [iI_nat (by omega) (by omega)]; rfl) (by show 190944 * 4 ≤ 536870912; omega) (by show b + 1 + 28 + 1 ≤ b + 56; omega) ?_
  refine wp_putF (ci := 12) (k := 50) (fs := mFk b 28) tyX12 tyX12_ok nmX12 dX12_init_248 rfl lay_12 (by decide) fl12_102 rfl rfl rfl (tyX12_ok 50 (by decide)) rfl rfl ovK_b ?_
  rw [ovK_step (b := b) (k := 28) (P0 := P0) (e := .inl (0, 190944, .inl (fun _ => 0))) (Y := (mFk b 28).set 50 (.ref (b + 1 + 28))) rfl rfl]
  exact kk
theorem dX12_init_252 : decode cX12_init 252 = .ok (.ldc 98, 2) := by decide +kernel
theorem dX12_init_251 : decode cX12_init 251 = .ok (.aload_n 0, 1) := by decide +kernel
theorem dX12_init_254 : decode cX12_init 254 = .ok (.newarray .int, 2) := by decide +kernel
theorem dX12_init_256 : decode cX12_init 256 = .ok (.putfield 105, 3) := by decide +kernel
set_option maxRecDepth 20000 in
theorem in_29 (d : Nat) {b n n2 : Nat} {P0 PF : PH} (hn2 : 190944 + n = n2) (kk : Wp (d + 1) m_X12_init 259 (ovK b 30 P0) (b + 1 + 30) [(0, .ref b)] [] (none, PF, b + 56, n)) : Wp (d + 1) m_X12_init 251 (ovK b 29 P0) (b + 1 + 29) [(0, .ref b)] [] (none, PF, b + 56, n2) := by
  subst hn2
  refine wp_aload_n dX12_init_251 rfl 0 rfl ?_
  refine wp_ldc (v := iI 190944) dX12_init_252 cst12_98 ?_
  refine wp_newa (atype := .int) (tc := 0) (N := 190944) (a0 := (190944, .inl (fun _ => 0))) (o := (none, PF, b + 56, n)) dX12_init_254 arC_int rfl (fun cA => rfl) (iI_n_lt (b := 0) ⟨by omega, by omega⟩ inR_0 (by omega)) (by rw [iI_nat (by omega) (by omega)]; rfl) (by show 190944 * 4 ≤ 536870912; omega) (by show b + 1 + 29 + 1 ≤ b + 56; omega) ?_
  refine wp_putF (ci := 12) (k := 51) (fs := mFk b 29) tyX12 tyX12_ok nmX12 dX12_init_256 rfl lay_12 (by decide) fl12_105 rfl rfl rfl (tyX12_ok 51 (by decide)) rfl rfl ovK_b ?_
  rw [ovK_step (b := b) (k := 29) (P0 := P0) (e := .inl (0, 190944, .inl (fun _ => 0))) (Y := (mFk b 29).set 51 (.ref (b + 1 + 29))) rfl rfl]
  exact kk
theorem dX12_init_260 : decode cX12_init 260 = .ok (.ldc 98, 2) := by decide +kernel
theorem dX12_init_259 : decode cX12_init 259 = .ok (.aload_n 0, 1) := by decide +kernel
theorem dX12_init_262 : decode cX12_init 262 = .ok (.newarray .int, 2) := by decide +kernel
theorem dX12_init_264 : decode cX12_init 264 = .ok (.putfield 108, 3) := by decide +kernel
set_option maxRecDepth 20000 in
theorem in_30 (d : Nat) {b n n2 : Nat} {P0 PF : PH} (hn2 : 190944 + n = n2) (kk : Wp (d + 1) m_X12_init 267 (ovK b 31 P0) (b + 1 + 31) [(0, .ref b)] [] (none, PF, b + 56, n)) : Wp (d + 1) m_X12_init 259 (ovK b 30 P0) (b + 1 + 30) [(0, .ref b)] [] (none, PF, b + 56, n2) := by
  subst hn2
  refine wp_aload_n dX12_init_259 rfl 0 rfl ?_
  refine wp_ldc (v := iI 190944) dX12_init_260 cst12_98 ?_
  refine wp_newa (atype := .int) (tc := 0) (N := 190944) (a0 := (190944, .inl (fun _ => 0))) (o := (none, PF, b + 56, n)) dX12_init_262 arC_int rfl (fun cA => rfl) (iI_n_lt (b := 0) ⟨by omega, by omega⟩ inR_0 (by omega)) (by rw [iI_nat (by omega) (by omega)]; rfl) (by show 190944 * 4 ≤ 536870912; omega) (by show b + 1 + 30 + 1 ≤ b + 56; omega) ?_
  refine wp_putF (ci := 12) (k := 52) (fs := mFk b 30) tyX12 tyX12_ok nmX12 dX12_init_264 rfl lay_12 (by decide) fl12_108 rfl rfl rfl (tyX12_ok 52 (by decide)) rfl rfl ovK_b ?_
  rw [ovK_step (b := b) (k := 30) (P0 := P0) (e := .inl (0, 190944, .inl (fun _ => 0))) (Y := (mFk b 30).set 52 (.ref (b + 1 + 30))) rfl rfl]
  exact kk
theorem dX12_init_268 : decode cX12_init 268 = .ok (.ldc 98, 2) := by decide +kernel
theorem dX12_init_267 : decode cX12_init 267 = .ok (.aload_n 0, 1) := by decide +kernel
theorem dX12_init_270 : decode cX12_init 270 = .ok (.newarray .int, 2) := by decide +kernel
theorem dX12_init_272 : decode cX12_init 272 = .ok (.putfield 111, 3) := by decide +kernel
set_option maxRecDepth 20000 in
theorem in_31 (d : Nat) {b n n2 : Nat} {P0 PF : PH} (hn2 : 190944 + n = n2) (kk : Wp (d + 1) m_X12_init 275 (ovK b 32 P0) (b + 1 + 32) [(0, .ref b)] [] (none, PF, b + 56, n)) : Wp (d + 1) m_X12_init 267 (ovK b 31 P0) (b + 1 + 31) [(0, .ref b)] [] (none, PF, b + 56, n2) := by
  subst hn2
  refine wp_aload_n dX12_init_267 rfl 0 rfl ?_
  refine wp_ldc (v := iI 190944) dX12_init_268 cst12_98 ?_
  refine wp_newa (atype := .int) (tc := 0) (N := 190944) (a0 := (190944, .inl (fun _ => 0))) (o := (none, PF, b + 56, n)) dX12_init_270 arC_int rfl (fun cA => rfl) (iI_n_lt (b := 0) ⟨by omega, by omega⟩ inR_0 (by omega)) (by rw [iI_nat (by omega) (by omega)]; rfl) (by show 190944 * 4 ≤ 536870912; omega) (by show b + 1 + 31 + 1 ≤ b + 56; omega) ?_
  refine wp_putF (ci := 12) (k := 53) (fs := mFk b 31) tyX12 tyX12_ok nmX12 dX12_init_272 rfl lay_12 (by decide) fl12_111 rfl rfl rfl (tyX12_ok 53 (by decide)) rfl rfl ovK_b ?_
  rw [ovK_step (b := b) (k := 31) (P0 := P0) (e := .inl (0, 190944, .inl (fun _ => 0))) (Y := (mFk b 31).set 53 (.ref (b + 1 + 31))) rfl rfl]
  exact kk
theorem dX12_init_276 : decode cX12_init 276 = .ok (.sipush 144, 3) := by decide +kernel
theorem dX12_init_275 : decode cX12_init 275 = .ok (.aload_n 0, 1) := by decide +kernel
theorem dX12_init_279 : decode cX12_init 279 = .ok (.newarray .int, 2) := by decide +kernel
theorem dX12_init_281 : decode cX12_init 281 = .ok (.putfield 114, 3) := by decide +kernel
set_option maxRecDepth 20000 in
theorem in_32 (d : Nat) {b n n2 : Nat} {P0 PF : PH} (hn2 : 144 + n = n2) (kk : Wp (d + 1) m_X12_init 284 (ovK b 33 P0) (b + 1 + 33) [(0, .ref b)] [] (none, PF, b + 56, n)) : Wp (d + 1) m_X12_init 275 (ovK b 32 P0) (b + 1 + 32) [(0, .ref b)] [] (none, PF, b + 56, n2) := by
  subst hn2
  refine wp_aload_n dX12_init_275 rfl 0 rfl ?_
  refine wp_sipush (v := iI 144) dX12_init_276 (iI_16 (by decide)) ?_
  refine wp_newa (atype := .int) (tc := 0) (N := 144) (a0 := (144, .inl (fun _ => 0))) (o := (none, PF, b + 56, n)) dX12_init_279 arC_int rfl (fun cA => rfl) (iI_n_lt (b := 0) ⟨by omega, by omega⟩ inR_0 (by omega)) (by rw [iI_nat (by omega) (by omega)]; rfl) (by show 144 * 4 ≤ 536870912; omega) (by show b + 1 + 32 + 1 ≤ b + 56; omega) ?_
  refine wp_putF (ci := 12) (k := 54) (fs := mFk b 32) tyX12 tyX12_ok nmX12 dX12_init_281 rfl lay_12 (by decide) fl12_114 rfl rfl rfl (tyX12_ok 54 (by decide)) rfl rfl ovK_b ?_
  rw [ovK_step (b := b) (k := 32) (P0 := P0) (e := .inl (0, 144, .inl (fun _ => 0))) (Y := (mFk b 32).set 54 (.ref (b + 1 + 32))) rfl rfl]
  exact kk
theorem dX12_init_285 : decode cX12_init 285 = .ok (.sipush 144, 3) := by decide +kernel
theorem dX12_init_284 : decode cX12_init 284 = .ok (.aload_n 0, 1) := by decide +kernel
theorem dX12_init_288 : decode cX12_init 288 = .ok (.newarray .int, 2) := by decide +kernel
theorem dX12_init_290 : decode cX12_init 290 = .ok (.putfield 117, 3) := by decide +kernel
set_option maxRecDepth 20000 in
theorem in_33 (d : Nat) {b n n2 : Nat} {P0 PF : PH} (hn2 : 144 + n = n2) (kk : Wp (d + 1) m_X12_init 293 (ovK b 34 P0) (b + 1 + 34) [(0, .ref b)] [] (none, PF, b + 56, n)) : Wp (d + 1) m_X12_init 284 (ovK b 33 P0) (b + 1 + 33) [(0, .ref b)] [] (none, PF, b + 56, n2) := by
  subst hn2
  refine wp_aload_n dX12_init_284 rfl 0 rfl ?_
  refine wp_sipush (v := iI 144) dX12_init_285 (iI_16 (by decide)) ?_
  refine wp_newa (atype := .int) (tc := 0) (N := 144) (a0 := (144, .inl (fun _ => 0))) (o := (none, PF, b + 56, n)) dX12_init_288 arC_int rfl (fun cA => rfl) (iI_n_lt (b := 0) ⟨by omega, by omega⟩ inR_0 (by omega)) (by rw [iI_nat (by omega) (by omega)]; rfl) (by show 144 * 4 ≤ 536870912; omega) (by show b + 1 + 33 + 1 ≤ b + 56; omega) ?_
  refine wp_putF (ci := 12) (k := 55) (fs := mFk b 33) tyX12 tyX12_ok nmX12 dX12_init_290 rfl lay_12 (by decide) fl12_117 rfl rfl rfl (tyX12_ok 55 (by decide)) rfl rfl ovK_b ?_
  rw [ovK_step (b := b) (k := 33) (P0 := P0) (e := .inl (0, 144, .inl (fun _ => 0))) (Y := (mFk b 33).set 55 (.ref (b + 1 + 33))) rfl rfl]
  exact kk
theorem dX12_init_294 : decode cX12_init 294 = .ok (.sipush 144, 3) := by decide +kernel
theorem dX12_init_293 : decode cX12_init 293 = .ok (.aload_n 0, 1) := by decide +kernel
theorem dX12_init_297 : decode cX12_init 297 = .ok (.newarray .int, 2) := by decide +kernel
theorem dX12_init_299 : decode cX12_init 299 = .ok (.putfield 120, 3) := by decide +kernel
set_option maxRecDepth 20000 in
theorem in_34 (d : Nat) {b n n2 : Nat} {P0 PF : PH} (hn2 : 144 + n = n2) (kk : Wp (d + 1) m_X12_init 302 (ovK b 35 P0) (b + 1 + 35) [(0, .ref b)] [] (none, PF, b + 56, n)) : Wp (d + 1) m_X12_init 293 (ovK b 34 P0) (b + 1 + 34) [(0, .ref b)] [] (none, PF, b + 56, n2) := by
  subst hn2
  refine wp_aload_n dX12_init_293 rfl 0 rfl ?_
  refine wp_sipush (v := iI 144) dX12_init_294 (iI_16 (by decide)) ?_
  refine wp_newa (atype := .int) (tc := 0) (N := 144) (a0 := (144, .inl (fun _ => 0))) (o := (none, PF, b + 56, n)) dX12_init_297 arC_int rfl (fun cA => rfl) (iI_n_lt (b := 0) ⟨by omega, by omega⟩ inR_0 (by omega)) (by rw [iI_nat (by omega) (by omega)]; rfl) (by show 144 * 4 ≤ 536870912; omega) (by show b + 1 + 34 + 1 ≤ b + 56; omega) ?_
  refine wp_putF (ci := 12) (k := 56) (fs := mFk b 34) tyX12 tyX12_ok nmX12 dX12_init_299 rfl lay_12 (by decide) fl12_120 rfl rfl rfl (tyX12_ok 56 (by decide)) rfl rfl ovK_b ?_
  rw [ovK_step (b := b) (k := 34) (P0 := P0) (e := .inl (0, 144, .inl (fun _ => 0))) (Y := (mFk b 34).set 56 (.ref (b + 1 + 34))) rfl rfl]
  exact kk
theorem dX12_init_303 : decode cX12_init 303 = .ok (.sipush 144, 3) := by decide +kernel
theorem dX12_init_302 : decode cX12_init 302 = .ok (.aload_n 0, 1) := by decide +kernel
theorem dX12_init_306 : decode cX12_init 306 = .ok (.newarray .int, 2) := by decide +kernel
theorem dX12_init_308 : decode cX12_init 308 = .ok (.putfield 123, 3) := by decide +kernel
set_option maxRecDepth 20000 in
theorem in_35 (d : Nat) {b n n2 : Nat} {P0 PF : PH} (hn2 : 144 + n = n2) (kk : Wp (d + 1) m_X12_init 311 (ovK b 36 P0) (b + 1 + 36) [(0, .ref b)] [] (none, PF, b + 56, n)) : Wp (d + 1) m_X12_init 302 (ovK b 35 P0) (b + 1 + 35) [(0, .ref b)] [] (none, PF, b + 56, n2) := by
  subst hn2
  refine wp_aload_n dX12_init_302 rfl 0 rfl ?_
  refine wp_sipush (v := iI 144) dX12_init_303 (iI_16 (by decide)) ?_
  refine wp_newa (atype := .int) (tc := 0) (N := 144) (a0 := (144, .inl (fun _ => 0))) (o := (none, PF, b + 56, n)) dX12_init_306 arC_int rfl (fun cA => rfl) (iI_n_lt (b := 0) ⟨by omega, by omega⟩ inR_0 (by omega)) (by rw [iI_nat (by omega) (by omega)]; rfl) (by show 144 * 4 ≤ 536870912; omega) (by show b + 1 + 35 + 1 ≤ b + 56; omega) ?_
  refine wp_putF (ci := 12) (k := 57) (fs := mFk b 35) tyX12 tyX12_ok nmX12 dX12_init_308 rfl lay_12 (by decide) fl12_123 rfl rfl rfl (tyX12_ok 57 (by decide)) rfl rfl ovK_b ?_
  rw [ovK_step (b := b) (k := 35) (P0 := P0) (e := .inl (0, 144, .inl (fun _ => 0))) (Y := (mFk b 35).set 57 (.ref (b + 1 + 35))) rfl rfl]
  exact kk
theorem dX12_init_312 : decode cX12_init 312 = .ok (.sipush 144, 3) := by decide +kernel
theorem dX12_init_311 : decode cX12_init 311 = .ok (.aload_n 0, 1) := by decide +kernel
theorem dX12_init_315 : decode cX12_init 315 = .ok (.newarray .int, 2) := by decide +kernel
theorem dX12_init_317 : decode cX12_init 317 = .ok (.putfield 126, 3) := by decide +kernel
set_option maxRecDepth 20000 in
theorem in_36 (d : Nat) {b n n2 : Nat} {P0 PF : PH} (hn2 : 144 + n = n2) (kk : Wp (d + 1) m_X12_init 320 (ovK b 37 P0) (b + 1 + 37) [(0, .ref b)] [] (none, PF, b + 56, n)) : Wp (d + 1) m_X12_init 311 (ovK b 36 P0) (b + 1 + 36) [(0, .ref b)] [] (none, PF, b + 56, n2) := by
  subst hn2
  refine wp_aload_n dX12_init_311 rfl 0 rfl ?_
  refine wp_sipush (v := iI 144) dX12_init_312 (iI_16 (by decide)) ?_
  refine wp_newa (atype := .int) (tc := 0) (N := 144) (a0 := (144, .inl (fun _ => 0))) (o := (none, PF, b + 56, n)) dX12_init_315 arC_int rfl (fun cA => rfl) (iI_n_lt (b := 0) ⟨by omega, by omega⟩ inR_0 (by omega)) (by rw [iI_nat (by omega) (by omega)]; rfl) (by show 144 * 4 ≤ 536870912; omega) (by show b + 1 + 36 + 1 ≤ b + 56; omega) ?_
  refine wp_putF (ci := 12) (k := 58) (fs := mFk b 36) tyX12 tyX12_ok nmX12 dX12_init_317 rfl lay_12 (by decide) fl12_126 rfl rfl rfl (tyX12_ok 58 (by decide)) rfl rfl ovK_b ?_
  rw [ovK_step (b := b) (k := 36) (P0 := P0) (e := .inl (0, 144, .inl (fun _ => 0))) (Y := (mFk b 36).set 58 (.ref (b + 1 + 36))) rfl rfl]
  exact kk
theorem cst12_129 : Cond.constant RX12 129 (42432) ∈ pWW := pw7 (List.mem_of_getElem? (i := 5) rfl) rfl
theorem dX12_init_321 : decode cX12_init 321 = .ok (.ldc 129, 2) := by decide +kernel
theorem dX12_init_320 : decode cX12_init 320 = .ok (.aload_n 0, 1) := by decide +kernel
theorem dX12_init_323 : decode cX12_init 323 = .ok (.newarray .boolean, 2) := by decide +kernel
theorem dX12_init_325 : decode cX12_init 325 = .ok (.putfield 130, 3) := by decide +kernel
set_option maxRecDepth 20000 in
theorem in_37 (d : Nat) {b n n2 : Nat} {P0 PF : PH} (hn2 : 42432 + n = n2) (kk : Wp (d + 1) m_X12_init 328 (ovK b 38 P0) (b + 1 + 38) [(0, .ref b)] [] (none, PF, b + 56, n)) : Wp (d + 1) m_X12_init 320 (ovK b 37 P0) (b + 1 + 37) [(0, .ref b)] [] (none, PF, b + 56, n2) := by
  subst hn2
  refine wp_aload_n dX12_init_320 rfl 0 rfl ?_
  refine wp_ldc (v := iI 42432) dX12_init_321 cst12_129 ?_
  refine wp_newa (atype := .boolean) (tc := 2) (N := 42432) (a0 := (42432, .inl (fun _ => 0))) (o := (none, PF, b + 56, n)) dX12_init_323 arC_boolean rfl (fun cA => rfl) (iI_n_lt (b := 0) ⟨by omega, by omega⟩ inR_0 (by omega)) (by rw [iI_nat (by omega) (by omega)]; rfl) (by show 42432 * 1 ≤ 536870912; omega) (by show b + 1 + 37 + 1 ≤ b + 56; omega) ?_
  refine wp_putF (ci := 12) (k := 59) (fs := mFk b 37) tyX12 tyX12_ok nmX12 dX12_init_325 rfl lay_12 (by decide) fl12_130 rfl rfl rfl (tyX12_ok 59 (by decide)) rfl rfl ovK_b ?_
  rw [ovK_step (b := b) (k := 37) (P0 := P0) (e := .inl (2, 42432, .inl (fun _ => 0))) (Y := (mFk b 37).set 59 (.ref (b + 1 + 37))) rfl rfl]
  exact kk
theorem dX12_init_329 : decode cX12_init 329 = .ok (.sipush 192, 3) := by decide +kernel
theorem dX12_init_328 : decode cX12_init 328 = .ok (.aload_n 0, 1) := by decide +kernel
theorem dX12_init_332 : decode cX12_init 332 = .ok (.newarray .int, 2) := by decide +kernel
theorem dX12_init_334 : decode cX12_init 334 = .ok (.putfield 133, 3) := by decide +kernel
set_option maxRecDepth 20000 in
theorem in_38 (d : Nat) {b n n2 : Nat} {P0 PF : PH} (hn2 : 192 + n = n2) (kk : Wp (d + 1) m_X12_init 337 (ovK b 39 P0) (b + 1 + 39) [(0, .ref b)] [] (none, PF, b + 56, n)) : Wp (d + 1) m_X12_init 328 (ovK b 38 P0) (b + 1 + 38) [(0, .ref b)] [] (none, PF, b + 56, n2) := by
  subst hn2
  refine wp_aload_n dX12_init_328 rfl 0 rfl ?_
  refine wp_sipush (v := iI 192) dX12_init_329 (iI_16 (by decide)) ?_
  refine wp_newa (atype := .int) (tc := 0) (N := 192) (a0 := (192, .inl (fun _ => 0))) (o := (none, PF, b + 56, n)) dX12_init_332 arC_int rfl (fun cA => rfl) (iI_n_lt (b := 0) ⟨by omega, by omega⟩ inR_0 (by omega)) (by rw [iI_nat (by omega) (by omega)]; rfl) (by show 192 * 4 ≤ 536870912; omega) (by show b + 1 + 38 + 1 ≤ b + 56; omega) ?_
  refine wp_putF (ci := 12) (k := 60) (fs := mFk b 38) tyX12 tyX12_ok nmX12 dX12_init_334 rfl lay_12 (by decide) fl12_133 rfl rfl rfl (tyX12_ok 60 (by decide)) rfl rfl ovK_b ?_
  rw [ovK_step (b := b) (k := 38) (P0 := P0) (e := .inl (0, 192, .inl (fun _ => 0))) (Y := (mFk b 38).set 60 (.ref (b + 1 + 38))) rfl rfl]
  exact kk
theorem dX12_init_338 : decode cX12_init 338 = .ok (.sipush 192, 3) := by decide +kernel
theorem dX12_init_337 : decode cX12_init 337 = .ok (.aload_n 0, 1) := by decide +kernel
theorem dX12_init_341 : decode cX12_init 341 = .ok (.newarray .int, 2) := by decide +kernel
theorem dX12_init_343 : decode cX12_init 343 = .ok (.putfield 136, 3) := by decide +kernel
set_option maxRecDepth 20000 in
theorem in_39 (d : Nat) {b n n2 : Nat} {P0 PF : PH} (hn2 : 192 + n = n2) (kk : Wp (d + 1) m_X12_init 346 (ovK b 40 P0) (b + 1 + 40) [(0, .ref b)] [] (none, PF, b + 56, n)) : Wp (d + 1) m_X12_init 337 (ovK b 39 P0) (b + 1 + 39) [(0, .ref b)] [] (none, PF, b + 56, n2) := by
  subst hn2
  refine wp_aload_n dX12_init_337 rfl 0 rfl ?_
  refine wp_sipush (v := iI 192) dX12_init_338 (iI_16 (by decide)) ?_
  refine wp_newa (atype := .int) (tc := 0) (N := 192) (a0 := (192, .inl (fun _ => 0))) (o := (none, PF, b + 56, n)) dX12_init_341 arC_int rfl (fun cA => rfl) (iI_n_lt (b := 0) ⟨by omega, by omega⟩ inR_0 (by omega)) (by rw [iI_nat (by omega) (by omega)]; rfl) (by show 192 * 4 ≤ 536870912; omega) (by show b + 1 + 39 + 1 ≤ b + 56; omega) ?_
  refine wp_putF (ci := 12) (k := 61) (fs := mFk b 39) tyX12 tyX12_ok nmX12 dX12_init_343 rfl lay_12 (by decide) fl12_136 rfl rfl rfl (tyX12_ok 61 (by decide)) rfl rfl ovK_b ?_
  rw [ovK_step (b := b) (k := 39) (P0 := P0) (e := .inl (0, 192, .inl (fun _ => 0))) (Y := (mFk b 39).set 61 (.ref (b + 1 + 39))) rfl rfl]
  exact kk
theorem dX12_init_347 : decode cX12_init 347 = .ok (.ldc 139, 2) := by decide +kernel
theorem dX12_init_346 : decode cX12_init 346 = .ok (.aload_n 0, 1) := by decide +kernel
theorem dX12_init_349 : decode cX12_init 349 = .ok (.newarray .boolean, 2) := by decide +kernel
theorem dX12_init_351 : decode cX12_init 351 = .ok (.putfield 140, 3) := by decide +kernel
set_option maxRecDepth 20000 in
theorem in_40 (d : Nat) {b n n2 : Nat} {P0 PF : PH} (hn2 : 36864 + n = n2) (kk : Wp (d + 1) m_X12_init 354 (ovK b 41 P0) (b + 1 + 41) [(0, .ref b)] [] (none, PF, b + 56, n)) : Wp (d + 1) m_X12_init 346 (ovK b 40 P0) (b + 1 + 40) [(0, .ref b)] [] (none, PF, b + 56, n2) := by
  subst hn2
  refine wp_aload_n dX12_init_346 rfl 0 rfl ?_
  refine wp_ldc (v := iI 36864) dX12_init_347 cst12_139 ?_
  refine wp_newa (atype := .boolean) (tc := 2) (N := 36864) (a0 := (36864, .inl (fun _ => 0))) (o := (none, PF, b + 56, n)) dX12_init_349 arC_boolean rfl (fun cA => rfl) (iI_n_lt (b := 0) ⟨by omega, by omega⟩ inR_0 (by omega)) (by rw [iI_nat (by omega) (by omega)]; rfl) (by show 36864 * 1 ≤ 536870912; omega) (by show b + 1 + 40 + 1 ≤ b + 56; omega) ?_
  refine wp_putF (ci := 12) (k := 63) (fs := mFk b 40) tyX12 tyX12_ok nmX12 dX12_init_351 rfl lay_12 (by decide) fl12_140 rfl rfl rfl (tyX12_ok 63 (by decide)) rfl rfl ovK_b ?_
  rw [ovK_step (b := b) (k := 40) (P0 := P0) (e := .inl (2, 36864, .inl (fun _ => 0))) (Y := (mFk b 40).set 63 (.ref (b + 1 + 40))) rfl rfl]
  exact kk
theorem dX12_init_355 : decode cX12_init 355 = .ok (.sipush 192, 3) := by decide +kernel
theorem dX12_init_354 : decode cX12_init 354 = .ok (.aload_n 0, 1) := by decide +kernel
theorem dX12_init_358 : decode cX12_init 358 = .ok (.newarray .int, 2) := by decide +kernel
theorem dX12_init_360 : decode cX12_init 360 = .ok (.putfield 143, 3) := by decide +kernel
set_option maxRecDepth 20000 in
theorem in_41 (d : Nat) {b n n2 : Nat} {P0 PF : PH} (hn2 : 192 + n = n2) (kk : Wp (d + 1) m_X12_init 363 (ovK b 42 P0) (b + 1 + 42) [(0, .ref b)] [] (none, PF, b + 56, n)) : Wp (d + 1) m_X12_init 354 (ovK b 41 P0) (b + 1 + 41) [(0, .ref b)] [] (none, PF, b + 56, n2) := by
  subst hn2
  refine wp_aload_n dX12_init_354 rfl 0 rfl ?_
  refine wp_sipush (v := iI 192) dX12_init_355 (iI_16 (by decide)) ?_
  refine wp_newa (atype := .int) (tc := 0) (N := 192) (a0 := (192, .inl (fun _ => 0))) (o := (none, PF, b + 56, n)) dX12_init_358 arC_int rfl (fun cA => rfl) (iI_n_lt (b := 0) ⟨by omega, by omega⟩ inR_0 (by omega)) (by rw [iI_nat (by omega) (by omega)]; rfl) (by show 192 * 4 ≤ 536870912; omega) (by show b + 1 + 41 + 1 ≤ b + 56; omega) ?_
  refine wp_putF (ci := 12) (k := 64) (fs := mFk b 41) tyX12 tyX12_ok nmX12 dX12_init_360 rfl lay_12 (by decide) fl12_143 rfl rfl rfl (tyX12_ok 64 (by decide)) rfl rfl ovK_b ?_
  rw [ovK_step (b := b) (k := 41) (P0 := P0) (e := .inl (0, 192, .inl (fun _ => 0))) (Y := (mFk b 41).set 64 (.ref (b + 1 + 41))) rfl rfl]
  exact kk
theorem dX12_init_364 : decode cX12_init 364 = .ok (.ldc 129, 2) := by decide +kernel
theorem dX12_init_363 : decode cX12_init 363 = .ok (.aload_n 0, 1) := by decide +kernel
theorem dX12_init_366 : decode cX12_init 366 = .ok (.newarray .int, 2) := by decide +kernel
theorem dX12_init_368 : decode cX12_init 368 = .ok (.putfield 146, 3) := by decide +kernel
set_option maxRecDepth 20000 in
theorem in_42 (d : Nat) {b n n2 : Nat} {P0 PF : PH} (hn2 : 42432 + n = n2) (kk : Wp (d + 1) m_X12_init 371 (ovK b 43 P0) (b + 1 + 43) [(0, .ref b)] [] (none, PF, b + 56, n)) : Wp (d + 1) m_X12_init 363 (ovK b 42 P0) (b + 1 + 42) [(0, .ref b)] [] (none, PF, b + 56, n2) := by
  subst hn2
  refine wp_aload_n dX12_init_363 rfl 0 rfl ?_
  refine wp_ldc (v := iI 42432) dX12_init_364 cst12_129 ?_
  refine wp_newa (atype := .int) (tc := 0) (N := 42432) (a0 := (42432, .inl (fun _ => 0))) (o := (none, PF, b + 56, n)) dX12_init_366 arC_int rfl (fun cA => rfl) (iI_n_lt (b := 0) ⟨by omega, by omega⟩ inR_0 (by omega)) (by rw [iI_nat (by omega) (by omega)]; rfl) (by show 42432 * 4 ≤ 536870912; omega) (by show b + 1 + 42 + 1 ≤ b + 56; omega) ?_
  refine wp_putF (ci := 12) (k := 65) (fs := mFk b 42) tyX12 tyX12_ok nmX12 dX12_init_368 rfl lay_12 (by decide) fl12_146 rfl rfl rfl (tyX12_ok 65 (by decide)) rfl rfl ovK_b ?_
  rw [ovK_step (b := b) (k := 42) (P0 := P0) (e := .inl (0, 42432, .inl (fun _ => 0))) (Y := (mFk b 42).set 65 (.ref (b + 1 + 42))) rfl rfl]
  exact kk
theorem dX12_init_372 : decode cX12_init 372 = .ok (.sipush 192, 3) := by decide +kernel
theorem dX12_init_371 : decode cX12_init 371 = .ok (.aload_n 0, 1) := by decide +kernel
theorem dX12_init_375 : decode cX12_init 375 = .ok (.newarray .int, 2) := by decide +kernel
theorem dX12_init_377 : decode cX12_init 377 = .ok (.putfield 149, 3) := by decide +kernel
set_option maxRecDepth 20000 in
theorem in_43 (d : Nat) {b n n2 : Nat} {P0 PF : PH} (hn2 : 192 + n = n2) (kk : Wp (d + 1) m_X12_init 380 (ovK b 44 P0) (b + 1 + 44) [(0, .ref b)] [] (none, PF, b + 56, n)) : Wp (d + 1) m_X12_init 371 (ovK b 43 P0) (b + 1 + 43) [(0, .ref b)] [] (none, PF, b + 56, n2) := by
  subst hn2
  refine wp_aload_n dX12_init_371 rfl 0 rfl ?_
  refine wp_sipush (v := iI 192) dX12_init_372 (iI_16 (by decide)) ?_
  refine wp_newa (atype := .int) (tc := 0) (N := 192) (a0 := (192, .inl (fun _ => 0))) (o := (none, PF, b + 56, n)) dX12_init_375 arC_int rfl (fun cA => rfl) (iI_n_lt (b := 0) ⟨by omega, by omega⟩ inR_0 (by omega)) (by rw [iI_nat (by omega) (by omega)]; rfl) (by show 192 * 4 ≤ 536870912; omega) (by show b + 1 + 43 + 1 ≤ b + 56; omega) ?_
  refine wp_putF (ci := 12) (k := 66) (fs := mFk b 43) tyX12 tyX12_ok nmX12 dX12_init_377 rfl lay_12 (by decide) fl12_149 rfl rfl rfl (tyX12_ok 66 (by decide)) rfl rfl ovK_b ?_
  rw [ovK_step (b := b) (k := 43) (P0 := P0) (e := .inl (0, 192, .inl (fun _ => 0))) (Y := (mFk b 43).set 66 (.ref (b + 1 + 43))) rfl rfl]
  exact kk
theorem dX12_init_381 : decode cX12_init 381 = .ok (.iconst 3, 1) := by decide +kernel
theorem dX12_init_380 : decode cX12_init 380 = .ok (.aload_n 0, 1) := by decide +kernel
theorem dX12_init_382 : decode cX12_init 382 = .ok (.newarray .int, 2) := by decide +kernel
theorem dX12_init_384 : decode cX12_init 384 = .ok (.putfield 152, 3) := by decide +kernel
set_option maxRecDepth 20000 in
theorem in_44 (d : Nat) {b n n2 : Nat} {P0 PF : PH} (hn2 : 3 + n = n2) (kk : Wp (d + 1) m_X12_init 387 (ovK b 45 P0) (b + 1 + 45) [(0, .ref b)] [] (none, PF, b + 56, n)) : Wp (d + 1) m_X12_init 380 (ovK b 44 P0) (b + 1 + 44) [(0, .ref b)] [] (none, PF, b + 56, n2) := by
  subst hn2
  refine wp_aload_n dX12_init_380 rfl 0 rfl ?_
  refine wp_iconst (v := iI 3) dX12_init_381 rfl ?_
  refine wp_newa (atype := .int) (tc := 0) (N := 3) (a0 := (3, .inl (fun _ => 0))) (o := (none, PF, b + 56, n)) dX12_init_382 arC_int rfl (fun cA => rfl) (iI_n_lt (b := 0) ⟨by omega, by omega⟩ inR_0 (by omega)) (by rw [iI_nat (by omega) (by omega)]; rfl) (by show 3 * 4 ≤ 536870912; omega) (by show b + 1 + 44 + 1 ≤ b + 56; omega) ?_
  refine wp_putF (ci := 12) (k := 73) (fs := mFk b 44) tyX12 tyX12_ok nmX12 dX12_init_384 rfl lay_12 (by decide) fl12_152 rfl rfl rfl (tyX12_ok 73 (by decide)) rfl rfl ovK_b ?_
  rw [ovK_step (b := b) (k := 44) (P0 := P0) (e := .inl (0, 3, .inl (fun _ => 0))) (Y := (mFk b 44).set 73 (.ref (b + 1 + 44))) rfl rfl]
  exact kk
theorem dX12_init_388 : decode cX12_init 388 = .ok (.iconst 3, 1) := by decide +kernel
theorem dX12_init_387 : decode cX12_init 387 = .ok (.aload_n 0, 1) := by decide +kernel
theorem dX12_init_389 : decode cX12_init 389 = .ok (.newarray .int, 2) := by decide +kernel
theorem dX12_init_391 : decode cX12_init 391 = .ok (.putfield 155, 3) := by decide +kernel
set_option maxRecDepth 20000 in
theorem in_45 (d : Nat) {b n n2 : Nat} {P0 PF : PH} (hn2 : 3 + n = n2) (kk : Wp (d + 1) m_X12_init 394 (ovK b 46 P0) (b + 1 + 46) [(0, .ref b)] [] (none, PF, b + 56, n)) : Wp (d + 1) m_X12_init 387 (ovK b 45 P0) (b + 1 + 45) [(0, .ref b)] [] (none, PF, b + 56, n2) := by
  subst hn2
  refine wp_aload_n dX12_init_387 rfl 0 rfl ?_
  refine wp_iconst (v := iI 3) dX12_init_388 rfl ?_
  refine wp_newa (atype := .int) (tc := 0) (N := 3) (a0 := (3, .inl (fun _ => 0))) (o := (none, PF, b + 56, n)) dX12_init_389 arC_int rfl (fun cA => rfl) (iI_n_lt (b := 0) ⟨by omega, by omega⟩ inR_0 (by omega)) (by rw [iI_nat (by omega) (by omega)]; rfl) (by show 3 * 4 ≤ 536870912; omega) (by show b + 1 + 45 + 1 ≤ b + 56; omega) ?_
  refine wp_putF (ci := 12) (k := 74) (fs := mFk b 45) tyX12 tyX12_ok nmX12 dX12_init_391 rfl lay_12 (by decide) fl12_155 rfl rfl rfl (tyX12_ok 74 (by decide)) rfl rfl ovK_b ?_
  rw [ovK_step (b := b) (k := 45) (P0 := P0) (e := .inl (0, 3, .inl (fun _ => 0))) (Y := (mFk b 45).set 74 (.ref (b + 1 + 45))) rfl rfl]
  exact kk
theorem dX12_init_395 : decode cX12_init 395 = .ok (.iconst 3, 1) := by decide +kernel
theorem dX12_init_394 : decode cX12_init 394 = .ok (.aload_n 0, 1) := by decide +kernel
theorem dX12_init_396 : decode cX12_init 396 = .ok (.newarray .int, 2) := by decide +kernel
theorem dX12_init_398 : decode cX12_init 398 = .ok (.putfield 158, 3) := by decide +kernel
set_option maxRecDepth 20000 in
theorem in_46 (d : Nat) {b n n2 : Nat} {P0 PF : PH} (hn2 : 3 + n = n2) (kk : Wp (d + 1) m_X12_init 401 (ovK b 47 P0) (b + 1 + 47) [(0, .ref b)] [] (none, PF, b + 56, n)) : Wp (d + 1) m_X12_init 394 (ovK b 46 P0) (b + 1 + 46) [(0, .ref b)] [] (none, PF, b + 56, n2) := by
  subst hn2
  refine wp_aload_n dX12_init_394 rfl 0 rfl ?_
  refine wp_iconst (v := iI 3) dX12_init_395 rfl ?_
  refine wp_newa (atype := .int) (tc := 0) (N := 3) (a0 := (3, .inl (fun _ => 0))) (o := (none, PF, b + 56, n)) dX12_init_396 arC_int rfl (fun cA => rfl) (iI_n_lt (b := 0) ⟨by omega, by omega⟩ inR_0 (by omega)) (by rw [iI_nat (by omega) (by omega)]; rfl) (by show 3 * 4 ≤ 536870912; omega) (by show b + 1 + 46 + 1 ≤ b + 56; omega) ?_
  refine wp_putF (ci := 12) (k := 75) (fs := mFk b 46) tyX12 tyX12_ok nmX12 dX12_init_398 rfl lay_12 (by decide) fl12_158 rfl rfl rfl (tyX12_ok 75 (by decide)) rfl rfl ovK_b ?_
  rw [ovK_step (b := b) (k := 46) (P0 := P0) (e := .inl (0, 3, .inl (fun _ => 0))) (Y := (mFk b 46).set 75 (.ref (b + 1 + 46))) rfl rfl]
  exact kk
theorem dX12_init_402 : decode cX12_init 402 = .ok (.iconst 3, 1) := by decide +kernel
theorem dX12_init_401 : decode cX12_init 401 = .ok (.aload_n 0, 1) := by decide +kernel
theorem dX12_init_403 : decode cX12_init 403 = .ok (.newarray .int, 2) := by decide +kernel
theorem dX12_init_405 : decode cX12_init 405 = .ok (.putfield 161, 3) := by decide +kernel
set_option maxRecDepth 20000 in
theorem in_47 (d : Nat) {b n n2 : Nat} {P0 PF : PH} (hn2 : 3 + n = n2) (kk : Wp (d + 1) m_X12_init 408 (ovK b 48 P0) (b + 1 + 48) [(0, .ref b)] [] (none, PF, b + 56, n)) : Wp (d + 1) m_X12_init 401 (ovK b 47 P0) (b + 1 + 47) [(0, .ref b)] [] (none, PF, b + 56, n2) := by
  subst hn2
  refine wp_aload_n dX12_init_401 rfl 0 rfl ?_
  refine wp_iconst (v := iI 3) dX12_init_402 rfl ?_
  refine wp_newa (atype := .int) (tc := 0) (N := 3) (a0 := (3, .inl (fun _ => 0))) (o := (none, PF, b + 56, n)) dX12_init_403 arC_int rfl (fun cA => rfl) (iI_n_lt (b := 0) ⟨by omega, by omega⟩ inR_0 (by omega)) (by rw [iI_nat (by omega) (by omega)]; rfl) (by show 3 * 4 ≤ 536870912; omega) (by show b + 1 + 47 + 1 ≤ b + 56; omega) ?_
  refine wp_putF (ci := 12) (k := 76) (fs := mFk b 47) tyX12 tyX12_ok nmX12 dX12_init_405 rfl lay_12 (by decide) fl12_161 rfl rfl rfl (tyX12_ok 76 (by decide)) rfl rfl ovK_b ?_
  rw [ovK_step (b := b) (k := 47) (P0 := P0) (e := .inl (0, 3, .inl (fun _ => 0))) (Y := (mFk b 47).set 76 (.ref (b + 1 + 47))) rfl rfl]
  exact kk
theorem dX12_init_409 : decode cX12_init 409 = .ok (.sipush 600, 3) := by decide +kernel
theorem dX12_init_408 : decode cX12_init 408 = .ok (.aload_n 0, 1) := by decide +kernel
theorem dX12_init_412 : decode cX12_init 412 = .ok (.newarray .int, 2) := by decide +kernel
theorem dX12_init_414 : decode cX12_init 414 = .ok (.putfield 164, 3) := by decide +kernel
set_option maxRecDepth 20000 in
theorem in_48 (d : Nat) {b n n2 : Nat} {P0 PF : PH} (hn2 : 600 + n = n2) (kk : Wp (d + 1) m_X12_init 417 (ovK b 49 P0) (b + 1 + 49) [(0, .ref b)] [] (none, PF, b + 56, n)) : Wp (d + 1) m_X12_init 408 (ovK b 48 P0) (b + 1 + 48) [(0, .ref b)] [] (none, PF, b + 56, n2) := by
  subst hn2
  refine wp_aload_n dX12_init_408 rfl 0 rfl ?_
  refine wp_sipush (v := iI 600) dX12_init_409 (iI_16 (by decide)) ?_
  refine wp_newa (atype := .int) (tc := 0) (N := 600) (a0 := (600, .inl (fun _ => 0))) (o := (none, PF, b + 56, n)) dX12_init_412 arC_int rfl (fun cA => rfl) (iI_n_lt (b := 0) ⟨by omega, by omega⟩ inR_0 (by omega)) (by rw [iI_nat (by omega) (by omega)]; rfl) (by show 600 * 4 ≤ 536870912; omega) (by show b + 1 + 48 + 1 ≤ b + 56; omega) ?_
  refine wp_putF (ci := 12) (k := 77) (fs := mFk b 48) tyX12 tyX12_ok nmX12 dX12_init_414 rfl lay_12 (by decide) fl12_164 rfl rfl rfl (tyX12_ok 77 (by decide)) rfl rfl ovK_b ?_
  rw [ovK_step (b := b) (k := 48) (P0 := P0) (e := .inl (0, 600, .inl (fun _ => 0))) (Y := (mFk b 48).set 77 (.ref (b + 1 + 48))) rfl rfl]
  exact kk
theorem dX12_init_418 : decode cX12_init 418 = .ok (.bipush 27, 2) := by decide +kernel
theorem dX12_init_417 : decode cX12_init 417 = .ok (.aload_n 0, 1) := by decide +kernel
theorem dX12_init_420 : decode cX12_init 420 = .ok (.newarray .int, 2) := by decide +kernel
theorem dX12_init_422 : decode cX12_init 422 = .ok (.putfield 167, 3) := by decide +kernel
set_option maxRecDepth 20000 in
theorem in_49 (d : Nat) {b n n2 : Nat} {P0 PF : PH} (hn2 : 27 + n = n2) (kk : Wp (d + 1) m_X12_init 425 (ovK b 50 P0) (b + 1 + 50) [(0, .ref b)] [] (none, PF, b + 56, n)) : Wp (d + 1) m_X12_init 417 (ovK b 49 P0) (b + 1 + 49) [(0, .ref b)] [] (none, PF, b + 56, n2) := by
  subst hn2
  refine wp_aload_n dX12_init_417 rfl 0 rfl ?_
  refine wp_bipush (v := iI 27) dX12_init_418 (iI_8 (by decide)) ?_
  refine wp_newa (atype := .int) (tc := 0) (N := 27) (a0 := (27, .inl (fun _ => 0))) (o := (none, PF, b + 56, n)) dX12_init_420 arC_int rfl (fun cA => rfl) (iI_n_lt (b := 0) ⟨by omega, by omega⟩ inR_0 (by omega)) (by rw [iI_nat (by omega) (by omega)]; rfl) (by show 27 * 4 ≤ 536870912; omega) (by show b + 1 + 49 + 1 ≤ b + 56; omega) ?_
  refine wp_putF (ci := 12) (k := 78) (fs := mFk b 49) tyX12 tyX12_ok nmX12 dX12_init_422 rfl lay_12 (by decide) fl12_167 rfl rfl rfl (tyX12_ok 78 (by decide)) rfl rfl ovK_b ?_
  rw [ovK_step (b := b) (k := 49) (P0 := P0) (e := .inl (0, 27, .inl (fun _ => 0))) (Y := (mFk b 49).set 78 (.ref (b + 1 + 49))) rfl rfl]
  exact kk
theorem dX12_init_426 : decode cX12_init 426 = .ok (.bipush 27, 2) := by decide +kernel
theorem dX12_init_425 : decode cX12_init 425 = .ok (.aload_n 0, 1) := by decide +kernel
theorem dX12_init_428 : decode cX12_init 428 = .ok (.newarray .int, 2) := by decide +kernel
theorem dX12_init_430 : decode cX12_init 430 = .ok (.putfield 170, 3) := by decide +kernel
set_option maxRecDepth 20000 in
theorem in_50 (d : Nat) {b n n2 : Nat} {P0 PF : PH} (hn2 : 27 + n = n2) (kk : Wp (d + 1) m_X12_init 433 (ovK b 51 P0) (b + 1 + 51) [(0, .ref b)] [] (none, PF, b + 56, n)) : Wp (d + 1) m_X12_init 425 (ovK b 50 P0) (b + 1 + 50) [(0, .ref b)] [] (none, PF, b + 56, n2) := by
  subst hn2
  refine wp_aload_n dX12_init_425 rfl 0 rfl ?_
  refine wp_bipush (v := iI 27) dX12_init_426 (iI_8 (by decide)) ?_
  refine wp_newa (atype := .int) (tc := 0) (N := 27) (a0 := (27, .inl (fun _ => 0))) (o := (none, PF, b + 56, n)) dX12_init_428 arC_int rfl (fun cA => rfl) (iI_n_lt (b := 0) ⟨by omega, by omega⟩ inR_0 (by omega)) (by rw [iI_nat (by omega) (by omega)]; rfl) (by show 27 * 4 ≤ 536870912; omega) (by show b + 1 + 50 + 1 ≤ b + 56; omega) ?_
  refine wp_putF (ci := 12) (k := 79) (fs := mFk b 50) tyX12 tyX12_ok nmX12 dX12_init_430 rfl lay_12 (by decide) fl12_170 rfl rfl rfl (tyX12_ok 79 (by decide)) rfl rfl ovK_b ?_
  rw [ovK_step (b := b) (k := 50) (P0 := P0) (e := .inl (0, 27, .inl (fun _ => 0))) (Y := (mFk b 50).set 79 (.ref (b + 1 + 50))) rfl rfl]
  exact kk
theorem dX12_init_434 : decode cX12_init 434 = .ok (.bipush 27, 2) := by decide +kernel
theorem dX12_init_433 : decode cX12_init 433 = .ok (.aload_n 0, 1) := by decide +kernel
theorem dX12_init_436 : decode cX12_init 436 = .ok (.newarray .int, 2) := by decide +kernel
theorem dX12_init_438 : decode cX12_init 438 = .ok (.putfield 173, 3) := by decide +kernel
set_option maxRecDepth 20000 in
theorem in_51 (d : Nat) {b n n2 : Nat} {P0 PF : PH} (hn2 : 27 + n = n2) (kk : Wp (d + 1) m_X12_init 441 (ovK b 52 P0) (b + 1 + 52) [(0, .ref b)] [] (none, PF, b + 56, n)) : Wp (d + 1) m_X12_init 433 (ovK b 51 P0) (b + 1 + 51) [(0, .ref b)] [] (none, PF, b + 56, n2) := by
  subst hn2
  refine wp_aload_n dX12_init_433 rfl 0 rfl ?_
  refine wp_bipush (v := iI 27) dX12_init_434 (iI_8 (by decide)) ?_
  refine wp_newa (atype := .int) (tc := 0) (N := 27) (a0 := (27, .inl (fun _ => 0))) (o := (none, PF, b + 56, n)) dX12_init_436 arC_int rfl (fun cA => rfl) (iI_n_lt (b := 0) ⟨by omega, by omega⟩ inR_0 (by omega)) (by rw [iI_nat (by omega) (by omega)]; rfl) (by show 27 * 4 ≤ 536870912; omega) (by show b + 1 + 51 + 1 ≤ b + 56; omega) ?_
  refine wp_putF (ci := 12) (k := 80) (fs := mFk b 51) tyX12 tyX12_ok nmX12 dX12_init_438 rfl lay_12 (by decide) fl12_173 rfl rfl rfl (tyX12_ok 80 (by decide)) rfl rfl ovK_b ?_
  rw [ovK_step (b := b) (k := 51) (P0 := P0) (e := .inl (0, 27, .inl (fun _ => 0))) (Y := (mFk b 51).set 80 (.ref (b + 1 + 51))) rfl rfl]
  exact kk
theorem dX12_init_442 : decode cX12_init 442 = .ok (.sipush 324, 3) := by decide +kernel
theorem dX12_init_441 : decode cX12_init 441 = .ok (.aload_n 0, 1) := by decide +kernel
theorem dX12_init_445 : decode cX12_init 445 = .ok (.newarray .int, 2) := by decide +kernel
theorem dX12_init_447 : decode cX12_init 447 = .ok (.putfield 176, 3) := by decide +kernel
set_option maxRecDepth 20000 in
theorem in_52 (d : Nat) {b n n2 : Nat} {P0 PF : PH} (hn2 : 324 + n = n2) (kk : Wp (d + 1) m_X12_init 450 (ovK b 53 P0) (b + 1 + 53) [(0, .ref b)] [] (none, PF, b + 56, n)) : Wp (d + 1) m_X12_init 441 (ovK b 52 P0) (b + 1 + 52) [(0, .ref b)] [] (none, PF, b + 56, n2) := by
  subst hn2
  refine wp_aload_n dX12_init_441 rfl 0 rfl ?_
  refine wp_sipush (v := iI 324) dX12_init_442 (iI_16 (by decide)) ?_
  refine wp_newa (atype := .int) (tc := 0) (N := 324) (a0 := (324, .inl (fun _ => 0))) (o := (none, PF, b + 56, n)) dX12_init_445 arC_int rfl (fun cA => rfl) (iI_n_lt (b := 0) ⟨by omega, by omega⟩ inR_0 (by omega)) (by rw [iI_nat (by omega) (by omega)]; rfl) (by show 324 * 4 ≤ 536870912; omega) (by show b + 1 + 52 + 1 ≤ b + 56; omega) ?_
  refine wp_putF (ci := 12) (k := 81) (fs := mFk b 52) tyX12 tyX12_ok nmX12 dX12_init_447 rfl lay_12 (by decide) fl12_176 rfl rfl rfl (tyX12_ok 81 (by decide)) rfl rfl ovK_b ?_
  rw [ovK_step (b := b) (k := 52) (P0 := P0) (e := .inl (0, 324, .inl (fun _ => 0))) (Y := (mFk b 52).set 81 (.ref (b + 1 + 52))) rfl rfl]
  exact kk
theorem dX12_init_451 : decode cX12_init 451 = .ok (.sipush 5184, 3) := by decide +kernel
theorem dX12_init_450 : decode cX12_init 450 = .ok (.aload_n 0, 1) := by decide +kernel
theorem dX12_init_454 : decode cX12_init 454 = .ok (.newarray .int, 2) := by decide +kernel
theorem dX12_init_456 : decode cX12_init 456 = .ok (.putfield 179, 3) := by decide +kernel
set_option maxRecDepth 20000 in
theorem in_53 (d : Nat) {b n n2 : Nat} {P0 PF : PH} (hn2 : 5184 + n = n2) (kk : Wp (d + 1) m_X12_init 459 (ovK b 54 P0) (b + 1 + 54) [(0, .ref b)] [] (none, PF, b + 56, n)) : Wp (d + 1) m_X12_init 450 (ovK b 53 P0) (b + 1 + 53) [(0, .ref b)] [] (none, PF, b + 56, n2) := by
  subst hn2
  refine wp_aload_n dX12_init_450 rfl 0 rfl ?_
  refine wp_sipush (v := iI 5184) dX12_init_451 (iI_16 (by decide)) ?_
  refine wp_newa (atype := .int) (tc := 0) (N := 5184) (a0 := (5184, .inl (fun _ => 0))) (o := (none, PF, b + 56, n)) dX12_init_454 arC_int rfl (fun cA => rfl) (iI_n_lt (b := 0) ⟨by omega, by omega⟩ inR_0 (by omega)) (by rw [iI_nat (by omega) (by omega)]; rfl) (by show 5184 * 4 ≤ 536870912; omega) (by show b + 1 + 53 + 1 ≤ b + 56; omega) ?_
  refine wp_putF (ci := 12) (k := 82) (fs := mFk b 53) tyX12 tyX12_ok nmX12 dX12_init_456 rfl lay_12 (by decide) fl12_179 rfl rfl rfl (tyX12_ok 82 (by decide)) rfl rfl ovK_b ?_
  rw [ovK_step (b := b) (k := 53) (P0 := P0) (e := .inl (0, 5184, .inl (fun _ => 0))) (Y := (mFk b 53).set 82 (.ref (b + 1 + 53))) rfl rfl]
  exact kk
theorem dX12_init_460 : decode cX12_init 460 = .ok (.iconst 3, 1) := by decide +kernel
theorem dX12_init_459 : decode cX12_init 459 = .ok (.aload_n 0, 1) := by decide +kernel
theorem dX12_init_461 : decode cX12_init 461 = .ok (.newarray .int, 2) := by decide +kernel
theorem dX12_init_463 : decode cX12_init 463 = .ok (.putfield 182, 3) := by decide +kernel
set_option maxRecDepth 20000 in
theorem in_54 (d : Nat) {b n n2 : Nat} {P0 PF : PH} (hn2 : 3 + n = n2) (kk : Wp (d + 1) m_X12_init 466 (ovK b 55 P0) (b + 1 + 55) [(0, .ref b)] [] (none, PF, b + 56, n)) : Wp (d + 1) m_X12_init 459 (ovK b 54 P0) (b + 1 + 54) [(0, .ref b)] [] (none, PF, b + 56, n2) := by
  subst hn2
  refine wp_aload_n dX12_init_459 rfl 0 rfl ?_
  refine wp_iconst (v := iI 3) dX12_init_460 rfl ?_
  refine wp_newa (atype := .int) (tc := 0) (N := 3) (a0 := (3, .inl (fun _ => 0))) (o := (none, PF, b + 56, n)) dX12_init_461 arC_int rfl (fun cA => rfl) (iI_n_lt (b := 0) ⟨by omega, by omega⟩ inR_0 (by omega)) (by rw [iI_nat (by omega) (by omega)]; rfl) (by show 3 * 4 ≤ 536870912; omega) (by show b + 1 + 54 + 1 ≤ b + 56; omega) ?_
  refine wp_putF (ci := 12) (k := 86) (fs := mFk b 54) tyX12 tyX12_ok nmX12 dX12_init_463 rfl lay_12 (by decide) fl12_182 rfl rfl rfl (tyX12_ok 86 (by decide)) rfl rfl ovK_b ?_
  rw [ovK_step (b := b) (k := 54) (P0 := P0) (e := .inl (0, 3, .inl (fun _ => 0))) (Y := (mFk b 54).set 86 (.ref (b + 1 + 54))) rfl rfl]
  exact kk
theorem dX12_init_466 : decode cX12_init 466 = .ok (.return_, 1) := by decide +kernel
theorem dX12_init_0 : decode cX12_init 0 = .ok (.aload_n 0, 1) := by decide +kernel
theorem dX12_init_1 : decode cX12_init 1 = .ok (.invokespecial 1, 3) := by decide +kernel
set_option maxRecDepth 20000 in
theorem wi_M (d : Nat) {b : Nat} {P0 : PH} : Wp (d + 1) m_X12_init 0 (ovK b 0 P0) (b + 1) [(0, .ref b)] [] (none, ovM b z0 P0, b + 56, 1125718) := by
  refine wp_aload_n dX12_init_0 rfl 0 rfl ?_
  refine wp_objInit dX12_init_1 mlo12_1 oiI oiC (by omega) (Nat.le_of_ble_eq_true rfl) ?_
  have k55 : Wp (d + 1) m_X12_init 466 (ovK b 55 P0) (b + 1 + 55) [(0, .ref b)] [] (none, ovM b z0 P0, b + 56, 0) := by
    rw [← ovK_55]
    exact wp_vret rfl dX12_init_466
  have k54 := in_54 d (n2 := 3) rfl k55
  clear k55
  have k53 := in_53 d (n2 := 5187) rfl k54
  clear k54
  have k52 := in_52 d (n2 := 5511) rfl k53
  clear k53
  have k51 := in_51 d (n2 := 5538) rfl k52
  clear k52
  have k50 := in_50 d (n2 := 5565) rfl k51
  clear k51
  have k49 := in_49 d (n2 := 5592) rfl k50
  clear k50
  have k48 := in_48 d (n2 := 6192) rfl k49
  clear k49
  have k47 := in_47 d (n2 := 6195) rfl k48
  clear k48
  have k46 := in_46 d (n2 := 6198) rfl k47
  clear k47
  have k45 := in_45 d (n2 := 6201) rfl k46
  clear k46
  have k44 := in_44 d (n2 := 6204) rfl k45
  clear k45
  have k43 := in_43 d (n2 := 6396) rfl k44
  clear k44
  have k42 := in_42 d (n2 := 48828) rfl k43
  clear k43
  have k41 := in_41 d (n2 := 49020) rfl k42
  clear k42
  have k40 := in_40 d (n2 := 85884) rfl k41
  clear k41
  have k39 := in_39 d (n2 := 86076) rfl k40
  clear k40
  have k38 := in_38 d (n2 := 86268) rfl k39
  clear k39
  have k37 := in_37 d (n2 := 128700) rfl k38
  clear k38
  have k36 := in_36 d (n2 := 128844) rfl k37
  clear k37
  have k35 := in_35 d (n2 := 128988) rfl k36
  clear k36
  have k34 := in_34 d (n2 := 129132) rfl k35
  clear k35
  have k33 := in_33 d (n2 := 129276) rfl k34
  clear k34
  have k32 := in_32 d (n2 := 129420) rfl k33
  clear k33
  have k31 := in_31 d (n2 := 320364) rfl k32
  clear k32
  have k30 := in_30 d (n2 := 511308) rfl k31
  clear k31
  have k29 := in_29 d (n2 := 702252) rfl k30
  clear k30
  have k28 := in_28 d (n2 := 893196) rfl k29
  clear k29
  have k27 := in_27 d (n2 := 1084140) rfl k28
  clear k28
  have k26 := in_26 d (n2 := 1084146) rfl k27
  clear k27
  have k25 := in_25 d (n2 := 1084367) rfl k26
  clear k26
  have k24 := in_24 d (n2 := 1088463) rfl k25
  clear k25
  have k23 := in_23 d (n2 := 1088723) rfl k24
  clear k24
  have k22 := in_22 d (n2 := 1088983) rfl k23
  clear k23
  have k21 := in_21 d (n2 := 1088987) rfl k22
  clear k22
  have k20 := in_20 d (n2 := 1088991) rfl k21
  clear k21
  have k19 := in_19 d (n2 := 1089063) rfl k20
  clear k20
  have k18 := in_18 d (n2 := 1089069) rfl k19
  clear k19
  have k17 := in_17 d (n2 := 1089075) rfl k18
  clear k18
  have k16 := in_16 d (n2 := 1089081) rfl k17
  clear k17
  have k15 := in_15 d (n2 := 1089945) rfl k16
  clear k16
  have k14 := in_14 d (n2 := 1090017) rfl k15
  clear k15
  have k13 := in_13 d (n2 := 1090089) rfl k14
  clear k14
  have k12 := in_12 d (n2 := 1090161) rfl k13
  clear k13
  have k11 := in_11 d (n2 := 1090167) rfl k12
  clear k12
  have k10 := in_10 d (n2 := 1090173) rfl k11
  clear k11
  have k9 := in_9 d (n2 := 1090179) rfl k10
  clear k10
  have k8 := in_8 d (n2 := 1090185) rfl k9
  clear k9
  have k7 := in_7 d (n2 := 1090198) rfl k8
  clear k8
  have k6 := in_6 d (n2 := 1101638) rfl k7
  clear k7
  have k5 := in_5 d (n2 := 1113078) rfl k6
  clear k6
  have k4 := in_4 d (n2 := 1115938) rfl k5
  clear k5
  have k3 := in_3 d (n2 := 1118798) rfl k4
  clear k4
  have k2 := in_2 d (n2 := 1121658) rfl k3
  clear k3
  have k1 := in_1 d (n2 := 1124518) rfl k2
  clear k2
  have k0 := in_0 d (n2 := 1125718) rfl k1
  clear k1
  exact k0
theorem INVM.first : INVM 0 z0 := by
  have z : ∀ k, k ≠ 27 → z0.1 k = 0 := fun _ h => if_neg h
  have y : ∀ k i, z0.2.1 k i = 0 := fun _ _ => rfl
  have b : ∀ k, BO k z0 := fun k i => Or.inl (y k i)
  have n : ∀ r, r < z0.1 10 → ¬ 0 ≤ r := fun r a => by rw [z 10 (by decide)] at a; omega
  refine ⟨⟨fun k => by by_cases e : k = 27; exact (show z0.1 k = -1 from if_pos e) ▸ (by unfold inR; decide); exact (z k e) ▸ inR_0, fun k i => inR_0⟩, by rw [z 2 (by decide)]; decide, fun r _ _ => by rw [y]; decide, by rw [z 43 (by decide)]; decide, ⟨⟨by rw [z 10 (by decide)]; decide, fun r a c => absurd a (n r c)⟩, ⟨⟨by rw [z 10 (by decide)]; decide, fun r a c => absurd a (n r c)⟩, fun r a c => absurd a (n r c)⟩, fun r _ _ => by rw [y]; decide, fun r _ _ => by rw [y]; decide, fun r _ _ => by rw [y]; decide, b 48⟩, ⟨fun l => by rw [y]; decide, b 47, b 59, b 63, fun g a c => by rw [y]; omega, fun g => ⟨by rw [y]; decide, fun e => by rw [y] at e; omega⟩, fun q => ⟨fun e => by rw [y] at e; omega, fun e => by rw [y] at e; omega⟩, fun q => ⟨fun e => by rw [y] at e; omega, fun e => by rw [y] at e; omega⟩⟩, fun a => absurd (z 67 (by decide)) a, by rw [z 70 (by decide)]; decide, by rw [y]; decide⟩
end
section
/-! what feed writes -/
def bt (x sh : Int) : Int := (vp_nar .byte ((iI x >>> (iI sh &&& 31)).toInt8.toInt32)).toInt
theorem bt_r (x sh : Int) : -128 ≤ bt x sh ∧ bt x sh ≤ 127 := nar_rng _
def w4 (f : Int → Int) (s x : Int) : Int → Int := fun k => if k = s then bt x 24 else if k = s + 1 then bt x 16 else if k = s + 2 then bt x 8 else if k = s + 3 then bt x 0 else f k
theorem w4_of {f g : Int → Int} {s x : Int} (h0 : g s = bt x 24) (h1 : g (s + 1) = bt x 16) (h2 : g (s + 1 + 1) = bt x 8) (h3 : g (s + 1 + 1 + 1) = bt x 0) (ho : ∀ k, k ≠ s → k ≠ s + 1 → k ≠ s + 1 + 1 → k ≠ s + 1 + 1 + 1 → g k = f k) : g = w4 f s x := by
  funext k
  unfold w4
  by_cases c0 : k = s
  · rw [if_pos c0, c0]; exact h0
  rw [if_neg c0]
  by_cases c1 : k = s + 1
  · rw [if_pos c1, c1]; exact h1
  rw [if_neg c1]
  by_cases c2 : k = s + 2
  · rw [if_pos c2, c2, show s + 2 = s + 1 + 1 by omega]; exact h2
  rw [if_neg c2]
  by_cases c3 : k = s + 3
  · rw [if_pos c3, c3, show s + 3 = s + 1 + 1 + 1 by omega]; exact h3
  rw [if_neg c3]
  exact ho k c0 c1 (by omega) (by omega)
def w20 (f : Int → Int) (s x1 x2 x3 x4 x5 : Int) : Int → Int := w4 (w4 (w4 (w4 (w4 f s x1) (s + 4) x2) (s + 8) x3) (s + 12) x4) (s + 16) x5
/-- j bytes of them -/
def w4p (f : Int → Int) (s x j : Int) : Int → Int := fun k => if k = s ∧ 1 ≤ j then bt x 24 else if k = s + 1 ∧ 2 ≤ j then bt x 16 else if k = s + 2 ∧ 3 ≤ j then bt x 8 else if k = s + 3 ∧ 4 ≤ j then bt x 0 else f k
theorem w4p_0 (f : Int → Int) (s x : Int) : w4p f s x 0 = f := by
  funext k
  unfold w4p
  rw [if_neg (by omega), if_neg (by omega), if_neg (by omega), if_neg (by omega)]
theorem w4p_4 (f : Int → Int) (s x : Int) : w4p f s x 4 = w4 f s x := by
  funext k
  unfold w4p w4
  by_cases c0 : k = s
  · rw [if_pos ⟨c0, by omega⟩, if_pos c0]
  rw [if_neg (fun q => c0 q.1), if_neg c0]
  by_cases c1 : k = s + 1
  · rw [if_pos ⟨c1, by omega⟩, if_pos c1]
  rw [if_neg (fun q => c1 q.1), if_neg c1]
  by_cases c2 : k = s + 2
  · rw [if_pos ⟨c2, by omega⟩, if_pos c2]
  rw [if_neg (fun q => c2 q.1), if_neg c2]
  by_cases c3 : k = s + 3
  · rw [if_pos ⟨c3, by omega⟩, if_pos c3]
  rw [if_neg (fun q => c3 q.1), if_neg c3]
theorem w4p_s {f : Int → Int} {s x j sh : Int} (h0 : 0 ≤ j) (h3 : j ≤ 3) (hs : sh = 24 - 8 * j) : (fun k => if k = s + j then bt x sh else w4p f s x j k) = w4p f s x (j + 1) := by
  funext k
  have hh : j = 0 ∨ j = 1 ∨ j = 2 ∨ j = 3 := by omega
  unfold w4p
  rcases hh with r | r | r | r <;> subst r <;> subst hs <;> (repeat' split) <;> first
    | (exfalso; omega)
    | rfl
/-- the class's byte -/
theorem bt_c {n sh : Int} (h : sh = 24 ∨ sh = 16 ∨ sh = 8 ∨ sh = 0) : vp_nar .byte ((((iI n).toUInt32 >>> ((iI sh).toUInt32 &&& Int32.toUInt32 31)).toInt32).toInt8.toInt32) = iI (bt n sh) := by
  have e : iI (bt n sh) = vp_nar .byte ((iI n >>> (iI sh &&& 31)).toInt8.toInt32) := iI_self _
  rw [e]
  rcases h with r | r | r | r <;> subst r
  · rw [show ((((iI n).toUInt32 >>> ((iI 24).toUInt32 &&& Int32.toUInt32 31)).toInt32).toInt8.toInt32) = ((iI n >>> (iI 24 &&& 31)).toInt8.toInt32) from tp_24 _]
  · rw [show ((((iI n).toUInt32 >>> ((iI 16).toUInt32 &&& Int32.toUInt32 31)).toInt32).toInt8.toInt32) = ((iI n >>> (iI 16 &&& 31)).toInt8.toInt32) from tp_16 _]
  · rw [show ((((iI n).toUInt32 >>> ((iI 8).toUInt32 &&& Int32.toUInt32 31)).toInt32).toInt8.toInt32) = ((iI n >>> (iI 8 &&& 31)).toInt8.toInt32) from tp_8 _]
  · rw [show ((((iI n).toUInt32 >>> ((iI 0).toUInt32 &&& Int32.toUInt32 31)).toInt32).toInt8.toInt32) = ((iI n >>> (iI 0 &&& 31)).toInt8.toInt32) from tp_0 _]
/-- tapes alike up to n -/
def TAL (f g : Int → Int) (n : Int) : Prop := ∀ k, 0 ≤ k → k < n → f k = g k ∧ -128 ≤ f k ∧ f k ≤ 127
theorem TAL.sub {f g : Int → Int} {n m : Int} (h : TAL f g n) (hm : m ≤ n) : TAL f g m := fun k a b => h k a (by omega)
theorem TAL.w {f g : Int → Int} {n x : Int} (h : TAL f g n) : TAL (w4 f n x) (w4 g n x) (n + 4) := fun k a b => by
  unfold w4
  by_cases c0 : k = n
  · rw [if_pos c0, if_pos c0]; exact ⟨rfl, bt_r _ _⟩
  rw [if_neg c0, if_neg c0]
  by_cases c1 : k = n + 1
  · rw [if_pos c1, if_pos c1]; exact ⟨rfl, bt_r _ _⟩
  rw [if_neg c1, if_neg c1]
  by_cases c2 : k = n + 2
  · rw [if_pos c2, if_pos c2]; exact ⟨rfl, bt_r _ _⟩
  rw [if_neg c2, if_neg c2]
  by_cases c3 : k = n + 3
  · rw [if_pos c3, if_pos c3]; exact ⟨rfl, bt_r _ _⟩
  rw [if_neg c3, if_neg c3]
  exact h k a (by omega)
theorem TAL.w20 {f g : Int → Int} {n x1 x2 x3 x4 x5 : Int} (h : TAL f g n) : TAL (w20 f n x1 x2 x3 x4 x5) (w20 g n x1 x2 x3 x4 x5) (n + 20) := by
  have a1 := h.w (x := x1)
  have a2 := a1.w (x := x2)
  have a3 := (show TAL _ _ (n + 8) from by rw [show n + 8 = n + 4 + 4 by omega]; exact a2).w (x := x3)
  have a4 := (show TAL _ _ (n + 12) from by rw [show n + 12 = n + 8 + 4 by omega]; exact a3).w (x := x4)
  have a5 := (show TAL _ _ (n + 16) from by rw [show n + 16 = n + 12 + 4 by omega]; exact a4).w (x := x5)
  rw [show n + 20 = n + 16 + 4 by omega]
  exact a5
/-- the reference's bytes as the class has them -/
def fTm (τ : MS) : Int → Int := fun k => if an5 (τ.2.1 1 k) ≤ 127 then an5 (τ.2.1 1 k) else an5 (τ.2.1 1 k) - 256
theorem fTm_b (τ : MS) : BYT (fTm τ) := fun k => by
  have r := an5_r (τ.2.1 1 k)
  unfold fTm
  by_cases c : an5 (τ.2.1 1 k) ≤ 127
  · rw [if_pos c]; omega
  · rw [if_neg c]; omega
theorem fTm_sv {τ : MS} {n : Int} (h : τ.1 21 = n) : svC (fTm τ) n = sv τ := by
  funext k
  have r := an5_r (τ.2.1 1 k)
  unfold svC sv fTm
  rw [h]
  by_cases c : k < n
  · rw [if_pos c, if_pos c]
    by_cases d : an5 (τ.2.1 1 k) ≤ 127
    · rw [if_pos d, if_neg (by omega)]
    · rw [if_neg d, if_pos (by omega)]; omega
  · rw [if_neg c, if_neg c]
theorem an5_fin : ∀ n : Fin 256, an5 (((n : Nat) : Int) - 128) = if (n : Nat) < 128 then ((n : Nat) : Int) - 128 + 256 else ((n : Nat) : Int) - 128 := by decide +kernel
theorem an5_at {z : Int} (h : -128 ≤ z ∧ z ≤ 127) : an5 z = if z < 0 then z + 256 else z := by
  have q := an5_fin ⟨(z + 128).toNat, by omega⟩
  have e : (((z + 128).toNat : Nat) : Int) - 128 = z := by omega
  simp only [e] at q
  rw [q]
  by_cases c : z < 0
  · rw [if_pos c, if_pos (by omega)]
  · rw [if_neg c, if_neg (by omega)]
theorem TAL.rw {f : Int → Int} {τ : MS} {n : Int} (h : TAL f (τ.2.1 1) n) : ∀ k, 0 ≤ k → k < n → f k = fTm τ k := fun k a b => by
  obtain ⟨q1, q2⟩ := h k a b
  unfold fTm
  rw [← q1, an5_at q2]
  by_cases c : f k < 0
  · rw [if_pos c, if_neg (by omega)]; omega
  · rw [if_neg c, if_pos (by omega)]
theorem tw_step {σ : MS} {x : Nat} {f : Int → Int} {tg n sh z : Int} (h : σ.2.1 (1000 + x) = w4p f tg n (z - tg)) (h0 : 0 ≤ z - tg) (h3 : z - tg ≤ 3) (hs : sh = 24 - 8 * (z - tg)) : (sA (1000 + x) z (bt n sh) σ).2.1 (1000 + x) = w4p f tg n (z + 1 - tg) := by
  have e : (sA (1000 + x) z (bt n sh) σ).2.1 (1000 + x) = fun k => if k = tg + (z - tg) then bt n sh else w4p f tg n (z - tg) k := by
    funext k
    rw [sA_at, h, show tg + (z - tg) = z by omega]
  rw [e, w4p_s h0 h3 hs, show z - tg + 1 = z + 1 - tg by omega]
/-- how tapes are written in the class -/
def TWQ (σ σ2 : MS) (a : Nat) (n : Int) : Prop := ∀ x : Nat, σ.2.1 95 a = (x : Int) → σ2.2.1 (1000 + x) = w4 (σ.2.1 (1000 + x)) (σ.2.1 96 a) n
def FWQ (σ σ2 : MS) (a : Nat) (p q r s t : Int) : Prop := ∀ x : Nat, σ.2.1 95 a = (x : Int) → (σ.2.1 96 a ≤ 1180 → σ2.2.1 (1000 + x) = w20 (σ.2.1 (1000 + x)) (σ.2.1 96 a) p q r s t) ∧ (1180 < σ.2.1 96 a → σ2.2.1 (1000 + x) = σ.2.1 (1000 + x))
theorem RQ9.of {σ : MS} {b : Nat} {S : Int → Int} {v f p r0 r g : Int} (h : TO9 σ b S g) (hg : g = 0 ∨ g = 1) (hf : f = σ.2.1 43 b) (h0 : g = 0 → v = -1 ∧ p = σ.2.1 44 b ∧ r = r0) (h1 : g = 1 → v = (if σ.2.1 38 b ≤ 6 then σ.2.1 38 b else 6) ∧ p = -1 ∧ r = v) : RQ9 S v f p r0 r := by
  rcases h with ⟨q1, es, pl, q2, q3⟩ | ⟨es, t, x, q, ρ, q2, q3⟩
  · obtain ⟨a1, a2, a3⟩ := h0 q1
    exact Or.inl ⟨es, pl, q2, a1, by rw [hf]; exact q3.1, by rw [a2]; exact q3.2, a3⟩
  · obtain ⟨s1, s2, s3, s4⟩ := q3
    have e1 : σ.2.1 43 b = (RA9 (es.foldl uC c00)).1 := congrArg Prod.fst s1
    have e2 : σ.2.1 44 b = (RA9 (es.foldl uC c00)).2 := congrArg Prod.snd s1
    refine Or.inr ⟨es, t, x, q, ρ, q2, by rw [hf]; exact e1, fun z => ?_, fun z => ?_⟩
    · have g1 : g = 1 := by
        rcases hg with w | w
        · exact absurd (hf.symm.trans z) (s4 w)
        · exact w
      rw [← s2]; exact h1 g1
    · have g0 : g = 0 := by
        rcases hg with w | w
        · exact w
        · exact absurd (hf.trans (s3 w)) z
      obtain ⟨a1, a2, a3⟩ := h0 g0
      exact ⟨a1, by rw [a2]; exact e2, a3⟩
theorem min6 {z r : Int} (h : (r ≤ 6 ∧ z = r) ∨ (6 ≤ r ∧ z = 6)) : z = (if r ≤ 6 then r else 6) := by
  by_cases c : r ≤ 6
  · rw [if_pos c]; omega
  · rw [if_neg c]; omega
end
section
set_option maxHeartbeats 4000000 in
set_option maxRecDepth 20000 in
theorem c4_X12_four (d : Nat) {b : Nat} {σ : MS} {x : Int} (hR : RG σ) (hsz : 0 ≤ σ.1 2 ∧ σ.1 2 + 4 ≤ 1200) : Tm (d + 1) m_X12_four 0 b σ [(0, .ref b), (1, .int (iI x))] [] (fun ro σ2 => ro = none ∧ (Fr [2] [1] [] σ σ2) ∧ (RG σ2) ∧ (σ2.1 2 = σ.1 2 + 4) ∧ (σ2.2.1 1 = w4 (σ.2.1 1) (σ.1 2) x)) := by
  refine tm_bipush dX12_four_0 (by decide) ?_
  refine tm_istore_n (L' := [(2, .int (iI 24)), (0, .ref b), (1, .int (iI x))]) dX12_four_2 rfl (by decide) rfl ?_
  refine tm_iload_n dX12_four_3 rfl 0 rfl ?_
  refine tm_if_lt (tgt := 36) dX12_four_4 (by decide) ⟨by decide, by decide⟩ (fun h => absurd h (by decide)) (fun _ => ?_)
  refine tm_aload_n dX12_four_7 rfl 1 rfl ?_
  refine tm_get (k := 1) (v := .ref (b + 1 + 0)) lay_12 dX12_four_8 (by decide) fl12_7 rfl ?_
  refine tm_aload_n dX12_four_11 rfl 1 rfl ?_
  refine tm_getS (k := 2) (t := σ.1 2) dX12_four_12 (by decide) fl12_382 rfl (rfl) ?_
  have g2 := RG.s hR 2
  refine tm_iload_n dX12_four_15 rfl 2 rfl ?_
  refine tm_iload_n dX12_four_16 rfl 0 rfl ?_
  refine tm_ishr dX12_four_17 ?_
  refine tm_i2b dX12_four_18 ?_
  have g3 := RB (vp_nar .byte (((iI x) >>> ((iI 24) &&& 31)).toInt8.toInt32))
  refine tm_bast (z := σ.1 2) (v := (vp_nar .byte (((iI x) >>> ((iI 24) &&& 31)).toInt8.toInt32)).toInt) dX12_four_19 (show mT[0]? = some (1, 1, 1200) from rfl) (by omega) (by omega) (by decide) (iI_self _).symm ?_
  refine tm_aload_n dX12_four_20 rfl 1 rfl ?_
  refine tm_dup dX12_four_21 rfl ?_
  refine tm_getS (k := 2) (t := σ.1 2) dX12_four_22 (by decide) fl12_382 rfl (rs_A (rfl)) ?_
  have g4 := RG.s hR 2
  refine tm_iconst dX12_four_25 ?_
  refine tm_iadd dX12_four_26 ?_
  refine tm_putS (k := 2) (v := (σ.1 2) + 1) lay_12 dX12_four_27 (by decide) fl12_382 rfl (tyX12_ok 2 (by decide)) rfl rfl rfl ?_
  refine tm_iinc (q0 := 0) (L' := [(2, .int (iI 16)), (0, .ref b), (1, .int (iI x))]) dX12_four_30 rfl (by decide) rfl ?_
  refine tm_goto (tgt := 3) dX12_four_33 (by decide) ?_
  refine tm_iload_n dX12_four_3 rfl 0 rfl ?_
  refine tm_if_lt (tgt := 36) dX12_four_4 (by decide) ⟨by decide, by decide⟩ (fun h => absurd h (by decide)) (fun _ => ?_)
  refine tm_aload_n dX12_four_7 rfl 1 rfl ?_
  refine tm_get (k := 1) (v := .ref (b + 1 + 0)) lay_12 dX12_four_8 (by decide) fl12_7 rfl ?_
  refine tm_aload_n dX12_four_11 rfl 1 rfl ?_
  refine tm_getS (k := 2) (t := (σ.1 2) + 1) dX12_four_12 (by decide) fl12_382 rfl (rs_eq) ?_
  refine tm_iload_n dX12_four_15 rfl 2 rfl ?_
  refine tm_iload_n dX12_four_16 rfl 0 rfl ?_
  refine tm_ishr dX12_four_17 ?_
  refine tm_i2b dX12_four_18 ?_
  have g6 := RB (vp_nar .byte (((iI x) >>> ((iI 16) &&& 31)).toInt8.toInt32))
  refine tm_bast (z := (σ.1 2) + 1) (v := (vp_nar .byte (((iI x) >>> ((iI 16) &&& 31)).toInt8.toInt32)).toInt) dX12_four_19 (show mT[0]? = some (1, 1, 1200) from rfl) (by omega) (by omega) (by decide) (iI_self _).symm ?_
  refine tm_aload_n dX12_four_20 rfl 1 rfl ?_
  refine tm_dup dX12_four_21 rfl ?_
  refine tm_getS (k := 2) (t := (σ.1 2) + 1) dX12_four_22 (by decide) fl12_382 rfl (rs_A (rs_eq)) ?_
  refine tm_iconst dX12_four_25 ?_
  refine tm_iadd dX12_four_26 ?_
  refine tm_putS (k := 2) (v := ((σ.1 2) + 1) + 1) lay_12 dX12_four_27 (by decide) fl12_382 rfl (tyX12_ok 2 (by decide)) rfl rfl rfl ?_
  refine tm_iinc (q0 := 0) (L' := [(2, .int (iI 8)), (0, .ref b), (1, .int (iI x))]) dX12_four_30 rfl (by decide) rfl ?_
  refine tm_goto (tgt := 3) dX12_four_33 (by decide) ?_
  refine tm_iload_n dX12_four_3 rfl 0 rfl ?_
  refine tm_if_lt (tgt := 36) dX12_four_4 (by decide) ⟨by decide, by decide⟩ (fun h => absurd h (by decide)) (fun _ => ?_)
  refine tm_aload_n dX12_four_7 rfl 1 rfl ?_
  refine tm_get (k := 1) (v := .ref (b + 1 + 0)) lay_12 dX12_four_8 (by decide) fl12_7 rfl ?_
  refine tm_aload_n dX12_four_11 rfl 1 rfl ?_
  refine tm_getS (k := 2) (t := ((σ.1 2) + 1) + 1) dX12_four_12 (by decide) fl12_382 rfl (rs_eq) ?_
  refine tm_iload_n dX12_four_15 rfl 2 rfl ?_
  refine tm_iload_n dX12_four_16 rfl 0 rfl ?_
  refine tm_ishr dX12_four_17 ?_
  refine tm_i2b dX12_four_18 ?_
  have g8 := RB (vp_nar .byte (((iI x) >>> ((iI 8) &&& 31)).toInt8.toInt32))
  refine tm_bast (z := ((σ.1 2) + 1) + 1) (v := (vp_nar .byte (((iI x) >>> ((iI 8) &&& 31)).toInt8.toInt32)).toInt) dX12_four_19 (show mT[0]? = some (1, 1, 1200) from rfl) (by omega) (by omega) (by decide) (iI_self _).symm ?_
  refine tm_aload_n dX12_four_20 rfl 1 rfl ?_
  refine tm_dup dX12_four_21 rfl ?_
  refine tm_getS (k := 2) (t := ((σ.1 2) + 1) + 1) dX12_four_22 (by decide) fl12_382 rfl (rs_A (rs_eq)) ?_
  refine tm_iconst dX12_four_25 ?_
  refine tm_iadd dX12_four_26 ?_
  refine tm_putS (k := 2) (v := (((σ.1 2) + 1) + 1) + 1) lay_12 dX12_four_27 (by decide) fl12_382 rfl (tyX12_ok 2 (by decide)) rfl rfl rfl ?_
  refine tm_iinc (q0 := 0) (L' := [(2, .int (iI 0)), (0, .ref b), (1, .int (iI x))]) dX12_four_30 rfl (by decide) rfl ?_
  refine tm_goto (tgt := 3) dX12_four_33 (by decide) ?_
  refine tm_iload_n dX12_four_3 rfl 0 rfl ?_
  refine tm_if_lt (tgt := 36) dX12_four_4 (by decide) ⟨by decide, by decide⟩ (fun h => absurd h (by decide)) (fun _ => ?_)
  refine tm_aload_n dX12_four_7 rfl 1 rfl ?_
  refine tm_get (k := 1) (v := .ref (b + 1 + 0)) lay_12 dX12_four_8 (by decide) fl12_7 rfl ?_
  refine tm_aload_n dX12_four_11 rfl 1 rfl ?_
  refine tm_getS (k := 2) (t := (((σ.1 2) + 1) + 1) + 1) dX12_four_12 (by decide) fl12_382 rfl (rs_eq) ?_
  refine tm_iload_n dX12_four_15 rfl 2 rfl ?_
  refine tm_iload_n dX12_four_16 rfl 0 rfl ?_
  refine tm_ishr dX12_four_17 ?_
  refine tm_i2b dX12_four_18 ?_
  have g11 := RB (vp_nar .byte (((iI x) >>> ((iI 0) &&& 31)).toInt8.toInt32))
  refine tm_bast (z := (((σ.1 2) + 1) + 1) + 1) (v := (vp_nar .byte (((iI x) >>> ((iI 0) &&& 31)).toInt8.toInt32)).toInt) dX12_four_19 (show mT[0]? = some (1, 1, 1200) from rfl) (by omega) (by omega) (by decide) (iI_self _).symm ?_
  refine tm_aload_n dX12_four_20 rfl 1 rfl ?_
  refine tm_dup dX12_four_21 rfl ?_
  refine tm_getS (k := 2) (t := (((σ.1 2) + 1) + 1) + 1) dX12_four_22 (by decide) fl12_382 rfl (rs_A (rs_eq)) ?_
  refine tm_iconst dX12_four_25 ?_
  refine tm_iadd dX12_four_26 ?_
  refine tm_putS (k := 2) (v := ((((σ.1 2) + 1) + 1) + 1) + 1) lay_12 dX12_four_27 (by decide) fl12_382 rfl (tyX12_ok 2 (by decide)) rfl rfl rfl ?_
  refine tm_iinc (q0 := 0) (L' := [(2, .int (iI (-8))), (0, .ref b), (1, .int (iI x))]) dX12_four_30 rfl (by decide) rfl ?_
  refine tm_goto (tgt := 3) dX12_four_33 (by decide) ?_
  refine tm_iload_n dX12_four_3 rfl 0 rfl ?_
  refine tm_if_lt (tgt := 36) dX12_four_4 (by decide) ⟨by decide, by decide⟩ (fun _ => ?_) (fun h => absurd h (by decide))
  exact tm_vret rfl dX12_four_36 (⟨rfl, ((((((((Fr.rfl.A (by decide)).S (by decide)).A (by decide)).S (by decide)).A (by decide)).S (by decide)).A (by decide)).S (by decide)), ((((((((hR.A (by omega)).S (by omega)).A (by omega)).S (by omega)).A (by omega)).S (by omega)).A (by omega)).S (by omega)), (rs_eq : (sS 2 (((((σ.1 2) + 1) + 1) + 1) + 1) (sA 1 ((((σ.1 2) + 1) + 1) + 1) ((vp_nar .byte (((iI x) >>> ((iI 0) &&& 31)).toInt8.toInt32)).toInt) (sS 2 ((((σ.1 2) + 1) + 1) + 1) (sA 1 (((σ.1 2) + 1) + 1) ((vp_nar .byte (((iI x) >>> ((iI 8) &&& 31)).toInt8.toInt32)).toInt) (sS 2 (((σ.1 2) + 1) + 1) (sA 1 ((σ.1 2) + 1) ((vp_nar .byte (((iI x) >>> ((iI 16) &&& 31)).toInt8.toInt32)).toInt) (sS 2 ((σ.1 2) + 1) (sA 1 (σ.1 2) ((vp_nar .byte (((iI x) >>> ((iI 24) &&& 31)).toInt8.toInt32)).toInt) σ)))))))).1 2 = ((((σ.1 2) + 1) + 1) + 1) + 1).trans (by omega), w4_of (show (sS 2 (((((σ.1 2) + 1) + 1) + 1) + 1) (sA 1 ((((σ.1 2) + 1) + 1) + 1) ((vp_nar .byte (((iI x) >>> ((iI 0) &&& 31)).toInt8.toInt32)).toInt) (sS 2 ((((σ.1 2) + 1) + 1) + 1) (sA 1 (((σ.1 2) + 1) + 1) ((vp_nar .byte (((iI x) >>> ((iI 8) &&& 31)).toInt8.toInt32)).toInt) (sS 2 (((σ.1 2) + 1) + 1) (sA 1 ((σ.1 2) + 1) ((vp_nar .byte (((iI x) >>> ((iI 16) &&& 31)).toInt8.toInt32)).toInt) (sS 2 ((σ.1 2) + 1) (sA 1 (σ.1 2) ((vp_nar .byte (((iI x) >>> ((iI 24) &&& 31)).toInt8.toInt32)).toInt) σ)))))))).2.1 1 (σ.1 2) = bt x 24 from ra_S (ra_ne (by omega) (ra_S (ra_ne (by omega) (ra_S (ra_ne (by omega) (ra_S (ra_eq)))))))) (show (sS 2 (((((σ.1 2) + 1) + 1) + 1) + 1) (sA 1 ((((σ.1 2) + 1) + 1) + 1) ((vp_nar .byte (((iI x) >>> ((iI 0) &&& 31)).toInt8.toInt32)).toInt) (sS 2 ((((σ.1 2) + 1) + 1) + 1) (sA 1 (((σ.1 2) + 1) + 1) ((vp_nar .byte (((iI x) >>> ((iI 8) &&& 31)).toInt8.toInt32)).toInt) (sS 2 (((σ.1 2) + 1) + 1) (sA 1 ((σ.1 2) + 1) ((vp_nar .byte (((iI x) >>> ((iI 16) &&& 31)).toInt8.toInt32)).toInt) (sS 2 ((σ.1 2) + 1) (sA 1 (σ.1 2) ((vp_nar .byte (((iI x) >>> ((iI 24) &&& 31)).toInt8.toInt32)).toInt) σ)))))))).2.1 1 ((σ.1 2) + 1) = bt x 16 from ra_S (ra_ne (by omega) (ra_S (ra_ne (by omega) (ra_S (ra_eq)))))) (show (sS 2 (((((σ.1 2) + 1) + 1) + 1) + 1) (sA 1 ((((σ.1 2) + 1) + 1) + 1) ((vp_nar .byte (((iI x) >>> ((iI 0) &&& 31)).toInt8.toInt32)).toInt) (sS 2 ((((σ.1 2) + 1) + 1) + 1) (sA 1 (((σ.1 2) + 1) + 1) ((vp_nar .byte (((iI x) >>> ((iI 8) &&& 31)).toInt8.toInt32)).toInt) (sS 2 (((σ.1 2) + 1) + 1) (sA 1 ((σ.1 2) + 1) ((vp_nar .byte (((iI x) >>> ((iI 16) &&& 31)).toInt8.toInt32)).toInt) (sS 2 ((σ.1 2) + 1) (sA 1 (σ.1 2) ((vp_nar .byte (((iI x) >>> ((iI 24) &&& 31)).toInt8.toInt32)).toInt) σ)))))))).2.1 1 (((σ.1 2) + 1) + 1) = bt x 8 from ra_S (ra_ne (by omega) (ra_S (ra_eq)))) (show (sS 2 (((((σ.1 2) + 1) + 1) + 1) + 1) (sA 1 ((((σ.1 2) + 1) + 1) + 1) ((vp_nar .byte (((iI x) >>> ((iI 0) &&& 31)).toInt8.toInt32)).toInt) (sS 2 ((((σ.1 2) + 1) + 1) + 1) (sA 1 (((σ.1 2) + 1) + 1) ((vp_nar .byte (((iI x) >>> ((iI 8) &&& 31)).toInt8.toInt32)).toInt) (sS 2 (((σ.1 2) + 1) + 1) (sA 1 ((σ.1 2) + 1) ((vp_nar .byte (((iI x) >>> ((iI 16) &&& 31)).toInt8.toInt32)).toInt) (sS 2 ((σ.1 2) + 1) (sA 1 (σ.1 2) ((vp_nar .byte (((iI x) >>> ((iI 24) &&& 31)).toInt8.toInt32)).toInt) σ)))))))).2.1 1 ((((σ.1 2) + 1) + 1) + 1) = bt x 0 from ra_S (ra_eq)) (fun k a9 b9 c9 d9 => (ra_S (ra_ne (by omega) (ra_S (ra_ne (by omega) (ra_S (ra_ne (by omega) (ra_S (ra_ne (by omega) (rfl))))))))))⟩)
set_option maxHeartbeats 4000000 in
set_option maxRecDepth 20000 in
theorem c4_X12_feed (d : Nat) {b : Nat} {σ : MS} {x1 : Int} {x2 : Int} {x3 : Int} {x4 : Int} {x5 : Int} (hR : RG σ) (hsz : 0 ≤ σ.1 2 ∧ σ.1 2 ≤ 1200) : Tm (d + 2) m_X12_feed 0 b σ [(0, .ref b), (1, .int (iI x1)), (2, .int (iI x2)), (3, .int (iI x3)), (4, .int (iI x4)), (5, .int (iI x5))] [] (fun ro σ2 => ∃ v : Int, ro = some (.int (iI v)) ∧ (Fr [0, 2] [1] [] σ σ2) ∧ (RG σ2) ∧ (σ.1 2 ≤ 1180 → v = σ.1 2 + 20 ∧ σ2.1 2 = σ.1 2 + 20) ∧ (1180 < σ.1 2 → v = -1 ∧ σ2.1 2 = σ.1 2) ∧ (σ.1 2 ≤ 1180 → σ2.2.1 1 = w20 (σ.2.1 1) (σ.1 2) x1 x2 x3 x4 x5) ∧ (1180 < σ.1 2 → σ2.2.1 1 = σ.2.1 1)) := by
  refine tm_aload_n dX12_feed_0 rfl 0 rfl ?_
  refine tm_iconst dX12_feed_1 ?_
  refine tm_putS (k := 0) (v := 0) lay_12 dX12_feed_2 (by decide) fl12_185 rfl (tyX12_ok 0 (by decide)) rfl rfl rfl ?_
  refine tm_aload_n dX12_feed_5 rfl 0 rfl ?_
  refine tm_getS (k := 2) (t := σ.1 2) dX12_feed_6 (by decide) fl12_382 rfl (rs_o (by decide) (rfl)) ?_
  have g1 := RG.s hR 2
  refine tm_bipush dX12_feed_9 (by decide) ?_
  refine tm_iadd dX12_feed_11 ?_
  refine tm_sipush dX12_feed_12 (by decide) ?_
  refine tm_icmp_le (tgt := 20) dX12_feed_15 (by decide) ⟨by omega, by omega⟩ ⟨by decide, by decide⟩ (fun h2 => ?_) (fun h2 => ?_)
  · refine tm_aload_n dX12_feed_20 rfl 0 rfl ?_
    refine tm_iload_n dX12_feed_21 rfl 1 rfl ?_
    refine tm_callV (M := m_X12_feed) (pc := 22) (ix := 385) (M' := m_X12_four) (As := [.int (iI x1)]) (rest := []) dX12_feed_22 ok_X12_four im_X12_four se_X12_four ml12_385 np_X12_four rfl rfl (Nat.le_of_ble_eq_true rfl) (Nat.le_of_ble_eq_true rfl) rfl (c4_X12_four (d) (σ := (sS 0 0 σ)) (x := x1) (hR.S (by omega)) (by have := (rs_o (by decide) (rfl) : (sS 0 0 σ).1 2 = σ.1 2); omega)) (fun r3 σ4 hp => ?_)
    obtain ⟨rfl, f6, f7, f8, f9⟩ := hp
    show Tm _ _ 25 b σ4 [(0, .ref b), (1, .int (iI x1)), (2, .int (iI x2)), (3, .int (iI x3)), (4, .int (iI x4)), (5, .int (iI x5))] [] _
    have e0 : (sS 0 0 σ).1 2 = σ.1 2 := rfl
    refine tm_aload_n dX12_feed_25 rfl 0 rfl ?_
    refine tm_iload_n dX12_feed_26 rfl 2 rfl ?_
    refine tm_callV (M := m_X12_feed) (pc := 27) (ix := 385) (M' := m_X12_four) (As := [.int (iI x2)]) (rest := []) dX12_feed_27 ok_X12_four im_X12_four se_X12_four ml12_385 np_X12_four rfl rfl (Nat.le_of_ble_eq_true rfl) (Nat.le_of_ble_eq_true rfl) rfl (c4_X12_four (d) (σ := σ4) (x := x2) f7 (by have := (rfl : σ4.1 2 = σ4.1 2); omega)) (fun r10 σ11 hp => ?_)
    obtain ⟨rfl, f13, f14, f15, f16⟩ := hp
    show Tm _ _ 30 b σ11 [(0, .ref b), (1, .int (iI x1)), (2, .int (iI x2)), (3, .int (iI x3)), (4, .int (iI x4)), (5, .int (iI x5))] [] _
    refine tm_aload_n dX12_feed_30 rfl 0 rfl ?_
    refine tm_iload_n dX12_feed_31 rfl 3 rfl ?_
    refine tm_callV (M := m_X12_feed) (pc := 32) (ix := 385) (M' := m_X12_four) (As := [.int (iI x3)]) (rest := []) dX12_feed_32 ok_X12_four im_X12_four se_X12_four ml12_385 np_X12_four rfl rfl (Nat.le_of_ble_eq_true rfl) (Nat.le_of_ble_eq_true rfl) rfl (c4_X12_four (d) (σ := σ11) (x := x3) f14 (by have := (rfl : σ11.1 2 = σ11.1 2); omega)) (fun r17 σ18 hp => ?_)
    obtain ⟨rfl, f20, f21, f22, f23⟩ := hp
    show Tm _ _ 35 b σ18 [(0, .ref b), (1, .int (iI x1)), (2, .int (iI x2)), (3, .int (iI x3)), (4, .int (iI x4)), (5, .int (iI x5))] [] _
    refine tm_aload_n dX12_feed_35 rfl 0 rfl ?_
    refine tm_iload dX12_feed_36 4 rfl ?_
    refine tm_callV (M := m_X12_feed) (pc := 38) (ix := 385) (M' := m_X12_four) (As := [.int (iI x4)]) (rest := []) dX12_feed_38 ok_X12_four im_X12_four se_X12_four ml12_385 np_X12_four rfl rfl (Nat.le_of_ble_eq_true rfl) (Nat.le_of_ble_eq_true rfl) rfl (c4_X12_four (d) (σ := σ18) (x := x4) f21 (by have := (rfl : σ18.1 2 = σ18.1 2); omega)) (fun r24 σ25 hp => ?_)
    obtain ⟨rfl, f27, f28, f29, f30⟩ := hp
    show Tm _ _ 41 b σ25 [(0, .ref b), (1, .int (iI x1)), (2, .int (iI x2)), (3, .int (iI x3)), (4, .int (iI x4)), (5, .int (iI x5))] [] _
    refine tm_aload_n dX12_feed_41 rfl 0 rfl ?_
    refine tm_iload dX12_feed_42 5 rfl ?_
    refine tm_callV (M := m_X12_feed) (pc := 44) (ix := 385) (M' := m_X12_four) (As := [.int (iI x5)]) (rest := []) dX12_feed_44 ok_X12_four im_X12_four se_X12_four ml12_385 np_X12_four rfl rfl (Nat.le_of_ble_eq_true rfl) (Nat.le_of_ble_eq_true rfl) rfl (c4_X12_four (d) (σ := σ25) (x := x5) f28 (by have := (rfl : σ25.1 2 = σ25.1 2); omega)) (fun r31 σ32 hp => ?_)
    obtain ⟨rfl, f34, f35, f36, f37⟩ := hp
    show Tm _ _ 47 b σ32 [(0, .ref b), (1, .int (iI x1)), (2, .int (iI x2)), (3, .int (iI x3)), (4, .int (iI x4)), (5, .int (iI x5))] [] _
    refine tm_aload_n dX12_feed_47 rfl 0 rfl ?_
    refine tm_getS (k := 2) (t := σ32.1 2) dX12_feed_48 (by decide) fl12_382 rfl (rfl) ?_
    have g38 := RG.s f35 2
    exact tm_iret rfl dX12_feed_51 (⟨_, rfl, ((((((Fr.rfl.S (by decide)).trans (Fr.sub f6 (by decide) (by decide) (by decide))).trans (Fr.sub f13 (by decide) (by decide) (by decide))).trans (Fr.sub f20 (by decide) (by decide) (by decide))).trans (Fr.sub f27 (by decide) (by decide) (by decide))).trans (Fr.sub f34 (by decide) (by decide) (by decide))), f35, by have := (rfl : σ32.1 2 = σ32.1 2); omega, by have := (rfl : σ32.1 2 = σ32.1 2); omega, fun _ => by rw [f37, f30, f23, f16, f9, show σ25.1 2 = σ.1 2 + 16 by omega, show σ18.1 2 = σ.1 2 + 12 by omega, show σ11.1 2 = σ.1 2 + 8 by omega, show σ4.1 2 = σ.1 2 + 4 by omega]; rfl, fun q => absurd q (by omega)⟩)
  · refine tm_iconst dX12_feed_18 ?_
    exact tm_iret rfl dX12_feed_19 (⟨_, rfl, (Fr.rfl.S (by decide)), (hR.S (by omega)), by have := (rs_o (by decide) (rfl) : (sS 0 0 σ).1 2 = σ.1 2); omega, by have := (rs_o (by decide) (rfl) : (sS 0 0 σ).1 2 = σ.1 2); omega, fun q => absurd q (by omega), fun _ => rfl⟩)
set_option maxHeartbeats 4000000 in
set_option maxRecDepth 20000 in
theorem c4_X12_fault (d : Nat) {b : Nat} {σ : MS} {x : Int} (hR : RG σ) (h_x : -2147483648 ≤ x ∧ x ≤ 2147483647) : Tm (d + 1) m_X12_fault 0 b σ [(0, .ref b), (1, .int (iI x))] [] (fun ro σ2 => ∃ v : Int, ro = some (.int (iI v)) ∧ (Fr [0] [] [] σ σ2) ∧ (RG σ2) ∧ ((x = 0 ∧ v = σ.1 26) ∨ (x = 1 ∧ v = σ.1 27) ∨ (x ≠ 0 ∧ x ≠ 1 ∧ v = -1))) := by
  refine tm_aload_n dX12_fault_0 rfl 0 rfl ?_
  refine tm_iconst dX12_fault_1 ?_
  refine tm_putS (k := 0) (v := 0) lay_12 dX12_fault_2 (by decide) fl12_185 rfl (tyX12_ok 0 (by decide)) rfl rfl rfl ?_
  refine tm_iload_n dX12_fault_5 rfl 1 rfl ?_
  refine tm_if_ne (tgt := 16) dX12_fault_6 (by decide) ⟨by omega, by omega⟩ (fun h1 => ?_) (fun h1 => ?_)
  · refine tm_iload_n dX12_fault_16 rfl 1 rfl ?_
    refine tm_iconst dX12_fault_17 ?_
    refine tm_icmp_ne (tgt := 28) dX12_fault_18 (by decide) ⟨by omega, by omega⟩ ⟨by decide, by decide⟩ (fun h2 => ?_) (fun h2 => ?_)
    · refine tm_iconst dX12_fault_28 ?_
      exact tm_iret rfl dX12_fault_29 (⟨_, rfl, (Fr.rfl.S (by decide)), (hR.S (by omega)), by omega⟩)
    · refine tm_aload_n dX12_fault_21 rfl 0 rfl ?_
      refine tm_getS (k := 27) (t := σ.1 27) dX12_fault_22 (by decide) fl12_59 rfl (rs_o (by decide) (rfl)) ?_
      have g3 := RG.s hR 27
      refine tm_goto (tgt := 29) dX12_fault_25 (by decide) ?_
      exact tm_iret rfl dX12_fault_29 (⟨_, rfl, (Fr.rfl.S (by decide)), (hR.S (by omega)), by omega⟩)
  · refine tm_aload_n dX12_fault_9 rfl 0 rfl ?_
    refine tm_getS (k := 26) (t := σ.1 26) dX12_fault_10 (by decide) fl12_252 rfl (rs_o (by decide) (rfl)) ?_
    have g4 := RG.s hR 26
    refine tm_goto (tgt := 29) dX12_fault_13 (by decide) ?_
    exact tm_iret rfl dX12_fault_29 (⟨_, rfl, (Fr.rfl.S (by decide)), (hR.S (by omega)), by omega⟩)
end
section
set_option maxHeartbeats 4000000 in
set_option maxRecDepth 20000 in
theorem l_X11_tapeNumber_g_3 (d : Nat) {T : CT} {σ0 : MS} {a : Nat} {c1 : Int} {tg : Int} {fT : Int → Int} {xT : Nat} {post : Option Value → CT → MS → Prop} (h_a : OB T a 11) (r_c1 : -2147483648 ≤ c1 ∧ c1 ≤ 2147483647) (hw0 : WT T σ0) (hxT : σ0.2.1 95 a = (xT : Int)) (hx_55 : ∀ (i2 : Int) (σ : MS) , (WT T σ) → (FrC T [96, 502] σ0 σ) → (-8 ≤ i2 ∧ i2 ≤ 24) → (8 * σ.2.1 96 a = 8 * tg + 24 - i2 ∧ tg ≤ 1196 ∧ 0 ≤ tg) → (σ.2.1 (1000 + xT) = w4p fT tg c1 (σ.2.1 96 a - tg)) → (∃ m : Nat, i2 = 8 * (m : Int) - 8) → (i2 < 0) → Tn (d + 1) m_X11_tapeNumber 55 T σ [(0, .ref a), (1, .int (iI c1)), (2, .int (iI i2))] [] post) : ∀ (n : Nat) (i2 : Int) (σ : MS) , (WT T σ) → (FrC T [96, 502] σ0 σ) → (-8 ≤ i2 ∧ i2 ≤ 24) → (8 * σ.2.1 96 a = 8 * tg + 24 - i2 ∧ tg ≤ 1196 ∧ 0 ≤ tg) → (σ.2.1 (1000 + xT) = w4p fT tg c1 (σ.2.1 96 a - tg)) → (∃ m : Nat, i2 = 8 * (m : Int) - 8) → (i2 + 20).toNat = n → Tn (d + 1) m_X11_tapeNumber 3 T σ [(0, .ref a), (1, .int (iI c1)), (2, .int (iI i2))] [] post := by
  intro n
  induction n using Nat.strongRecOn with
  | _ n ih =>
    intro i2 σ hw hF r_i2 h0 htw hn8 hm
    obtain ⟨m8, hm8⟩ := hn8
    refine tn_iload_n dX11_tapeNumber_3 rfl 2 rfl ?_
    refine tn_if_lt (tgt := 55) dX11_tapeNumber_4 (by decide) ⟨by omega, by omega⟩ (fun h1 => ?_) (fun h1 => ?_)
    · exact tn_sub [0, 1, 2] rfl (hx_55 (i2) σ hw (FrC.rfl.trans (FrC.sub hF (by decide))) (by omega) (by omega) htw ⟨m8, hm8⟩ (by omega))
    · refine tn_aload_n dX11_tapeNumber_7 rfl 0 rfl ?_
      refine tn_getI (ci := 11) (i := 1) (n := 96) (t := σ.2.1 96 a) dX11_tapeNumber_8 rfl lay_11 (by decide) fl11_87 h_a rfl rfl (rfl) ?_
      have g2 : ((0 : Int) ≤ σ.2.1 96 a ∧ σ.2.1 96 a ≤ 1200) := wf_96 hw h_a
      refine tn_if_lt (tgt := 49) dX11_tapeNumber_11 (by decide) ⟨by omega, by omega⟩ (fun h3 => absurd h3 (by omega)) (fun h3 => ?_)
      refine tn_aload_n dX11_tapeNumber_14 rfl 0 rfl ?_
      refine tn_getI (ci := 11) (i := 1) (n := 96) (t := σ.2.1 96 a) dX11_tapeNumber_15 rfl lay_11 (by decide) fl11_87 h_a rfl rfl (rfl) ?_
      refine tn_aload_n dX11_tapeNumber_18 rfl 0 rfl ?_
      obtain ⟨x4, hx5, hk6, hl7⟩ : ∃ x : Nat, σ0.2.1 95 a = (x : Int) ∧ AR T x 2 1200 1200 := wf_95 hw0 h_a
      refine tn_getR (ci := 11) (i := 0) (n := 95) (x := x4) dX11_tapeNumber_19 rfl lay_11 (by decide) fl11_9 h_a rfl rfl (rc_F hF (Or.inl (by decide)) (by decide) (hx5)) ?_
      refine tn_alenX dX11_tapeNumber_22 (Or.inr (Or.inl hk6)) ?_
      refine tn_icmp_ge (tgt := 49) dX11_tapeNumber_23 (by decide) ⟨by omega, by omega⟩ ⟨by omega, by omega⟩ (fun h8 => ?_) (fun h8 => ?_)
      · refine tn_iinc (q0 := 2) (L' := [(2, .int (iI (i2 + (-8)))), (0, .ref a), (1, .int (iI c1))]) dX11_tapeNumber_49 rfl (by decide) rfl ?_
        refine tn_goto (tgt := 3) dX11_tapeNumber_52 (by decide) ?_
        have q9 : σ.2.1 96 a = σ.2.1 96 a := rfl
        exact tn_sub [1, 2, 0] rfl (ih _ (by omega) (i2 + (-8)) σ hw (FrC.rfl.trans (FrC.sub hF (by decide))) (by omega) (by omega) (by omega) ⟨m8 - 1, by omega⟩ rfl)
      · refine tn_aload_n dX11_tapeNumber_26 rfl 0 rfl ?_
        refine tn_getR (ci := 11) (i := 0) (n := 95) (x := x4) dX11_tapeNumber_27 rfl lay_11 (by decide) fl11_9 h_a rfl rfl (rc_F hF (Or.inl (by decide)) (by decide) (hx5)) ?_
        refine tn_aload_n dX11_tapeNumber_30 rfl 0 rfl ?_
        refine tn_getI (ci := 11) (i := 1) (n := 96) (t := σ.2.1 96 a) dX11_tapeNumber_31 rfl lay_11 (by decide) fl11_87 h_a rfl rfl (rfl) ?_
        refine tn_iload_n dX11_tapeNumber_34 rfl 1 rfl ?_
        refine tn_iload_n dX11_tapeNumber_35 rfl 2 rfl ?_
        refine tn_iushr dX11_tapeNumber_36 ?_
        refine tn_i2b dX11_tapeNumber_37 ?_
        have g10 := bt_r (c1) (i2)
        refine tn_bast (z := σ.2.1 96 a) (v := bt (c1) (i2)) dX11_tapeNumber_38 hk6 (by omega) (by omega) (by omega) (bt_c (by omega)) ?_
        refine tn_aload_n dX11_tapeNumber_39 rfl 0 rfl ?_
        refine tn_dup dX11_tapeNumber_40 rfl ?_
        refine tn_getI (ci := 11) (i := 1) (n := 96) (t := σ.2.1 96 a) dX11_tapeNumber_41 rfl lay_11 (by decide) fl11_87 h_a rfl rfl (rc_a (Or.inl (by decide)) (rfl)) ?_
        refine tn_iconst dX11_tapeNumber_44 ?_
        refine tn_iadd dX11_tapeNumber_45 ?_
        refine tn_putV (ci := 11) (i := 1) (n := 96) (r := false) (v := (σ.2.1 96 a) + 1) tyX11 tyX11_ok nmX11 dX11_tapeNumber_46 rfl lay_11 (by decide) fl11_87 rfl (tyX11_ok 1 (by decide)) rfl rfl rfl h_a rfl rfl ?_
        refine tn_iinc (q0 := 2) (L' := [(2, .int (iI (i2 + (-8)))), (0, .ref a), (1, .int (iI c1))]) dX11_tapeNumber_49 rfl (by decide) rfl ?_
        refine tn_goto (tgt := 3) dX11_tapeNumber_52 (by decide) ?_
        have q11 : (sA 96 a ((σ.2.1 96 a) + 1) (sA (1000 + x4) (σ.2.1 96 a) (bt (c1) (i2)) σ)).2.1 96 a = (σ.2.1 96 a) + 1 := ra_eq
        have q12 : (sA 96 a ((σ.2.1 96 a) + 1) (sA (1000 + x4) (σ.2.1 96 a) (bt (c1) (i2)) σ)).2.1 96 a = (σ.2.1 96 a) + 1 := ra_eq
        have w13 : x4 = xT := by omega
        have w13t := tw_step (sh := i2) (x := xT) htw (by omega) (by omega) (by omega)
        exact tn_sub [1, 2, 0] rfl (ih _ (by omega) (i2 + (-8)) (sA 96 a ((σ.2.1 96 a) + 1) (sA (1000 + x4) (σ.2.1 96 a) (bt (c1) (i2)) σ)) ((hw.arr (Or.inr hk6) (vok_1 (Or.inr (Or.inr hk6)) (by omega))).put (by decide) (by decide) (fo_96 (by omega))) (((FrC.rfl.trans (FrC.sub hF (by decide))).arr (hk_in hk6 (by decide))).put (by decide) (by decide)) (by omega) (by omega) (by rw [q12, sA_k (by omega), w13]; exact w13t) ⟨m8 - 1, by omega⟩ rfl)
set_option maxHeartbeats 4000000 in
set_option maxRecDepth 20000 in
theorem k_X11_tapeNumber_g (d : Nat) {T : CT} {σ : MS} {a : Nat} {n : Int} (ha : OB T a 11) (h_n : -2147483648 ≤ n ∧ n ≤ 2147483647) (hw : WT T σ) (h96 : σ.2.1 96 a ≤ 1196) : Tn (d + 1) m_X11_tapeNumber 0 T σ [(0, .ref a), (1, .int (iI n))] [] (fun ro T2 σ2 => ro = none ∧ T = T2 ∧ WT T2 σ2 ∧ FrC T [96, 502] σ σ2 ∧ (σ2.2.1 96 a = σ.2.1 96 a + 4) ∧ (TWQ σ σ2 a n)) := by
  have h96b := (wf_96 hw ha)
  refine tn_bipush dX11_tapeNumber_0 (by decide) ?_
  refine tn_istore_n (L' := [(2, .int (iI 24)), (0, .ref a), (1, .int (iI n))]) dX11_tapeNumber_2 rfl (by decide) rfl ?_
  obtain ⟨x1, hx2, hk3, hl4⟩ : ∃ x : Nat, σ.2.1 95 a = (x : Int) ∧ AR T x 2 1200 1200 := wf_95 hw ha
  refine tn_sub [1, 2, 0] rfl (l_X11_tapeNumber_g_3 (d) (T := T) (σ0 := σ) (a := a) (c1 := n) (tg := σ.2.1 96 a) (fT := σ.2.1 (1000 + x1)) (xT := x1) ha (by omega) hw (hx2) (fun i25 σ6 w9 F10 r11 f12 f13 f14 f15 => ?_) _ (24) σ hw FrC.rfl (by omega) (by omega) (by rw [show σ.2.1 96 a - σ.2.1 96 a = 0 by omega, w4p_0]) ⟨4, by omega⟩ rfl)
  show Tn _ _ 55 T σ6 [(0, .ref a), (1, .int (iI n)), (2, .int (iI i25))] [] _
  have q16 : σ6.2.1 96 a = σ6.2.1 96 a := rfl
  have w17 := f13; rw [show σ6.2.1 96 a - σ.2.1 96 a = 4 by omega, w4p_4] at w17
  exact tn_vret rfl dX11_tapeNumber_55 ⟨rfl, rfl, w9, (FrC.rfl.trans (FrC.sub F10 (by decide))), by omega, fun y hy => by
      have e : y = x1 := by omega
      rw [e]; exact w17⟩
end
section
set_option maxHeartbeats 4000000 in
set_option maxRecDepth 20000 in
theorem k_X11_feed_g (d : Nat) {T : CT} {σ : MS} {a : Nat} {p : Int} {q : Int} {r : Int} {s : Int} {t : Int} (ha : OB T a 11) (h_p : -2147483648 ≤ p ∧ p ≤ 2147483647) (h_q : -2147483648 ≤ q ∧ q ≤ 2147483647) (h_r : -2147483648 ≤ r ∧ r ≤ 2147483647) (h_s : -2147483648 ≤ s ∧ s ≤ 2147483647) (h_t : -2147483648 ≤ t ∧ t ≤ 2147483647) (hw : WT T σ) : Tn (d + 2) m_X11_feed 0 T σ [(0, .ref a), (1, .int (iI p)), (2, .int (iI q)), (3, .int (iI r)), (4, .int (iI s)), (5, .int (iI t))] [] (fun ro T2 σ2 => ∃ v : Int, ro = some (.int (iI v)) ∧ T = T2 ∧ WT T2 σ2 ∧ FrC T [96, 502] σ σ2 ∧ (-2147483648 ≤ v ∧ v ≤ 2147483647) ∧ ((σ.2.1 96 a ≤ 1180 ∧ v = σ.2.1 96 a + 20 ∧ σ2.2.1 96 a = σ.2.1 96 a + 20) ∨ (1180 < σ.2.1 96 a ∧ v = -1 ∧ σ2.2.1 96 a = σ.2.1 96 a)) ∧ (FWQ σ σ2 a p q r s t)) := by
  refine tn_aload_n dX11_feed_0 rfl 0 rfl ?_
  refine tn_getI (ci := 11) (i := 1) (n := 96) (t := σ.2.1 96 a) dX11_feed_1 rfl lay_11 (by decide) fl11_87 ha rfl rfl (rfl) ?_
  have g1 : ((0 : Int) ≤ σ.2.1 96 a ∧ σ.2.1 96 a ≤ 1200) := wf_96 hw ha
  refine tn_bipush dX11_feed_4 (by decide) ?_
  refine tn_iadd dX11_feed_6 ?_
  refine tn_sipush dX11_feed_7 (by decide) ?_
  refine tn_icmp_le (tgt := 15) dX11_feed_10 (by decide) ⟨by omega, by omega⟩ ⟨by decide, by decide⟩ (fun h2 => ?_) (fun h2 => ?_)
  · refine tn_aload_n dX11_feed_15 rfl 0 rfl ?_
    refine tn_iload_n dX11_feed_16 rfl 1 rfl ?_
    refine tn_callV (M := m_X11_feed) (pc := 17) (ix := 90) (ci := 11) (M' := m_X11_tapeNumber) (As := [.int (iI p)]) (rest := []) dX11_feed_17 ok_X11_tapeNumber im_X11_tapeNumber se_X11_tapeNumber ml11_90 np_X11_tapeNumber rfl rfl ha rfl (Nat.le_of_ble_eq_true rfl) (Nat.le_of_ble_eq_true rfl) rfl (k_X11_tapeNumber_g (d) (T := T) (σ := σ) (a := a) (n := p) ha (by omega) hw (by rw [show σ.2.1 96 a = σ.2.1 96 a from rfl]; omega)) (fun r3 T5 σ4 gt6 hp => ?_)
    obtain ⟨rfl, rfl, w10, F11, f7, f8⟩ := hp
    clear gt6
    show Tn _ _ 20 T σ4 [(0, .ref a), (1, .int (iI p)), (2, .int (iI q)), (3, .int (iI r)), (4, .int (iI s)), (5, .int (iI t))] [] _
    refine tn_aload_n dX11_feed_20 rfl 0 rfl ?_
    refine tn_iload_n dX11_feed_21 rfl 2 rfl ?_
    refine tn_callV (M := m_X11_feed) (pc := 22) (ix := 90) (ci := 11) (M' := m_X11_tapeNumber) (As := [.int (iI q)]) (rest := []) dX11_feed_22 ok_X11_tapeNumber im_X11_tapeNumber se_X11_tapeNumber ml11_90 np_X11_tapeNumber rfl rfl ha rfl (Nat.le_of_ble_eq_true rfl) (Nat.le_of_ble_eq_true rfl) rfl (k_X11_tapeNumber_g (d) (T := T) (σ := σ4) (a := a) (n := q) ha (by omega) w10 (by rw [show σ4.2.1 96 a = σ4.2.1 96 a from rfl]; omega)) (fun r12 T14 σ13 gt15 hp => ?_)
    obtain ⟨rfl, rfl, w19, F20, f16, f17⟩ := hp
    clear gt15
    show Tn _ _ 25 T σ13 [(0, .ref a), (1, .int (iI p)), (2, .int (iI q)), (3, .int (iI r)), (4, .int (iI s)), (5, .int (iI t))] [] _
    refine tn_aload_n dX11_feed_25 rfl 0 rfl ?_
    refine tn_iload_n dX11_feed_26 rfl 3 rfl ?_
    refine tn_callV (M := m_X11_feed) (pc := 27) (ix := 90) (ci := 11) (M' := m_X11_tapeNumber) (As := [.int (iI r)]) (rest := []) dX11_feed_27 ok_X11_tapeNumber im_X11_tapeNumber se_X11_tapeNumber ml11_90 np_X11_tapeNumber rfl rfl ha rfl (Nat.le_of_ble_eq_true rfl) (Nat.le_of_ble_eq_true rfl) rfl (k_X11_tapeNumber_g (d) (T := T) (σ := σ13) (a := a) (n := r) ha (by omega) w19 (by rw [show σ13.2.1 96 a = σ13.2.1 96 a from rfl]; omega)) (fun r21 T23 σ22 gt24 hp => ?_)
    obtain ⟨rfl, rfl, w28, F29, f25, f26⟩ := hp
    clear gt24
    show Tn _ _ 30 T σ22 [(0, .ref a), (1, .int (iI p)), (2, .int (iI q)), (3, .int (iI r)), (4, .int (iI s)), (5, .int (iI t))] [] _
    refine tn_aload_n dX11_feed_30 rfl 0 rfl ?_
    refine tn_iload dX11_feed_31 4 rfl ?_
    refine tn_callV (M := m_X11_feed) (pc := 33) (ix := 90) (ci := 11) (M' := m_X11_tapeNumber) (As := [.int (iI s)]) (rest := []) dX11_feed_33 ok_X11_tapeNumber im_X11_tapeNumber se_X11_tapeNumber ml11_90 np_X11_tapeNumber rfl rfl ha rfl (Nat.le_of_ble_eq_true rfl) (Nat.le_of_ble_eq_true rfl) rfl (k_X11_tapeNumber_g (d) (T := T) (σ := σ22) (a := a) (n := s) ha (by omega) w28 (by rw [show σ22.2.1 96 a = σ22.2.1 96 a from rfl]; omega)) (fun r30 T32 σ31 gt33 hp => ?_)
    obtain ⟨rfl, rfl, w37, F38, f34, f35⟩ := hp
    clear gt33
    show Tn _ _ 36 T σ31 [(0, .ref a), (1, .int (iI p)), (2, .int (iI q)), (3, .int (iI r)), (4, .int (iI s)), (5, .int (iI t))] [] _
    refine tn_aload_n dX11_feed_36 rfl 0 rfl ?_
    refine tn_iload dX11_feed_37 5 rfl ?_
    refine tn_callV (M := m_X11_feed) (pc := 39) (ix := 90) (ci := 11) (M' := m_X11_tapeNumber) (As := [.int (iI t)]) (rest := []) dX11_feed_39 ok_X11_tapeNumber im_X11_tapeNumber se_X11_tapeNumber ml11_90 np_X11_tapeNumber rfl rfl ha rfl (Nat.le_of_ble_eq_true rfl) (Nat.le_of_ble_eq_true rfl) rfl (k_X11_tapeNumber_g (d) (T := T) (σ := σ31) (a := a) (n := t) ha (by omega) w37 (by rw [show σ31.2.1 96 a = σ31.2.1 96 a from rfl]; omega)) (fun r39 T41 σ40 gt42 hp => ?_)
    obtain ⟨rfl, rfl, w46, F47, f43, f44⟩ := hp
    clear gt42
    show Tn _ _ 42 T σ40 [(0, .ref a), (1, .int (iI p)), (2, .int (iI q)), (3, .int (iI r)), (4, .int (iI s)), (5, .int (iI t))] [] _
    refine tn_aload_n dX11_feed_42 rfl 0 rfl ?_
    refine tn_getI (ci := 11) (i := 1) (n := 96) (t := σ40.2.1 96 a) dX11_feed_43 rfl lay_11 (by decide) fl11_87 ha rfl rfl (rfl) ?_
    have g48 : ((0 : Int) ≤ σ40.2.1 96 a ∧ σ40.2.1 96 a ≤ 1200) := wf_96 w46 ha
    have q49 : σ40.2.1 96 a = σ40.2.1 96 a := rfl
    obtain ⟨x50, hx51, hk52, hl53⟩ : ∃ x : Nat, σ.2.1 95 a = (x : Int) ∧ AR T x 2 1200 1200 := wf_95 hw ha
    have w54x0 : σ.2.1 95 a = (x50 : Int) := hx51
    have w54w0 := f8 x50 w54x0
    have w54x1 : σ4.2.1 95 a = (x50 : Int) := rc_F F11 (Or.inl (by decide)) (by decide) w54x0
    have w54w1 := f17 x50 w54x1
    have w54x2 : σ13.2.1 95 a = (x50 : Int) := rc_F F20 (Or.inl (by decide)) (by decide) w54x1
    have w54w2 := f26 x50 w54x2
    have w54x3 : σ22.2.1 95 a = (x50 : Int) := rc_F F29 (Or.inl (by decide)) (by decide) w54x2
    have w54w3 := f35 x50 w54x3
    have w54x4 : σ31.2.1 95 a = (x50 : Int) := rc_F F38 (Or.inl (by decide)) (by decide) w54x3
    have w54w4 := f44 x50 w54x4
    exact tn_iret rfl dX11_feed_46 ⟨_, rfl, rfl, w46, (((((FrC.rfl.trans (FrC.sub F11 (by decide))).trans (FrC.sub F20 (by decide))).trans (FrC.sub F29 (by decide))).trans (FrC.sub F38 (by decide))).trans (FrC.sub F47 (by decide))), by omega, by omega, fun y hy => ⟨fun _ => by
        have e : y = x50 := by omega
        rw [e, w54w4, w54w3, w54w2, w54w1, w54w0, show σ31.2.1 96 a = σ.2.1 96 a + 16 by omega, show σ22.2.1 96 a = σ.2.1 96 a + 12 by omega, show σ13.2.1 96 a = σ.2.1 96 a + 8 by omega, show σ4.2.1 96 a = σ.2.1 96 a + 4 by omega]; rfl, fun q => absurd q (by omega)⟩⟩
  · refine tn_iconst dX11_feed_13 ?_
    have q55 : σ.2.1 96 a = σ.2.1 96 a := rfl
    obtain ⟨x56, hx57, hk58, hl59⟩ : ∃ x : Nat, σ.2.1 95 a = (x : Int) ∧ AR T x 2 1200 1200 := wf_95 hw ha
    exact tn_iret rfl dX11_feed_14 ⟨_, rfl, rfl, hw, FrC.rfl, by omega, by omega, fun y hy => ⟨fun q => absurd q (by omega), fun _ => rfl⟩⟩
end
section
set_option maxHeartbeats 4000000 in
set_option maxRecDepth 20000 in
theorem k_X11_fault_g (d : Nat) {T : CT} {σ : MS} {a : Nat} {w : Int} (ha : OB T a 11) (h_w : -2147483648 ≤ w ∧ w ≤ 2147483647) (hw : WT T σ) : Tn (d + 1) m_X11_fault 0 T σ [(0, .ref a), (1, .int (iI w))] [] (fun ro T2 σ2 => ∃ v : Int, ro = some (.int (iI v)) ∧ T = T2 ∧ σ = σ2 ∧ (-2147483648 ≤ v ∧ v ≤ 2147483647) ∧ ((w = 0 ∧ v = σ.2.1 104 a) ∨ (w = 1 ∧ v = σ.2.1 105 a) ∨ (w ≠ 0 ∧ w ≠ 1 ∧ v = -1))) := by
  refine tn_iload_n dX11_fault_0 rfl 1 rfl ?_
  refine tn_if_ne (tgt := 9) dX11_fault_1 (by decide) ⟨by omega, by omega⟩ (fun h1 => ?_) (fun h1 => ?_)
  · refine tn_iload_n dX11_fault_9 rfl 1 rfl ?_
    refine tn_iconst dX11_fault_10 ?_
    refine tn_icmp_ne (tgt := 21) dX11_fault_11 (by decide) ⟨by omega, by omega⟩ ⟨by decide, by decide⟩ (fun h2 => ?_) (fun h2 => ?_)
    · refine tn_iconst dX11_fault_21 ?_
      exact tn_iret rfl dX11_fault_22 ⟨_, rfl, rfl, rfl, by omega, by omega⟩
    · refine tn_aload_n dX11_fault_14 rfl 0 rfl ?_
      refine tn_getI (ci := 11) (i := 10) (n := 105) (t := σ.2.1 105 a) dX11_fault_15 rfl lay_11 (by decide) fl11_43 ha rfl rfl (rfl) ?_
      have g3 : ((-2147483648 : Int) ≤ σ.2.1 105 a ∧ σ.2.1 105 a ≤ 2147483647) := wf_105 hw ha
      refine tn_goto (tgt := 22) dX11_fault_18 (by decide) ?_
      exact tn_iret rfl dX11_fault_22 ⟨_, rfl, rfl, rfl, by omega, by omega⟩
  · refine tn_aload_n dX11_fault_4 rfl 0 rfl ?_
    refine tn_getI (ci := 11) (i := 9) (n := 104) (t := σ.2.1 104 a) dX11_fault_5 rfl lay_11 (by decide) fl11_101 ha rfl rfl (rfl) ?_
    have g4 : ((-2147483648 : Int) ≤ σ.2.1 104 a ∧ σ.2.1 104 a ≤ 2147483647) := wf_104 hw ha
    exact tn_iret rfl dX11_fault_8 ⟨_, rfl, rfl, rfl, by omega, by omega⟩
end
section
set_option maxHeartbeats 4000000 in
set_option maxRecDepth 20000 in
theorem l_X11_read_g_75 (d : Nat) {T0 : CT} {σ0 : MS} {a : Nat} {post : Option Value → CT → MS → Prop} (hw0 : WT T0 σ0) (hx_94 : ∀ (T : CT) (i2 : Int) (σ : MS) , (GT T0 T) → (WT T σ) → (FrC T0 [5, 6, 7, 8, 9, 10] σ0 σ) → (OB T a 11) → (0 ≤ i2 ∧ i2 ≤ 2147483647) → Tn (d + 80) m_X11_read 94 T σ [(0, .ref a), (2, .int (iI i2))] [] post) : ∀ (n : Nat) (T : CT) (i2 : Int) (σ : MS) , (GT T0 T) → (WT T σ) → (FrC T0 [5, 6, 7, 8, 9, 10] σ0 σ) → (OB T a 11) → (0 ≤ i2 ∧ i2 ≤ 2147483647) → (2147483700 - i2).toNat = n → Tn (d + 80) m_X11_read 75 T σ [(0, .ref a), (2, .int (iI i2))] [] post := by
  intro n
  induction n using Nat.strongRecOn with
  | _ n ih =>
    intro T i2 σ hG hw hF h_a r_i2 hm
    refine tn_iload_n dX11_read_75 rfl 1 rfl ?_
    refine tn_aload_n dX11_read_76 rfl 0 rfl ?_
    refine tn_getI (ci := 11) (i := 2) (n := 97) (t := σ.2.1 97 a) dX11_read_77 rfl lay_11 (by decide) fl11_116 h_a rfl rfl (rfl) ?_
    have g1 : ((0 : Int) ≤ σ.2.1 97 a ∧ σ.2.1 97 a ≤ 6) := wf_97 hw h_a
    refine tn_icmp_ge (tgt := 94) dX11_read_80 (by decide) ⟨by omega, by omega⟩ ⟨by omega, by omega⟩ (fun h2 => ?_) (fun h2 => ?_)
    · exact tn_sub [0, 1] rfl (hx_94 T (i2) σ hG hw (FrC.rfl.trans (FrC.sub hF (by decide))) h_a (by omega))
    · refine tn_aload_n dX11_read_83 rfl 0 rfl ?_
      refine tn_iload_n dX11_read_84 rfl 1 rfl ?_
      refine tn_callV (M := m_X11_read) (pc := 85) (ix := 117) (ci := 11) (M' := m_X11_takeMade) (As := [.int (iI i2)]) (rest := []) dX11_read_85 ok_X11_takeMade im_X11_takeMade se_X11_takeMade ml11_117 np_X11_takeMade rfl rfl h_a rfl (Nat.le_of_ble_eq_true rfl) (Nat.le_of_ble_eq_true rfl) rfl (k_X11_takeMade (d + 75) (T := T) (σ := σ) (a := a) (r := i2) h_a (by omega) hw ) (fun r3 T5 σ4 gt6 hp => ?_)
      obtain ⟨rfl, w8, F9⟩ := hp
      replace h_a : OB T5 a 11 := gt6.ob h_a
      show Tn _ _ 88 T5 σ4 [(0, .ref a), (2, .int (iI i2))] [] _
      refine tn_iinc (q0 := 1) (L' := [(2, .int (iI (i2 + 1))), (0, .ref a)]) dX11_read_88 rfl (by decide) rfl ?_
      refine tn_goto (tgt := 75) dX11_read_91 (by decide) ?_
      exact tn_sub [1, 0] rfl (ih _ (by omega) T5 (i2 + 1) σ4 (GT.trans hG gt6) w8 ((FrC.rfl.trans (FrC.sub hF (by decide))).trans (FrC.sub (FrC.old F9 hG) (by decide))) h_a (by omega) rfl)
set_option maxHeartbeats 4000000 in
set_option maxRecDepth 20000 in
theorem k_X11_read_g (d : Nat) {T : CT} {σ : MS} {a : Nat} {fT Sx : Int → Int} (ha : OB T a 11) (hw : WT T σ) (hrw : ∀ x : Nat, σ.2.1 95 a = (x : Int) → RWE σ x fT (σ.2.1 96 a)) (hB : BYT fT) (hSx : Sx = svC fT (σ.2.1 96 a)) : Tn (d + 80) m_X11_read 0 T σ [(0, .ref a)] [] (fun ro T2 σ2 => ∃ v : Int, ro = some (.int (iI v)) ∧ WT T2 σ2 ∧ FrC T [5, 6, 7, 8, 9, 10, 35, 38, 42, 43, 44, 45, 46, 47, 50, 51, 56, 84, 85, 86, 87, 96, 97, 104, 105, 512, 516, 517, 518, 519, 520, 521, 522, 523] σ σ2 ∧ (-2147483648 ≤ v ∧ v ≤ 2147483647) ∧ (σ2.2.1 96 a = 0) ∧ (RQ9 Sx v (σ2.2.1 104 a) (σ2.2.1 105 a) (σ.2.1 97 a) (σ2.2.1 97 a))) := by
  have h96b := (wf_96 hw ha)
  refine tn_aload_n dX11_read_0 rfl 0 rfl ?_
  obtain ⟨x1, hx2, hk3⟩ : ∃ x : Nat, σ.2.1 100 a = (x : Int) ∧ (T x).1 = 35 := wf_100 hw ha
  have hk3o : OB T x1 5 := ⟨by omega, by rw [hk3]; rfl, by omega⟩
  refine tn_getR (ci := 11) (i := 5) (n := 100) (x := x1) dX11_read_1 rfl lay_11 (by decide) fl11_25 ha rfl rfl (hx2) ?_
  have hr100 : σ.2.1 100 a = (x1 : Int) := hx2
  refine tn_aload_n dX11_read_4 rfl 0 rfl ?_
  obtain ⟨x5, hx6, hk7, hl8⟩ : ∃ x : Nat, σ.2.1 95 a = (x : Int) ∧ AR T x 2 1200 1200 := wf_95 hw ha
  refine tn_getR (ci := 11) (i := 0) (n := 95) (x := x5) dX11_read_5 rfl lay_11 (by decide) fl11_9 ha rfl rfl (hx6) ?_
  refine tn_aload_n dX11_read_8 rfl 0 rfl ?_
  refine tn_getI (ci := 11) (i := 1) (n := 96) (t := σ.2.1 96 a) dX11_read_9 rfl lay_11 (by decide) fl11_87 ha rfl rfl (rfl) ?_
  have g9 : ((0 : Int) ≤ σ.2.1 96 a ∧ σ.2.1 96 a ≤ 1200) := wf_96 hw ha
  refine tn_callV (M := m_X11_read) (pc := 12) (ix := 94) (ci := 5) (M' := m_X5_take) (As := [.ref x5, .int (iI (σ.2.1 96 a))]) (rest := []) dX11_read_12 ok_X5_take im_X5_take se_X5_take ml11_94 np_X5_take rfl rfl hk3o rfl (Nat.le_of_ble_eq_true rfl) (Nat.le_of_ble_eq_true rfl) rfl (k_X5_take_f (d) (T := T) (σ := σ) (a := x1) (t := x5) (n := σ.2.1 96 a) hk3o hk7 (by omega) (by omega) hw (by have q9 := hl8; omega) (by omega) (hrw x5 (hx6)) hB hSx) (fun r10 T12 σ11 gt13 hp => ?_)
  obtain ⟨v16, rfl, w17, F18, f14, f15⟩ := hp
  replace ha : OB T12 a 11 := gt13.ob ha
  show Tn _ _ 15 T12 σ11 [(0, .ref a)] [.int (iI v16)] _
  refine tn_istore_n (L' := [(1, .int (iI v16)), (0, .ref a)]) dX11_read_15 rfl (by decide) rfl ?_
  refine tn_aload_n dX11_read_16 rfl 1 rfl ?_
  refine tn_iconst dX11_read_17 ?_
  refine tn_putV (ci := 11) (i := 1) (n := 96) (r := false) (v := 0) tyX11 tyX11_ok nmX11 dX11_read_18 rfl lay_11 (by decide) fl11_87 rfl (tyX11_ok 1 (by decide)) rfl rfl rfl ha rfl rfl ?_
  refine tn_aload_n dX11_read_21 rfl 1 rfl ?_
  refine tn_aload_n dX11_read_22 rfl 1 rfl ?_
  obtain ⟨x19, hx20, hk21⟩ : ∃ x : Nat, σ11.2.1 100 a = (x : Int) ∧ (T12 x).1 = 35 := wf_100 w17 ha
  have hk21o : OB T12 x19 5 := ⟨by omega, by rw [hk21]; rfl, by omega⟩
  refine tn_getR (ci := 11) (i := 5) (n := 100) (x := x19) dX11_read_23 rfl lay_11 (by decide) fl11_25 ha rfl rfl (rc_o (by decide) (hx20)) ?_
  refine tn_getI (ci := 5) (i := 10) (n := 43) (t := σ11.2.1 43 x19) dX11_read_26 rfl lay_5 (by decide) fl11_98 hk21o rfl rfl (rc_o (by decide) (rfl)) ?_
  have g23 : ((-2147483648 : Int) ≤ σ11.2.1 43 x19 ∧ σ11.2.1 43 x19 ≤ 2147483647) := wf_43 w17 hk21o
  refine tn_putV (ci := 11) (i := 9) (n := 104) (r := false) (v := σ11.2.1 43 x19) tyX11 tyX11_ok nmX11 dX11_read_29 rfl lay_11 (by decide) fl11_101 rfl (tyX11_ok 9 (by decide)) rfl rfl rfl ha rfl rfl ?_
  refine tn_aload_n dX11_read_32 rfl 1 rfl ?_
  refine tn_iload_n dX11_read_33 rfl 0 rfl ?_
  refine tn_if_eq (tgt := 41) dX11_read_34 (by decide) ⟨by omega, by omega⟩ (fun h24 => ?_) (fun h24 => ?_)
  · refine tn_aload_n dX11_read_41 rfl 1 rfl ?_
    refine tn_getR (ci := 11) (i := 5) (n := 100) (x := x19) dX11_read_42 rfl lay_11 (by decide) fl11_25 ha rfl rfl (rc_o (by decide) (rc_o (by decide) (hx20))) ?_
    refine tn_getI (ci := 5) (i := 11) (n := 44) (t := σ11.2.1 44 x19) dX11_read_45 rfl lay_5 (by decide) fl11_104 hk21o rfl rfl (rc_o (by decide) (rc_o (by decide) (rfl))) ?_
    have g25 : ((-2147483648 : Int) ≤ σ11.2.1 44 x19 ∧ σ11.2.1 44 x19 ≤ 2147483647) := wf_44 w17 hk21o
    refine tn_putV (ci := 11) (i := 10) (n := 105) (r := false) (v := σ11.2.1 44 x19) tyX11 tyX11_ok nmX11 dX11_read_48 rfl lay_11 (by decide) fl11_43 rfl (tyX11_ok 10 (by decide)) rfl rfl rfl ha rfl rfl ?_
    refine tn_iload_n dX11_read_51 rfl 0 rfl ?_
    refine tn_if_ne (tgt := 57) dX11_read_52 (by decide) ⟨by omega, by omega⟩ (fun h26 => absurd h26 (by omega)) (fun h26 => ?_)
    refine tn_iconst dX11_read_55 ?_
    have q28 : (sA 105 a (σ11.2.1 44 x19) (sA 104 a (σ11.2.1 43 x19) (sA 96 a (0) σ11))).2.1 96 a = 0 := rc_o (by decide) (rc_o (by decide) (ra_eq))
    have w274 : (sA 105 a (σ11.2.1 44 x19) (sA 104 a (σ11.2.1 43 x19) (sA 96 a (0) σ11))).2.1 104 a = σ11.2.1 43 x19 := rc_o (by decide) (ra_eq)
    have w275 : (sA 105 a (σ11.2.1 44 x19) (sA 104 a (σ11.2.1 43 x19) (sA 96 a (0) σ11))).2.1 105 a = σ11.2.1 44 x19 := ra_eq
    have w277 : (sA 105 a (σ11.2.1 44 x19) (sA 104 a (σ11.2.1 43 x19) (sA 96 a (0) σ11))).2.1 97 a = σ.2.1 97 a := rc_o (by decide) (rc_o (by decide) (rc_o (by decide) (rc_F F18 (Or.inl (by decide)) (by decide) (rfl))))
    have w27r : σ11.2.1 100 a = (x1 : Int) := rc_F F18 (Or.inl (by decide)) (by decide) hr100
    have w27x19 : x19 = x1 := by omega
    exact tn_iret rfl dX11_read_56 ⟨_, rfl, (((w17.put (by decide) (by decide) (fo_96 (by omega))).put (by decide) (by decide) (fo_104 (by omega))).put (by decide) (by decide) (fo_105 (by omega))), ((((FrC.rfl.trans (FrC.sub F18 (by decide))).put (by decide) (by decide)).put (by decide) (by decide)).put (by decide) (by decide)), by omega, by omega, RQ9.of f15 f14 (by rw [w274, w27x19]) (fun _ => ⟨rfl, by rw [w275, w27x19], w277⟩) (fun q => absurd q (by omega))⟩
  · refine tn_iconst dX11_read_37 ?_
    refine tn_goto (tgt := 48) dX11_read_38 (by decide) ?_
    refine tn_putV (ci := 11) (i := 10) (n := 105) (r := false) (v := -1) tyX11 tyX11_ok nmX11 dX11_read_48 rfl lay_11 (by decide) fl11_43 rfl (tyX11_ok 10 (by decide)) rfl rfl rfl ha rfl rfl ?_
    refine tn_iload_n dX11_read_51 rfl 0 rfl ?_
    refine tn_if_ne (tgt := 57) dX11_read_52 (by decide) ⟨by omega, by omega⟩ (fun h29 => ?_) (fun h29 => absurd h29 (by omega))
    refine tn_aload_n dX11_read_57 rfl 1 rfl ?_
    refine tn_aload_n dX11_read_58 rfl 1 rfl ?_
    refine tn_getR (ci := 11) (i := 5) (n := 100) (x := x19) dX11_read_59 rfl lay_11 (by decide) fl11_25 ha rfl rfl (rc_o (by decide) (rc_o (by decide) (rc_o (by decide) (hx20)))) ?_
    refine tn_getI (ci := 5) (i := 5) (n := 38) (t := σ11.2.1 38 x19) dX11_read_62 rfl lay_5 (by decide) fl11_107 hk21o rfl rfl (rc_o (by decide) (rc_o (by decide) (rc_o (by decide) (rfl)))) ?_
    have g30 : ((0 : Int) ≤ σ11.2.1 38 x19 ∧ σ11.2.1 38 x19 ≤ 256) := wf_38 w17 hk21o
    refine tn_bipush dX11_read_65 (by decide) ?_
    refine tn_mmin (x := σ11.2.1 38 x19) (y := 6) dX11_read_67 mlm11_110 stM_min iniM cdM_min (by omega) (Nat.le_of_ble_eq_true rfl) ⟨by omega, by omega⟩ ⟨by omega, by omega⟩ (fun z31 g32 => ?_)
    have mn33r : σ11.2.1 100 a = (x1 : Int) := rc_F F18 (Or.inl (by decide)) (by decide) hr100
    have mn33e : x19 = x1 := by have q9 := (hx20); omega
    have mn33 : z31 = (if σ11.2.1 38 x1 ≤ 6 then σ11.2.1 38 x1 else 6) := min6 (by rw [← mn33e]; omega)
    refine tn_putV (ci := 11) (i := 2) (n := 97) (r := false) (v := z31) tyX11 tyX11_ok nmX11 dX11_read_70 rfl lay_11 (by decide) fl11_116 rfl (tyX11_ok 2 (by decide)) rfl rfl rfl ha rfl rfl ?_
    refine tn_iconst dX11_read_73 ?_
    refine tn_istore_n (L' := [(2, .int (iI 0)), (1, .int (iI v16)), (0, .ref a)]) dX11_read_74 rfl (by decide) rfl ?_
    refine tn_sub [2, 0] rfl (l_X11_read_g_75 (d) (σ0 := (sA 97 a (z31) (sA 105 a (-1) (sA 104 a (σ11.2.1 43 x19) (sA 96 a (0) σ11))))) (T0 := T12) (a := a) ((((w17.put (by decide) (by decide) (fo_96 (by omega))).put (by decide) (by decide) (fo_104 (by omega))).put (by decide) (by decide) (fo_105 (by omega))).put (by decide) (by decide) (fo_97 (by omega))) (fun T36 i234 σ35 gt37 w38 F39 q40 r41 => ?_) _ T12 (0) (sA 97 a (z31) (sA 105 a (-1) (sA 104 a (σ11.2.1 43 x19) (sA 96 a (0) σ11)))) GT.rfl ((((w17.put (by decide) (by decide) (fo_96 (by omega))).put (by decide) (by decide) (fo_104 (by omega))).put (by decide) (by decide) (fo_105 (by omega))).put (by decide) (by decide) (fo_97 (by omega))) FrC.rfl ha (by omega) rfl)
    show Tn _ _ 94 T36 σ35 [(0, .ref a), (2, .int (iI i234))] [] _
    refine tn_aload_n dX11_read_94 rfl 0 rfl ?_
    obtain ⟨x42, hx43, hk44⟩ : ∃ x : Nat, σ35.2.1 103 a = (x : Int) ∧ (T36 x).1 = 37 := wf_103 w38 q40
    have hk44o : OB T36 x42 7 := ⟨by omega, by rw [hk44]; rfl, by omega⟩
    refine tn_getR (ci := 11) (i := 8) (n := 103) (x := x42) dX11_read_95 rfl lay_11 (by decide) fl11_83 q40 rfl rfl (hx43) ?_
    refine tn_callV (M := m_X11_read) (pc := 98) (ix := 120) (ci := 7) (M' := m_X7_forget) (As := []) (rest := []) dX11_read_98 ok_X7_forget im_X7_forget se_X7_forget ml11_120 np_X7_forget rfl rfl hk44o rfl (Nat.le_of_ble_eq_true rfl) (Nat.le_of_ble_eq_true rfl) rfl (k_X7_forget (d + 78) (T := T36) (σ := σ35) (a := x42) hk44o w38 ) (fun r46 T48 σ47 gt49 hp => ?_)
    obtain ⟨rfl, rfl, w51, F52⟩ := hp
    clear gt49
    show Tn _ _ 101 T36 σ47 [(0, .ref a), (2, .int (iI i234))] [] _
    refine tn_aload_n dX11_read_101 rfl 0 rfl ?_
    refine tn_getI (ci := 11) (i := 2) (n := 97) (t := σ35.2.1 97 a) dX11_read_102 rfl lay_11 (by decide) fl11_116 q40 rfl rfl (rc_F F52 (Or.inl (by decide)) (by decide) (rfl)) ?_
    have g53 : ((0 : Int) ≤ σ35.2.1 97 a ∧ σ35.2.1 97 a ≤ 6) := wf_97 w38 q40
    have q55 : σ47.2.1 96 a = 0 := rc_F F52 (Or.inl (by decide)) (by decide) (rc_F F39 (Or.inl (by decide)) (by decide) (rc_o (by decide) (rc_o (by decide) (rc_o (by decide) (ra_eq)))))
    have w544 : σ47.2.1 104 a = σ11.2.1 43 x19 := rc_F F52 (Or.inl (by decide)) (by decide) (rc_F F39 (Or.inl (by decide)) (by decide) (rc_o (by decide) (rc_o (by decide) (ra_eq))))
    have w545 : σ47.2.1 105 a = -1 := rc_F F52 (Or.inl (by decide)) (by decide) (rc_F F39 (Or.inl (by decide)) (by decide) (rc_o (by decide) (ra_eq)))
    have w547 : σ47.2.1 97 a = z31 := rc_F F52 (Or.inl (by decide)) (by decide) (rc_F F39 (Or.inl (by decide)) (by decide) (ra_eq))
    have w54r : σ11.2.1 100 a = (x1 : Int) := rc_F F18 (Or.inl (by decide)) (by decide) hr100
    have w54x19 : x19 = x1 := by omega
    have w54q : σ35.2.1 97 a = z31 := rc_F F39 (Or.inl (by decide)) (by decide) (ra_eq)
    exact tn_iret rfl dX11_read_105 ⟨_, rfl, w51, (((((((FrC.rfl.trans (FrC.sub F18 (by decide))).put (by decide) (by decide)).put (by decide) (by decide)).put (by decide) (by decide)).put (by decide) (by decide)).trans (FrC.sub (FrC.old F39 gt13) (by decide))).trans (FrC.sub (FrC.old F52 (GT.trans gt13 gt37)) (by decide))), by omega, by omega, RQ9.of f15 f14 (by rw [w544, w54x19]) (fun q => absurd q (by omega)) (fun _ => ⟨w54q.trans mn33, w545, w547.trans w54q.symm⟩)⟩
end
section
set_option maxHeartbeats 4000000 in
set_option maxRecDepth 20000 in
theorem k_X11_codeOf_g (d : Nat) {T : CT} {σ : MS} {a : Nat} {r : Int} (ha : OB T a 11) (h_r : -2147483648 ≤ r ∧ r ≤ 2147483647) (hw : WT T σ) : Tn (d + 1) m_X11_codeOf 0 T σ [(0, .ref a), (1, .int (iI r))] [] (fun ro T2 σ2 => ∃ v : Int, ro = some (vl true v) ∧ T = T2 ∧ σ = σ2 ∧ (v < 0 ∨ ∃ x : Nat, v = (x : Int) ∧ (T2 x).1 = 50) ∧ ((0 ≤ v ∧ 0 ≤ r ∧ r < σ.2.1 97 a) ∨ (v < 0 ∧ (r < 0 ∨ σ.2.1 97 a ≤ r)))) := by
  refine tn_iload_n dX11_codeOf_0 rfl 1 rfl ?_
  refine tn_if_lt (tgt := 30) dX11_codeOf_1 (by decide) ⟨by omega, by omega⟩ (fun h1 => ?_) (fun h1 => ?_)
  · refine tn_null dX11_codeOf_30 ?_
    exact tn_aret rfl (Or.inl ⟨_, rfl⟩) (Or.inl rfl) dX11_codeOf_31 ⟨-1, congrArg some (vl_null (by decide)).symm, rfl, rfl, Or.inl (by decide), by omega⟩
  · refine tn_iload_n dX11_codeOf_4 rfl 1 rfl ?_
    refine tn_aload_n dX11_codeOf_5 rfl 0 rfl ?_
    refine tn_getI (ci := 11) (i := 2) (n := 97) (t := σ.2.1 97 a) dX11_codeOf_6 rfl lay_11 (by decide) fl11_116 ha rfl rfl (rfl) ?_
    have g2 : ((0 : Int) ≤ σ.2.1 97 a ∧ σ.2.1 97 a ≤ 6) := wf_97 hw ha
    refine tn_icmp_ge (tgt := 30) dX11_codeOf_9 (by decide) ⟨by omega, by omega⟩ ⟨by omega, by omega⟩ (fun h3 => ?_) (fun h3 => ?_)
    · refine tn_null dX11_codeOf_30 ?_
      exact tn_aret rfl (Or.inl ⟨_, rfl⟩) (Or.inl rfl) dX11_codeOf_31 ⟨-1, congrArg some (vl_null (by decide)).symm, rfl, rfl, Or.inl (by decide), by omega⟩
    · refine tn_iload_n dX11_codeOf_12 rfl 1 rfl ?_
      refine tn_aload_n dX11_codeOf_13 rfl 0 rfl ?_
      obtain ⟨x4, hx5, hk6, hl7⟩ : ∃ x : Nat, σ.2.1 99 a = (x : Int) ∧ AR T x 5 6 6 := wf_99 hw ha
      have hk6i : (T x4).1 = 4 ∨ (T x4).1 = 5 := by omega
      refine tn_getR (ci := 11) (i := 4) (n := 99) (x := x4) dX11_codeOf_14 rfl lay_11 (by decide) fl11_19 ha rfl rfl (hx5) ?_
      refine tn_alenX dX11_codeOf_17 (by have q9 := hk6i; omega) ?_
      refine tn_icmp_ge (tgt := 30) dX11_codeOf_18 (by decide) ⟨by omega, by omega⟩ ⟨by omega, by omega⟩ (fun h8 => absurd h8 (by omega)) (fun h8 => ?_)
      refine tn_aload_n dX11_codeOf_21 rfl 0 rfl ?_
      refine tn_getR (ci := 11) (i := 4) (n := 99) (x := x4) dX11_codeOf_22 rfl lay_11 (by decide) fl11_19 ha rfl rfl (hx5) ?_
      refine tn_iload_n dX11_codeOf_25 rfl 1 rfl ?_
      obtain ⟨x9, hx10, hk11⟩ := (hw).2.2.2.1.2 x4 hk6 (r) (by omega) (by omega)
      refine tn_aald (z := r) (x := x9) dX11_codeOf_26 hk6i (by omega) (by omega) (by omega) hx10 ?_
      have hk11o : OB T x9 1 := ⟨by omega, by rw [hk11]; rfl, by omega⟩
      refine tn_goto (tgt := 31) dX11_codeOf_27 (by decide) ?_
      exact tn_aret rfl (Or.inl ⟨_, rfl⟩) (Or.inr ⟨_, rfl⟩) dX11_codeOf_31 ⟨(x9 : Int), congrArg some (vl_ref rfl).symm, rfl, rfl, Or.inr ⟨_, rfl, hk11⟩, by omega⟩
end
section
set_option maxHeartbeats 4000000 in
set_option maxRecDepth 20000 in
theorem k_X11_start_g (d : Nat) {T : CT} {σ : MS} {a : Nat} {r : Int} {p : Int} {q : Int} {s : Int} {t : Int} {B : Int} (ha : OB T a 11) (h_r : -2147483648 ≤ r ∧ r ≤ 2147483647) (h_p : -2147483648 ≤ p ∧ p ≤ 2147483647) (h_q : -2147483648 ≤ q ∧ q ≤ 2147483647) (h_s : -2147483648 ≤ s ∧ s ≤ 2147483647) (h_t : -2147483648 ≤ t ∧ t ≤ 2147483647) (hw : WT T σ) (htr : TR σ a B) (hB : 0 ≤ B) : Tn (d + 5) m_X11_start 0 T σ [(0, .ref a), (1, .int (iI r)), (2, .int (iI p)), (3, .int (iI q)), (4, .int (iI s)), (5, .int (iI t))] [] (fun ro T2 σ2 => ∃ v : Int, ro = some (.int (iI v)) ∧ T = T2 ∧ WT T2 σ2 ∧ FrC T [56, 57, 58, 65, 66, 67, 68, 69, 515] σ σ2 ∧ (v = 0 ∨ v = 1) ∧ ((v = 1 ∧ 0 ≤ r ∧ r < σ.2.1 97 a) ∨ (v = 0 ∧ (r < 0 ∨ σ.2.1 97 a ≤ r))) ∧ (TR σ2 a B)) := by
  refine tn_aload_n dX11_start_0 rfl 0 rfl ?_
  refine tn_iload_n dX11_start_1 rfl 1 rfl ?_
  refine tn_callV (M := m_X11_start) (pc := 2) (ix := 123) (ci := 11) (M' := m_X11_codeOf) (As := [.int (iI r)]) (rest := []) dX11_start_2 ok_X11_codeOf im_X11_codeOf se_X11_codeOf ml11_123 np_X11_codeOf rfl rfl ha rfl (Nat.le_of_ble_eq_true rfl) (Nat.le_of_ble_eq_true rfl) rfl (k_X11_codeOf_g (d + 3) (T := T) (σ := σ) (a := a) (r := r) ha (by omega) hw ) (fun r1 T3 σ2 gt4 hp => ?_)
  obtain ⟨v6, rfl, rfl, rfl, rv7, f5⟩ := hp
  clear gt4
  rcases rv7 with rv7 | ⟨x8, rfl, hk9⟩
  · show Tn _ _ 5 T σ [(0, .ref a), (1, .int (iI r)), (2, .int (iI p)), (3, .int (iI q)), (4, .int (iI s)), (5, .int (iI t))] (vl true v6 :: []) _
    rw [vl_null rv7]
    refine tn_ifnonnullN dX11_start_5 ?_
    refine tn_iconst dX11_start_8 ?_
    exact tn_zret (v := 0) rfl (by decide) dX11_start_9 ⟨_, rfl, rfl, hw, FrC.rfl, by omega, by omega, htr⟩
  · show Tn _ _ 5 T σ [(0, .ref a), (1, .int (iI r)), (2, .int (iI p)), (3, .int (iI q)), (4, .int (iI s)), (5, .int (iI t))] (vl true (x8 : Int) :: []) _
    rw [vl_ref rfl]
    have hk9o : OB T x8 1 := ⟨by omega, by rw [hk9]; rfl, by omega⟩
    refine tn_ifnonnull (tgt := 10) dX11_start_5 (by decide) ?_
    refine tn_aload_n dX11_start_10 rfl 0 rfl ?_
    obtain ⟨x10, hx11, hk12⟩ : ∃ x : Nat, σ.2.1 103 a = (x : Int) ∧ (T x).1 = 37 := wf_103 hw ha
    have hk12o : OB T x10 7 := ⟨by omega, by rw [hk12]; rfl, by omega⟩
    refine tn_getR (ci := 11) (i := 8) (n := 103) (x := x10) dX11_start_11 rfl lay_11 (by decide) fl11_83 ha rfl rfl (hx11) ?_
    refine tn_iload_n dX11_start_14 rfl 1 rfl ?_
    refine tn_iload_n dX11_start_15 rfl 2 rfl ?_
    refine tn_iload_n dX11_start_16 rfl 3 rfl ?_
    refine tn_iload dX11_start_17 4 rfl ?_
    refine tn_iload dX11_start_19 5 rfl ?_
    refine tn_callV (M := m_X11_start) (pc := 21) (ix := 204) (ci := 7) (M' := m_X7_begin) (As := [.int (iI r), .int (iI p), .int (iI q), .int (iI s), .int (iI t)]) (rest := []) dX11_start_21 ok_X7_begin im_X7_begin se_X7_begin ml11_204 np_X7_begin rfl rfl hk12o rfl (Nat.le_of_ble_eq_true rfl) (Nat.le_of_ble_eq_true rfl) rfl (k_X7_begin (d) (T := T) (σ := σ) (a := x10) (p1 := r) (p2 := p) (p3 := q) (p4 := s) (p5 := t) hk12o hk12 (by omega) (by omega) (by omega) (by omega) (by omega) hw ) (fun r14 T16 σ15 gt17 hp => ?_)
    obtain ⟨rfl, rfl, w21, F22, f18, f19⟩ := hp
    clear gt17
    show Tn _ _ 24 T σ15 [(0, .ref a), (1, .int (iI r)), (2, .int (iI p)), (3, .int (iI q)), (4, .int (iI s)), (5, .int (iI t))] [] _
    refine tn_iconst dX11_start_24 ?_
    exact tn_zret (v := 1) rfl (by decide) dX11_start_25 ⟨_, rfl, rfl, w21, (FrC.rfl.trans (FrC.sub F22 (by decide))), by omega, by omega, TR.of (rc_F F22 (Or.inl (by decide)) (by decide) (hx11)) (by omega)⟩
end
section
set_option maxHeartbeats 4000000 in
set_option maxRecDepth 20000 in
theorem c5_X12_start (d : Nat) {b : Nat} {σ : MS} {x : Int} {a1 : Int} {a2 : Int} {a3 : Int} {a4 : Int} (hR : RG σ) (hit : ITM σ) (hpar : PAR σ) (hnam : NAM σ) (hrt : RTN σ) (hpn : ∀ r, 0 ≤ r → r < σ.1 10 → σ.2.1 11 r ≤ σ.2.1 12 r) (h_x : -2147483648 ≤ x ∧ x ≤ 2147483647) (h_a1 : -2147483648 ≤ a1 ∧ a1 ≤ 2147483647) (h_a2 : -2147483648 ≤ a2 ∧ a2 ≤ 2147483647) (h_a3 : -2147483648 ≤ a3 ∧ a3 ≤ 2147483647) (h_a4 : -2147483648 ≤ a4 ∧ a4 ≤ 2147483647) : Tm (d + 3) m_X12_start 0 b σ [(0, .ref b), (1, .int (iI x)), (2, .int (iI a1)), (3, .int (iI a2)), (4, .int (iI a3)), (5, .int (iI a4))] [] (fun ro σ2 => ∃ v : Int, ro = some (.int (iI v)) ∧ ((v = 0 ∨ v = 1)) ∧ (Fr [0, 67, 68, 69, 70] [73, 74, 75, 76, 78, 79, 80, 81, 82] [] σ σ2) ∧ (RG σ2) ∧ (v = 0 → σ2.1 67 = σ.1 67 ∧ σ2.1 68 = σ.1 68 ∧ σ2.2.1 = σ.2.1) ∧ (v = 1 → (0 ≤ x ∧ x < σ.1 10) ∧ σ2.2.1 73 0 = 1 ∧ (σ2.2.1 78 (9 * 0) = x ∧ σ2.2.1 79 (9 * 0) = 0 ∧ σ2.2.1 80 (9 * 0) = 0)) ∧ (v = 0 → σ2.1 70 = σ.1 70) ∧ (v = 1 → σ2.1 70 = 0 ∧ σ2.2.1 76 0 = 0) ∧ ((v = 1 ∧ 0 ≤ x ∧ x < σ.1 10) ∨ (v = 0 ∧ (x < 0 ∨ σ.1 10 ≤ x)))) := by
  refine tm_aload_n dX12_start_0 rfl 0 rfl ?_
  refine tm_iconst dX12_start_1 ?_
  refine tm_putS (k := 0) (v := 0) lay_12 dX12_start_2 (by decide) fl12_185 rfl (tyX12_ok 0 (by decide)) rfl rfl rfl ?_
  refine tm_aload_n dX12_start_5 rfl 0 rfl ?_
  refine tm_iload_n dX12_start_6 rfl 1 rfl ?_
  refine tm_callV (M := m_X12_start) (pc := 7) (ix := 404) (M' := m_X12_isRoutine) (As := [.int (iI x)]) (rest := []) dX12_start_7 ok_X12_isRoutine im_X12_isRoutine se_X12_isRoutine ml12_404 np_X12_isRoutine rfl rfl (Nat.le_of_ble_eq_true rfl) (Nat.le_of_ble_eq_true rfl) rfl (c_X12_isRoutine (d) (σ := (sS 0 0 σ)) (x := x) (hR.S (by omega)) hrt.1 (by omega)) (fun r1 σ2 hp => ?_)
  obtain ⟨v3, rfl, rfl, f4, f5⟩ := hp
  show Tm _ _ 10 b (sS 0 0 σ) [(0, .ref b), (1, .int (iI x)), (2, .int (iI a1)), (3, .int (iI a2)), (4, .int (iI a3)), (5, .int (iI a4))] [.int (iI v3)] _
  have e10 : (sS 0 0 σ).1 10 = σ.1 10 := rfl
  have hrt1 := hrt.1
  refine tm_if_ne (tgt := 15) dX12_start_10 (by decide) ⟨by omega, by omega⟩ (fun h6 => ?_) (fun h6 => ?_)
  · have hri := hrt.2 x (by omega) (by omega)
    have hof := hri.2.1
    have hok := hri.2.2.1
    have q1 := hof.1
    have q2 := hnam x (by omega) (by omega)
    have q3 := hpar x (by omega) (by omega)
    have hf0 := hri.2.2.2.1
    unfold FR0 at hf0
    have hnn : ∀ n, 0 ≤ n → n < σ.2.1 11 x → 0 ≤ σ.2.1 18 (144 * x + n) ∧ σ.2.1 18 (144 * x + n) < 192 := fun n a c => by
      have h := (hof.2 0 (by omega) (by omega)).2 n a (by rw [hf0]; have := hpn x (by omega) (by omega); omega)
      rw [Int.mul_zero, Int.add_zero] at h; exact h
    refine tm_aload_n dX12_start_15 rfl 0 rfl ?_
    refine tm_iconst dX12_start_16 ?_
    refine tm_iload_n dX12_start_17 rfl 1 rfl ?_
    refine tm_iload_n dX12_start_18 rfl 2 rfl ?_
    refine tm_iload_n dX12_start_19 rfl 3 rfl ?_
    refine tm_iload dX12_start_20 4 rfl ?_
    refine tm_iload dX12_start_22 5 rfl ?_
    refine tm_callV (M := m_X12_start) (pc := 24) (ix := 557) (M' := m_X12_startMachine) (As := [.int (iI 0), .int (iI x), .int (iI a1), .int (iI a2), .int (iI a3), .int (iI a4)]) (rest := []) dX12_start_24 ok_X12_startMachine im_X12_startMachine se_X12_startMachine ml12_557 np_X12_startMachine rfl rfl (Nat.le_of_ble_eq_true rfl) (Nat.le_of_ble_eq_true rfl) rfl (c2_X12_startMachine (d) (σ := (sS 0 0 σ)) (m := 0) (x := x) (a1 := a1) (a2 := a2) (a3 := a3) (a4 := a4) (by decide) (by omega) (hR.S (by omega)) q3 (fun n a c => hnn n a c) (by omega) (by omega) (by omega) (by omega)) (fun r7 σ8 hp => ?_)
    obtain ⟨rfl, f10, f11, f12, f13, f14, f15⟩ := hp
    show Tm _ _ 27 b σ8 [(0, .ref b), (1, .int (iI x)), (2, .int (iI a1)), (3, .int (iI a2)), (4, .int (iI a3)), (5, .int (iI a4))] [] _
    have kk2 := f12
    have kk3 := f13
    have kk5 := f15
    refine tm_aload_n dX12_start_27 rfl 0 rfl ?_
    refine tm_iconst dX12_start_28 ?_
    refine tm_putS (k := 67) (v := 1) lay_12 dX12_start_29 (by decide) fl12_397 rfl (tyX12_ok 67 (by decide)) rfl rfl rfl ?_
    refine tm_aload_n dX12_start_32 rfl 0 rfl ?_
    refine tm_iconst dX12_start_33 ?_
    refine tm_putS (k := 68) (v := 0) lay_12 dX12_start_34 (by decide) fl12_560 rfl (tyX12_ok 68 (by decide)) rfl rfl rfl ?_
    refine tm_aload_n dX12_start_37 rfl 0 rfl ?_
    refine tm_iconst dX12_start_38 ?_
    refine tm_putS (k := 69) (v := 0) lay_12 dX12_start_39 (by decide) fl12_563 rfl (tyX12_ok 69 (by decide)) rfl rfl rfl ?_
    refine tm_aload_n dX12_start_42 rfl 0 rfl ?_
    refine tm_iconst dX12_start_43 ?_
    refine tm_putS (k := 70) (v := 0) lay_12 dX12_start_44 (by decide) fl12_566 rfl (tyX12_ok 70 (by decide)) rfl rfl rfl ?_
    refine tm_iconst dX12_start_47 ?_
    exact tm_zret (v := 1) rfl (by decide) dX12_start_48 (⟨_, rfl, by omega, ((((((Fr.rfl.S (by decide)).trans (Fr.sub f10 (by decide) (by decide) (by decide))).S (by decide)).S (by decide)).S (by decide)).S (by decide)), ((((f11.S (by omega)).S (by omega)).S (by omega)).S (by omega)), fun q => absurd q (by decide), fun _ => ⟨by omega, kk2, kk3⟩, fun q => absurd q (by decide), fun _ => ⟨rs_eq, kk5⟩, by omega⟩)
  · refine tm_iconst dX12_start_13 ?_
    exact tm_zret (v := 0) rfl (by decide) dX12_start_14 (⟨_, rfl, by omega, (Fr.rfl.S (by decide)), (hR.S (by omega)), fun _ => ⟨rfl, rfl, rfl⟩, fun q => absurd q (by decide), fun _ => rfl, fun q => absurd q (by decide), by omega⟩)
end
