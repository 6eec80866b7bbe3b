theorem arC_boolean : Cond.arrayClass .boolean ∈ pWW := pw8 (List.mem_of_getElem? (i := 27) rfl) rfl
def z0 : MS := (fun j => if j = 27 then -1 else 0, fun _ _ => 0, fun _ _ => 0)
def mFk (b k : Nat) : List Value := [.int (iI 0), (if 0 < k then .ref (b + 1 + 0) else .null), .int (iI 0), (if 1 < k then .ref (b + 1 + 1) else .null), (if 2 < k then .ref (b + 1 + 2) else .null), (if 3 < k then .ref (b + 1 + 3) else .null), (if 4 < k then .ref (b + 1 + 4) else .null), (if 5 < k then .ref (b + 1 + 5) else .null), (if 6 < k then .ref (b + 1 + 6) else .null), (if 7 < k then .ref (b + 1 + 7) else .null), .int (iI 0), (if 8 < k then .ref (b + 1 + 8) else .null), (if 9 < k then .ref (b + 1 + 9) else .null), (if 10 < k then .ref (b + 1 + 10) else .null), (if 11 < k then .ref (b + 1 + 11) else .null), (if 12 < k then .ref (b + 1 + 12) else .null), (if 13 < k then .ref (b + 1 + 13) else .null), (if 14 < k then .ref (b + 1 + 14) else .null), (if 15 < k then .ref (b + 1 + 15) else .null), .int (iI 0), .int (iI 0), .int (iI 0), .int (iI 0), .int (iI 0), .long 0, .int (iI 0), .int (iI 0), .int (iI (if 16 < k then -1 else 0)), .int (iI 0), .int (iI 0), .int (iI 0), .int (iI 0), .int (iI 0), .int (iI 0), .int (iI 0), (if 16 < k then .ref (b + 1 + 16) else .null), (if 17 < k then .ref (b + 1 + 17) else .null), (if 18 < k then .ref (b + 1 + 18) else .null), (if 19 < k then .ref (b + 1 + 19) else .null), .int (iI 0), .int (iI 0), (if 20 < k then .ref (b + 1 + 20) else .null), (if 21 < k then .ref (b + 1 + 21) else .null), .int (iI 0), (if 22 < k then .ref (b + 1 + 22) else .null), (if 23 < k then .ref (b + 1 + 23) else .null), (if 24 < k then .ref (b + 1 + 24) else .null), (if 25 < k then .ref (b + 1 + 25) else .null), (if 26 < k then .ref (b + 1 + 26) else .null), (if 27 < k then .ref (b + 1 + 27) else .null), (if 28 < k then .ref (b + 1 + 28) else .null), (if 29 < k then .ref (b + 1 + 29) else .null), (if 30 < k then .ref (b + 1 + 30) else .null), (if 31 < k then .ref (b + 1 + 31) else .null), (if 32 < k then .ref (b + 1 + 32) else .null), (if 33 < k then .ref (b + 1 + 33) else .null), (if 34 < k then .ref (b + 1 + 34) else .null), (if 35 < k then .ref (b + 1 + 35) else .null), (if 36 < k then .ref (b + 1 + 36) else .null), (if 37 < k then .ref (b + 1 + 37) else .null), (if 38 < k then .ref (b + 1 + 38) else .null), (if 39 < k then .ref (b + 1 + 39) else .null), .int (iI 0), (if 40 < k then .ref (b + 1 + 40) else .null), (if 41 < k then .ref (b + 1 + 41) else .null), (if 42 < k then .ref (b + 1 + 42) else .null), (if 43 < k then .ref (b + 1 + 43) else .null), .int (iI 0), .int (iI 0), .int (iI 0), .int (iI 0), .int (iI 0), .int (iI 0), (if 44 < k then .ref (b + 1 + 44) else .null), (if 45 < k then .ref (b + 1 + 45) else .null), (if 46 < k then .ref (b + 1 + 46) else .null), (if 47 < k then .ref (b + 1 + 47) else .null), (if 48 < k then .ref (b + 1 + 48) else .null), (if 49 < k then .ref (b + 1 + 49) else .null), (if 50 < k then .ref (b + 1 + 50) else .null), (if 51 < k then .ref (b + 1 + 51) else .null), (if 52 < k then .ref (b + 1 + 52) else .null), (if 53 < k then .ref (b + 1 + 53) else .null), .int (iI 0), .int (iI 0), .int (iI 0), (if 54 < k then .ref (b + 1 + 54) else .null)]
def ovK (b k : Nat) (P0 : PH) : PH := fun q => if q = b then some (.inr (12, mFk b k)) else if b < q ∧ q < b + 1 + k then mC z0 (q - b - 1) else P0 q
theorem ovK_b {b k : Nat} {P0 : PH} {e : pE} : pS (ovK b k P0) (b + 1 + k) e b = some (.inr (12, mFk b k)) := by
  rw [pS_ne (by omega)]
  exact if_pos rfl
theorem ovK_step {b k : Nat} {P0 : PH} {e : pE} {Y : List Value} (he : mC z0 k = some e) (hf : Y = mFk b (k + 1)) : pS (pS (ovK b k P0) (b + 1 + k) e) b (.inr (12, Y)) = ovK b (k + 1) P0 := by
  rw [hf]
  funext q
  by_cases h1 : q = b
  · simp only [pS, ovK, if_pos h1]
  · by_cases h2 : q = b + 1 + k
    · simp only [pS, ovK, if_neg h1, if_pos h2]
      rw [if_pos (by omega), h2, show b + 1 + k - b - 1 = k by omega, he]
    · simp only [pS, ovK, if_neg h1, if_neg h2]
      by_cases h3 : b < q ∧ q < b + 1 + k
      · rw [if_pos h3, if_pos (by omega)]
      · rw [if_neg h3, if_neg (by omega)]
theorem pS_3 {P : PH} {a b : Nat} {x y e : pE} (h : a ≠ b) : pS (pS (pS P b x) a e) b y = pS (pS P a e) b y := by
  funext q
  unfold pS
  by_cases h1 : q = b
  · rw [if_pos h1, if_pos h1]
  · rw [if_neg h1, if_neg h1, if_neg h1]
theorem ovK_b3 {b k : Nat} {P0 : PH} {e : pE} {X : List Value} : pS (pS (ovK b k P0) b (.inr (12, X))) (b + 1 + k) e b = some (.inr (12, X)) := by
  rw [pS_ne (by omega), pS_same]
theorem ovK_0 {b : Nat} {P0 : PH} : pS P0 b (.inr (12, mFk b 0)) = ovK b 0 P0 := by
  funext q
  unfold pS ovK
  by_cases h1 : q = b
  · rw [if_pos h1, if_pos h1]
  · rw [if_neg h1, if_neg h1, if_neg (by omega)]
theorem ovK_55 {b : Nat} {P0 : PH} : ovK b 55 P0 = ovM b z0 P0 := by
  funext q
  unfold ovK ovM
  by_cases h1 : q = b
  · rw [if_pos h1, if_pos h1]
    rfl
  · rw [if_neg h1, if_neg h1]
theorem mlo12_1 : Cond.methodLink RX12 1 objectInit ∈ pWW := pw7 (List.mem_of_getElem? (i := 3) rfl) rfl
theorem dX12_init_5 : decode cX12_init 5 = .ok (.sipush 1200, 3) := by decide +kernel
theorem dX12_init_4 : decode cX12_init 4 = .ok (.aload_n 0, 1) := by decide +kernel
theorem dX12_init_8 : decode cX12_init 8 = .ok (.newarray .byte, 2) := by decide +kernel
theorem dX12_init_10 : decode cX12_init 10 = .ok (.putfield 7, 3) := by decide +kernel
set_option maxRecDepth 20000 in
theorem in_0 (d : Nat) {b n n2 : Nat} {P0 PF : PH} (hn2 : 1200 + n = n2) (kk : Wp (d + 1) m_X12_init 13 (ovK b 1 P0) (b + 1 + 1) [(0, .ref b)] [] (none, PF, b + 56, n)) : Wp (d + 1) m_X12_init 4 (ovK b 0 P0) (b + 1 + 0) [(0, .ref b)] [] (none, PF, b + 56, n2) := by
  subst hn2
  refine wp_aload_n dX12_init_4 rfl 0 rfl ?_
  refine wp_sipush (v := iI 1200) dX12_init_5 (iI_16 (by decide)) ?_
  refine wp_newa (atype := .byte) (tc := 1) (N := 1200) (a0 := (1200, .inl (fun _ => 0))) (o := (none, PF, b + 56, n)) dX12_init_8 arC_byte rfl (fun cA => rfl) (iI_n_lt (b := 0) ⟨by omega, by omega⟩ inR_0 (by omega)) (by rw [iI_nat (by omega) (by omega)]; rfl) (by show 1200 * 1 ≤ 536870912; omega) (by show b + 1 + 0 + 1 ≤ b + 56; omega) ?_
  refine wp_putF (ci := 12) (k := 1) (fs := mFk b 0) tyX12 tyX12_ok nmX12 dX12_init_10 rfl lay_12 (by decide) fl12_7 rfl rfl rfl (tyX12_ok 1 (by decide)) rfl rfl ovK_b ?_
  rw [ovK_step (b := b) (k := 0) (P0 := P0) (e := .inl (1, 1200, .inl (fun _ => 0))) (Y := (mFk b 0).set 1 (.ref (b + 1 + 0))) rfl rfl]
  exact kk
theorem dX12_init_14 : decode cX12_init 14 = .ok (.sipush 2860, 3) := by decide +kernel
theorem dX12_init_13 : decode cX12_init 13 = .ok (.aload_n 0, 1) := by decide +kernel
theorem dX12_init_17 : decode cX12_init 17 = .ok (.newarray .int, 2) := by decide +kernel
theorem dX12_init_19 : decode cX12_init 19 = .ok (.putfield 13, 3) := by decide +kernel
set_option maxRecDepth 20000 in
theorem in_1 (d : Nat) {b n n2 : Nat} {P0 PF : PH} (hn2 : 2860 + n = n2) (kk : Wp (d + 1) m_X12_init 22 (ovK b 2 P0) (b + 1 + 2) [(0, .ref b)] [] (none, PF, b + 56, n)) : Wp (d + 1) m_X12_init 13 (ovK b 1 P0) (b + 1 + 1) [(0, .ref b)] [] (none, PF, b + 56, n2) := by
  subst hn2
  refine wp_aload_n dX12_init_13 rfl 0 rfl ?_
  refine wp_sipush (v := iI 2860) dX12_init_14 (iI_16 (by decide)) ?_
  refine wp_newa (atype := .int) (tc := 0) (N := 2860) (a0 := (2860, .inl (fun _ => 0))) (o := (none, PF, b + 56, n)) dX12_init_17 arC_int rfl (fun cA => rfl) (iI_n_lt (b := 0) ⟨by omega, by omega⟩ inR_0 (by omega)) (by rw [iI_nat (by omega) (by omega)]; rfl) (by show 2860 * 4 ≤ 536870912; omega) (by show b + 1 + 1 + 1 ≤ b + 56; omega) ?_
  refine wp_putF (ci := 12) (k := 3) (fs := mFk b 1) tyX12 tyX12_ok nmX12 dX12_init_19 rfl lay_12 (by decide) fl12_13 rfl rfl rfl (tyX12_ok 3 (by decide)) rfl rfl ovK_b ?_
  rw [ovK_step (b := b) (k := 1) (P0 := P0) (e := .inl (0, 2860, .inl (fun _ => 0))) (Y := (mFk b 1).set 3 (.ref (b + 1 + 1))) rfl rfl]
  exact kk
theorem dX12_init_23 : decode cX12_init 23 = .ok (.sipush 2860, 3) := by decide +kernel
theorem dX12_init_22 : decode cX12_init 22 = .ok (.aload_n 0, 1) := by decide +kernel
theorem dX12_init_26 : decode cX12_init 26 = .ok (.newarray .int, 2) := by decide +kernel
theorem dX12_init_28 : decode cX12_init 28 = .ok (.putfield 17, 3) := by decide +kernel
set_option maxRecDepth 20000 in
theorem in_2 (d : Nat) {b n n2 : Nat} {P0 PF : PH} (hn2 : 2860 + n = n2) (kk : Wp (d + 1) m_X12_init 31 (ovK b 3 P0) (b + 1 + 3) [(0, .ref b)] [] (none, PF, b + 56, n)) : Wp (d + 1) m_X12_init 22 (ovK b 2 P0) (b + 1 + 2) [(0, .ref b)] [] (none, PF, b + 56, n2) := by
  subst hn2
  refine wp_aload_n dX12_init_22 rfl 0 rfl ?_
  refine wp_sipush (v := iI 2860) dX12_init_23 (iI_16 (by decide)) ?_
  refine wp_newa (atype := .int) (tc := 0) (N := 2860) (a0 := (2860, .inl (fun _ => 0))) (o := (none, PF, b + 56, n)) dX12_init_26 arC_int rfl (fun cA => rfl) (iI_n_lt (b := 0) ⟨by omega, by omega⟩ inR_0 (by omega)) (by rw [iI_nat (by omega) (by omega)]; rfl) (by show 2860 * 4 ≤ 536870912; omega) (by show b + 1 + 2 + 1 ≤ b + 56; omega) ?_
  refine wp_putF (ci := 12) (k := 4) (fs := mFk b 2) tyX12 tyX12_ok nmX12 dX12_init_28 rfl lay_12 (by decide) fl12_17 rfl rfl rfl (tyX12_ok 4 (by decide)) rfl rfl ovK_b ?_
  rw [ovK_step (b := b) (k := 2) (P0 := P0) (e := .inl (0, 2860, .inl (fun _ => 0))) (Y := (mFk b 2).set 4 (.ref (b + 1 + 2))) rfl rfl]
  exact kk
theorem dX12_init_32 : decode cX12_init 32 = .ok (.sipush 2860, 3) := by decide +kernel
theorem dX12_init_31 : decode cX12_init 31 = .ok (.aload_n 0, 1) := by decide +kernel
theorem dX12_init_35 : decode cX12_init 35 = .ok (.newarray .int, 2) := by decide +kernel
theorem dX12_init_37 : decode cX12_init 37 = .ok (.putfield 20, 3) := by decide +kernel
set_option maxRecDepth 20000 in
theorem in_3 (d : Nat) {b n n2 : Nat} {P0 PF : PH} (hn2 : 2860 + n = n2) (kk : Wp (d + 1) m_X12_init 40 (ovK b 4 P0) (b + 1 + 4) [(0, .ref b)] [] (none, PF, b + 56, n)) : Wp (d + 1) m_X12_init 31 (ovK b 3 P0) (b + 1 + 3) [(0, .ref b)] [] (none, PF, b + 56, n2) := by
  subst hn2
  refine wp_aload_n dX12_init_31 rfl 0 rfl ?_
  refine wp_sipush (v := iI 2860) dX12_init_32 (iI_16 (by decide)) ?_
  refine wp_newa (atype := .int) (tc := 0) (N := 2860) (a0 := (2860, .inl (fun _ => 0))) (o := (none, PF, b + 56, n)) dX12_init_35 arC_int rfl (fun cA => rfl) (iI_n_lt (b := 0) ⟨by omega, by omega⟩ inR_0 (by omega)) (by rw [iI_nat (by omega) (by omega)]; rfl) (by show 2860 * 4 ≤ 536870912; omega) (by show b + 1 + 3 + 1 ≤ b + 56; omega) ?_
  refine wp_putF (ci := 12) (k := 5) (fs := mFk b 3) tyX12 tyX12_ok nmX12 dX12_init_37 rfl lay_12 (by decide) fl12_20 rfl rfl rfl (tyX12_ok 5 (by decide)) rfl rfl ovK_b ?_
  rw [ovK_step (b := b) (k := 3) (P0 := P0) (e := .inl (0, 2860, .inl (fun _ => 0))) (Y := (mFk b 3).set 5 (.ref (b + 1 + 3))) rfl rfl]
  exact kk
theorem dX12_init_41 : decode cX12_init 41 = .ok (.sipush 2860, 3) := by decide +kernel
theorem dX12_init_40 : decode cX12_init 40 = .ok (.aload_n 0, 1) := by decide +kernel
theorem dX12_init_44 : decode cX12_init 44 = .ok (.newarray .int, 2) := by decide +kernel
theorem dX12_init_46 : decode cX12_init 46 = .ok (.putfield 23, 3) := by decide +kernel
set_option maxRecDepth 20000 in
theorem in_4 (d : Nat) {b n n2 : Nat} {P0 PF : PH} (hn2 : 2860 + n = n2) (kk : Wp (d + 1) m_X12_init 49 (ovK b 5 P0) (b + 1 + 5) [(0, .ref b)] [] (none, PF, b + 56, n)) : Wp (d + 1) m_X12_init 40 (ovK b 4 P0) (b + 1 + 4) [(0, .ref b)] [] (none, PF, b + 56, n2) := by
  subst hn2
  refine wp_aload_n dX12_init_40 rfl 0 rfl ?_
  refine wp_sipush (v := iI 2860) dX12_init_41 (iI_16 (by decide)) ?_
  refine wp_newa (atype := .int) (tc := 0) (N := 2860) (a0 := (2860, .inl (fun _ => 0))) (o := (none, PF, b + 56, n)) dX12_init_44 arC_int rfl (fun cA => rfl) (iI_n_lt (b := 0) ⟨by omega, by omega⟩ inR_0 (by omega)) (by rw [iI_nat (by omega) (by omega)]; rfl) (by show 2860 * 4 ≤ 536870912; omega) (by show b + 1 + 4 + 1 ≤ b + 56; omega) ?_
  refine wp_putF (ci := 12) (k := 6) (fs := mFk b 4) tyX12 tyX12_ok nmX12 dX12_init_46 rfl lay_12 (by decide) fl12_23 rfl rfl rfl (tyX12_ok 6 (by decide)) rfl rfl ovK_b ?_
  rw [ovK_step (b := b) (k := 4) (P0 := P0) (e := .inl (0, 2860, .inl (fun _ => 0))) (Y := (mFk b 4).set 6 (.ref (b + 1 + 4))) rfl rfl]
  exact kk
theorem dX12_init_50 : decode cX12_init 50 = .ok (.sipush 11440, 3) := by decide +kernel
theorem dX12_init_49 : decode cX12_init 49 = .ok (.aload_n 0, 1) := by decide +kernel
theorem dX12_init_53 : decode cX12_init 53 = .ok (.newarray .int, 2) := by decide +kernel
theorem dX12_init_55 : decode cX12_init 55 = .ok (.putfield 26, 3) := by decide +kernel
set_option maxRecDepth 20000 in
theorem in_5 (d : Nat) {b n n2 : Nat} {P0 PF : PH} (hn2 : 11440 + n = n2) (kk : Wp (d + 1) m_X12_init 58 (ovK b 6 P0) (b + 1 + 6) [(0, .ref b)] [] (none, PF, b + 56, n)) : Wp (d + 1) m_X12_init 49 (ovK b 5 P0) (b + 1 + 5) [(0, .ref b)] [] (none, PF, b + 56, n2) := by
  subst hn2
  refine wp_aload_n dX12_init_49 rfl 0 rfl ?_
  refine wp_sipush (v := iI 11440) dX12_init_50 (iI_16 (by decide)) ?_
  refine wp_newa (atype := .int) (tc := 0) (N := 11440) (a0 := (11440, .inl (fun _ => 0))) (o := (none, PF, b + 56, n)) dX12_init_53 arC_int rfl (fun cA => rfl) (iI_n_lt (b := 0) ⟨by omega, by omega⟩ inR_0 (by omega)) (by rw [iI_nat (by omega) (by omega)]; rfl) (by show 11440 * 4 ≤ 536870912; omega) (by show b + 1 + 5 + 1 ≤ b + 56; omega) ?_
  refine wp_putF (ci := 12) (k := 7) (fs := mFk b 5) tyX12 tyX12_ok nmX12 dX12_init_55 rfl lay_12 (by decide) fl12_26 rfl rfl rfl (tyX12_ok 7 (by decide)) rfl rfl ovK_b ?_
  rw [ovK_step (b := b) (k := 5) (P0 := P0) (e := .inl (0, 11440, .inl (fun _ => 0))) (Y := (mFk b 5).set 7 (.ref (b + 1 + 5))) rfl rfl]
  exact kk
theorem dX12_init_59 : decode cX12_init 59 = .ok (.sipush 11440, 3) := by decide +kernel
theorem dX12_init_58 : decode cX12_init 58 = .ok (.aload_n 0, 1) := by decide +kernel
theorem dX12_init_62 : decode cX12_init 62 = .ok (.newarray .int, 2) := by decide +kernel
theorem dX12_init_64 : decode cX12_init 64 = .ok (.putfield 29, 3) := by decide +kernel
set_option maxRecDepth 20000 in
theorem in_6 (d : Nat) {b n n2 : Nat} {P0 PF : PH} (hn2 : 11440 + n = n2) (kk : Wp (d + 1) m_X12_init 67 (ovK b 7 P0) (b + 1 + 7) [(0, .ref b)] [] (none, PF, b + 56, n)) : Wp (d + 1) m_X12_init 58 (ovK b 6 P0) (b + 1 + 6) [(0, .ref b)] [] (none, PF, b + 56, n2) := by
  subst hn2
  refine wp_aload_n dX12_init_58 rfl 0 rfl ?_
  refine wp_sipush (v := iI 11440) dX12_init_59 (iI_16 (by decide)) ?_
  refine wp_newa (atype := .int) (tc := 0) (N := 11440) (a0 := (11440, .inl (fun _ => 0))) (o := (none, PF, b + 56, n)) dX12_init_62 arC_int rfl (fun cA => rfl) (iI_n_lt (b := 0) ⟨by omega, by omega⟩ inR_0 (by omega)) (by rw [iI_nat (by omega) (by omega)]; rfl) (by show 11440 * 4 ≤ 536870912; omega) (by show b + 1 + 6 + 1 ≤ b + 56; omega) ?_
  refine wp_putF (ci := 12) (k := 8) (fs := mFk b 6) tyX12 tyX12_ok nmX12 dX12_init_64 rfl lay_12 (by decide) fl12_29 rfl rfl rfl (tyX12_ok 8 (by decide)) rfl rfl ovK_b ?_
  rw [ovK_step (b := b) (k := 6) (P0 := P0) (e := .inl (0, 11440, .inl (fun _ => 0))) (Y := (mFk b 6).set 8 (.ref (b + 1 + 6))) rfl rfl]
  exact kk
theorem dX12_init_68 : decode cX12_init 68 = .ok (.bipush 13, 2) := by decide +kernel
theorem dX12_init_67 : decode cX12_init 67 = .ok (.aload_n 0, 1) := by decide +kernel
theorem dX12_init_70 : decode cX12_init 70 = .ok (.newarray .int, 2) := by decide +kernel
theorem dX12_init_72 : decode cX12_init 72 = .ok (.putfield 32, 3) := by decide +kernel
set_option maxRecDepth 20000 in
theorem in_7 (d : Nat) {b n n2 : Nat} {P0 PF : PH} (hn2 : 13 + n = n2) (kk : Wp (d + 1) m_X12_init 75 (ovK b 8 P0) (b + 1 + 8) [(0, .ref b)] [] (none, PF, b + 56, n)) : Wp (d + 1) m_X12_init 67 (ovK b 7 P0) (b + 1 + 7) [(0, .ref b)] [] (none, PF, b + 56, n2) := by
  subst hn2
  refine wp_aload_n dX12_init_67 rfl 0 rfl ?_
  refine wp_bipush (v := iI 13) dX12_init_68 (iI_8 (by decide)) ?_
  refine wp_newa (atype := .int) (tc := 0) (N := 13) (a0 := (13, .inl (fun _ => 0))) (o := (none, PF, b + 56, n)) dX12_init_70 arC_int rfl (fun cA => rfl) (iI_n_lt (b := 0) ⟨by omega, by omega⟩ inR_0 (by omega)) (by rw [iI_nat (by omega) (by omega)]; rfl) (by show 13 * 4 ≤ 536870912; omega) (by show b + 1 + 7 + 1 ≤ b + 56; omega) ?_
  refine wp_putF (ci := 12) (k := 9) (fs := mFk b 7) tyX12 tyX12_ok nmX12 dX12_init_72 rfl lay_12 (by decide) fl12_32 rfl rfl rfl (tyX12_ok 9 (by decide)) rfl rfl ovK_b ?_
  rw [ovK_step (b := b) (k := 7) (P0 := P0) (e := .inl (0, 13, .inl (fun _ => 0))) (Y := (mFk b 7).set 9 (.ref (b + 1 + 7))) rfl rfl]
  exact kk
theorem dX12_init_76 : decode cX12_init 76 = .ok (.bipush 6, 2) := by decide +kernel
theorem dX12_init_75 : decode cX12_init 75 = .ok (.aload_n 0, 1) := by decide +kernel
theorem dX12_init_78 : decode cX12_init 78 = .ok (.newarray .int, 2) := by decide +kernel
theorem dX12_init_80 : decode cX12_init 80 = .ok (.putfield 35, 3) := by decide +kernel
set_option maxRecDepth 20000 in
theorem in_8 (d : Nat) {b n n2 : Nat} {P0 PF : PH} (hn2 : 6 + n = n2) (kk : Wp (d + 1) m_X12_init 83 (ovK b 9 P0) (b + 1 + 9) [(0, .ref b)] [] (none, PF, b + 56, n)) : Wp (d + 1) m_X12_init 75 (ovK b 8 P0) (b + 1 + 8) [(0, .ref b)] [] (none, PF, b + 56, n2) := by
  subst hn2
  refine wp_aload_n dX12_init_75 rfl 0 rfl ?_
  refine wp_bipush (v := iI 6) dX12_init_76 (iI_8 (by decide)) ?_
  refine wp_newa (atype := .int) (tc := 0) (N := 6) (a0 := (6, .inl (fun _ => 0))) (o := (none, PF, b + 56, n)) dX12_init_78 arC_int rfl (fun cA => rfl) (iI_n_lt (b := 0) ⟨by omega, by omega⟩ inR_0 (by omega)) (by rw [iI_nat (by omega) (by omega)]; rfl) (by show 6 * 4 ≤ 536870912; omega) (by show b + 1 + 8 + 1 ≤ b + 56; omega) ?_
  refine wp_putF (ci := 12) (k := 11) (fs := mFk b 8) tyX12 tyX12_ok nmX12 dX12_init_80 rfl lay_12 (by decide) fl12_35 rfl rfl rfl (tyX12_ok 11 (by decide)) rfl rfl ovK_b ?_
  rw [ovK_step (b := b) (k := 8) (P0 := P0) (e := .inl (0, 6, .inl (fun _ => 0))) (Y := (mFk b 8).set 11 (.ref (b + 1 + 8))) rfl rfl]
  exact kk
theorem dX12_init_84 : decode cX12_init 84 = .ok (.bipush 6, 2) := by decide +kernel
theorem dX12_init_83 : decode cX12_init 83 = .ok (.aload_n 0, 1) := by decide +kernel
theorem dX12_init_86 : decode cX12_init 86 = .ok (.newarray .int, 2) := by decide +kernel
theorem dX12_init_88 : decode cX12_init 88 = .ok (.putfield 38, 3) := by decide +kernel
set_option maxRecDepth 20000 in
theorem in_9 (d : Nat) {b n n2 : Nat} {P0 PF : PH} (hn2 : 6 + n = n2) (kk : Wp (d + 1) m_X12_init 91 (ovK b 10 P0) (b + 1 + 10) [(0, .ref b)] [] (none, PF, b + 56, n)) : Wp (d + 1) m_X12_init 83 (ovK b 9 P0) (b + 1 + 9) [(0, .ref b)] [] (none, PF, b + 56, n2) := by
  subst hn2
  refine wp_aload_n dX12_init_83 rfl 0 rfl ?_
  refine wp_bipush (v := iI 6) dX12_init_84 (iI_8 (by decide)) ?_
  refine wp_newa (atype := .int) (tc := 0) (N := 6) (a0 := (6, .inl (fun _ => 0))) (o := (none, PF, b + 56, n)) dX12_init_86 arC_int rfl (fun cA => rfl) (iI_n_lt (b := 0) ⟨by omega, by omega⟩ inR_0 (by omega)) (by rw [iI_nat (by omega) (by omega)]; rfl) (by show 6 * 4 ≤ 536870912; omega) (by show b + 1 + 9 + 1 ≤ b + 56; omega) ?_
  refine wp_putF (ci := 12) (k := 12) (fs := mFk b 9) tyX12 tyX12_ok nmX12 dX12_init_88 rfl lay_12 (by decide) fl12_38 rfl rfl rfl (tyX12_ok 12 (by decide)) rfl rfl ovK_b ?_
  rw [ovK_step (b := b) (k := 9) (P0 := P0) (e := .inl (0, 6, .inl (fun _ => 0))) (Y := (mFk b 9).set 12 (.ref (b + 1 + 9))) rfl rfl]
  exact kk
theorem dX12_init_92 : decode cX12_init 92 = .ok (.bipush 6, 2) := by decide +kernel
theorem dX12_init_91 : decode cX12_init 91 = .ok (.aload_n 0, 1) := by decide +kernel
theorem dX12_init_94 : decode cX12_init 94 = .ok (.newarray .int, 2) := by decide +kernel
theorem dX12_init_96 : decode cX12_init 96 = .ok (.putfield 41, 3) := by decide +kernel
set_option maxRecDepth 20000 in
theorem in_10 (d : Nat) {b n n2 : Nat} {P0 PF : PH} (hn2 : 6 + n = n2) (kk : Wp (d + 1) m_X12_init 99 (ovK b 11 P0) (b + 1 + 11) [(0, .ref b)] [] (none, PF, b + 56, n)) : Wp (d + 1) m_X12_init 91 (ovK b 10 P0) (b + 1 + 10) [(0, .ref b)] [] (none, PF, b + 56, n2) := by
  subst hn2
  refine wp_aload_n dX12_init_91 rfl 0 rfl ?_
  refine wp_bipush (v := iI 6) dX12_init_92 (iI_8 (by decide)) ?_
  refine wp_newa (atype := .int) (tc := 0) (N := 6) (a0 := (6, .inl (fun _ => 0))) (o := (none, PF, b + 56, n)) dX12_init_94 arC_int rfl (fun cA => rfl) (iI_n_lt (b := 0) ⟨by omega, by omega⟩ inR_0 (by omega)) (by rw [iI_nat (by omega) (by omega)]; rfl) (by show 6 * 4 ≤ 536870912; omega) (by show b + 1 + 10 + 1 ≤ b + 56; omega) ?_
  refine wp_putF (ci := 12) (k := 13) (fs := mFk b 10) tyX12 tyX12_ok nmX12 dX12_init_96 rfl lay_12 (by decide) fl12_41 rfl rfl rfl (tyX12_ok 13 (by decide)) rfl rfl ovK_b ?_
  rw [ovK_step (b := b) (k := 10) (P0 := P0) (e := .inl (0, 6, .inl (fun _ => 0))) (Y := (mFk b 10).set 13 (.ref (b + 1 + 10))) rfl rfl]
  exact kk
theorem dX12_init_100 : decode cX12_init 100 = .ok (.bipush 6, 2) := by decide +kernel
theorem dX12_init_99 : decode cX12_init 99 = .ok (.aload_n 0, 1) := by decide +kernel
theorem dX12_init_102 : decode cX12_init 102 = .ok (.newarray .int, 2) := by decide +kernel
theorem dX12_init_104 : decode cX12_init 104 = .ok (.putfield 44, 3) := by decide +kernel
set_option maxRecDepth 20000 in
theorem in_11 (d : Nat) {b n n2 : Nat} {P0 PF : PH} (hn2 : 6 + n = n2) (kk : Wp (d + 1) m_X12_init 107 (ovK b 12 P0) (b + 1 + 12) [(0, .ref b)] [] (none, PF, b + 56, n)) : Wp (d + 1) m_X12_init 99 (ovK b 11 P0) (b + 1 + 11) [(0, .ref b)] [] (none, PF, b + 56, n2) := by
  subst hn2
  refine wp_aload_n dX12_init_99 rfl 0 rfl ?_
  refine wp_bipush (v := iI 6) dX12_init_100 (iI_8 (by decide)) ?_
  refine wp_newa (atype := .int) (tc := 0) (N := 6) (a0 := (6, .inl (fun _ => 0))) (o := (none, PF, b + 56, n)) dX12_init_102 arC_int rfl (fun cA => rfl) (iI_n_lt (b := 0) ⟨by omega, by omega⟩ inR_0 (by omega)) (by rw [iI_nat (by omega) (by omega)]; rfl) (by show 6 * 4 ≤ 536870912; omega) (by show b + 1 + 11 + 1 ≤ b + 56; omega) ?_
  refine wp_putF (ci := 12) (k := 14) (fs := mFk b 11) tyX12 tyX12_ok nmX12 dX12_init_104 rfl lay_12 (by decide) fl12_44 rfl rfl rfl (tyX12_ok 14 (by decide)) rfl rfl ovK_b ?_
  rw [ovK_step (b := b) (k := 11) (P0 := P0) (e := .inl (0, 6, .inl (fun _ => 0))) (Y := (mFk b 11).set 14 (.ref (b + 1 + 11))) rfl rfl]
  exact kk
theorem dX12_init_108 : decode cX12_init 108 = .ok (.bipush 72, 2) := by decide +kernel
theorem dX12_init_107 : decode cX12_init 107 = .ok (.aload_n 0, 1) := by decide +kernel
theorem dX12_init_110 : decode cX12_init 110 = .ok (.newarray .int, 2) := by decide +kernel
theorem dX12_init_112 : decode cX12_init 112 = .ok (.putfield 47, 3) := by decide +kernel
set_option maxRecDepth 20000 in
theorem in_12 (d : Nat) {b n n2 : Nat} {P0 PF : PH} (hn2 : 72 + n = n2) (kk : Wp (d + 1) m_X12_init 115 (ovK b 13 P0) (b + 1 + 13) [(0, .ref b)] [] (none, PF, b + 56, n)) : Wp (d + 1) m_X12_init 107 (ovK b 12 P0) (b + 1 + 12) [(0, .ref b)] [] (none, PF, b + 56, n2) := by
  subst hn2
  refine wp_aload_n dX12_init_107 rfl 0 rfl ?_
  refine wp_bipush (v := iI 72) dX12_init_108 (iI_8 (by decide)) ?_
  refine wp_newa (atype := .int) (tc := 0) (N := 72) (a0 := (72, .inl (fun _ => 0))) (o := (none, PF, b + 56, n)) dX12_init_110 arC_int rfl (fun cA => rfl) (iI_n_lt (b := 0) ⟨by omega, by omega⟩ inR_0 (by omega)) (by rw [iI_nat (by omega) (by omega)]; rfl) (by show 72 * 4 ≤ 536870912; omega) (by show b + 1 + 12 + 1 ≤ b + 56; omega) ?_
  refine wp_putF (ci := 12) (k := 15) (fs := mFk b 12) tyX12 tyX12_ok nmX12 dX12_init_112 rfl lay_12 (by decide) fl12_47 rfl rfl rfl (tyX12_ok 15 (by decide)) rfl rfl ovK_b ?_
  rw [ovK_step (b := b) (k := 12) (P0 := P0) (e := .inl (0, 72, .inl (fun _ => 0))) (Y := (mFk b 12).set 15 (.ref (b + 1 + 12))) rfl rfl]
  exact kk
theorem dX12_init_116 : decode cX12_init 116 = .ok (.bipush 72, 2) := by decide +kernel
theorem dX12_init_115 : decode cX12_init 115 = .ok (.aload_n 0, 1) := by decide +kernel
theorem dX12_init_118 : decode cX12_init 118 = .ok (.newarray .int, 2) := by decide +kernel
theorem dX12_init_120 : decode cX12_init 120 = .ok (.putfield 50, 3) := by decide +kernel
set_option maxRecDepth 20000 in
theorem in_13 (d : Nat) {b n n2 : Nat} {P0 PF : PH} (hn2 : 72 + n = n2) (kk : Wp (d + 1) m_X12_init 123 (ovK b 14 P0) (b + 1 + 14) [(0, .ref b)] [] (none, PF, b + 56, n)) : Wp (d + 1) m_X12_init 115 (ovK b 13 P0) (b + 1 + 13) [(0, .ref b)] [] (none, PF, b + 56, n2) := by
  subst hn2
  refine wp_aload_n dX12_init_115 rfl 0 rfl ?_
  refine wp_bipush (v := iI 72) dX12_init_116 (iI_8 (by decide)) ?_
  refine wp_newa (atype := .int) (tc := 0) (N := 72) (a0 := (72, .inl (fun _ => 0))) (o := (none, PF, b + 56, n)) dX12_init_118 arC_int rfl (fun cA => rfl) (iI_n_lt (b := 0) ⟨by omega, by omega⟩ inR_0 (by omega)) (by rw [iI_nat (by omega) (by omega)]; rfl) (by show 72 * 4 ≤ 536870912; omega) (by show b + 1 + 13 + 1 ≤ b + 56; omega) ?_
  refine wp_putF (ci := 12) (k := 16) (fs := mFk b 13) tyX12 tyX12_ok nmX12 dX12_init_120 rfl lay_12 (by decide) fl12_50 rfl rfl rfl (tyX12_ok 16 (by decide)) rfl rfl ovK_b ?_
  rw [ovK_step (b := b) (k := 13) (P0 := P0) (e := .inl (0, 72, .inl (fun _ => 0))) (Y := (mFk b 13).set 16 (.ref (b + 1 + 13))) rfl rfl]
  exact kk
theorem dX12_init_124 : decode cX12_init 124 = .ok (.bipush 72, 2) := by decide +kernel
theorem dX12_init_123 : decode cX12_init 123 = .ok (.aload_n 0, 1) := by decide +kernel
theorem dX12_init_126 : decode cX12_init 126 = .ok (.newarray .int, 2) := by decide +kernel
theorem dX12_init_128 : decode cX12_init 128 = .ok (.putfield 53, 3) := by decide +kernel
set_option maxRecDepth 20000 in
theorem in_14 (d : Nat) {b n n2 : Nat} {P0 PF : PH} (hn2 : 72 + n = n2) (kk : Wp (d + 1) m_X12_init 131 (ovK b 15 P0) (b + 1 + 15) [(0, .ref b)] [] (none, PF, b + 56, n)) : Wp (d + 1) m_X12_init 123 (ovK b 14 P0) (b + 1 + 14) [(0, .ref b)] [] (none, PF, b + 56, n2) := by
  subst hn2
  refine wp_aload_n dX12_init_123 rfl 0 rfl ?_
  refine wp_bipush (v := iI 72) dX12_init_124 (iI_8 (by decide)) ?_
  refine wp_newa (atype := .int) (tc := 0) (N := 72) (a0 := (72, .inl (fun _ => 0))) (o := (none, PF, b + 56, n)) dX12_init_126 arC_int rfl (fun cA => rfl) (iI_n_lt (b := 0) ⟨by omega, by omega⟩ inR_0 (by omega)) (by rw [iI_nat (by omega) (by omega)]; rfl) (by show 72 * 4 ≤ 536870912; omega) (by show b + 1 + 14 + 1 ≤ b + 56; omega) ?_
  refine wp_putF (ci := 12) (k := 17) (fs := mFk b 14) tyX12 tyX12_ok nmX12 dX12_init_128 rfl lay_12 (by decide) fl12_53 rfl rfl rfl (tyX12_ok 17 (by decide)) rfl rfl ovK_b ?_
  rw [ovK_step (b := b) (k := 14) (P0 := P0) (e := .inl (0, 72, .inl (fun _ => 0))) (Y := (mFk b 14).set 17 (.ref (b + 1 + 14))) rfl rfl]
  exact kk
theorem dX12_init_132 : decode cX12_init 132 = .ok (.sipush 864, 3) := by decide +kernel
theorem dX12_init_131 : decode cX12_init 131 = .ok (.aload_n 0, 1) := by decide +kernel
theorem dX12_init_135 : decode cX12_init 135 = .ok (.newarray .int, 2) := by decide +kernel
theorem dX12_init_137 : decode cX12_init 137 = .ok (.putfield 56, 3) := by decide +kernel
set_option maxRecDepth 20000 in
theorem in_15 (d : Nat) {b n n2 : Nat} {P0 PF : PH} (hn2 : 864 + n = n2) (kk : Wp (d + 1) m_X12_init 140 (ovK b 16 P0) (b + 1 + 16) [(0, .ref b)] [] (none, PF, b + 56, n)) : Wp (d + 1) m_X12_init 131 (ovK b 15 P0) (b + 1 + 15) [(0, .ref b)] [] (none, PF, b + 56, n2) := by
  subst hn2
  refine wp_aload_n dX12_init_131 rfl 0 rfl ?_
  refine wp_sipush (v := iI 864) dX12_init_132 (iI_16 (by decide)) ?_
  refine wp_newa (atype := .int) (tc := 0) (N := 864) (a0 := (864, .inl (fun _ => 0))) (o := (none, PF, b + 56, n)) dX12_init_135 arC_int rfl (fun cA => rfl) (iI_n_lt (b := 0) ⟨by omega, by omega⟩ inR_0 (by omega)) (by rw [iI_nat (by omega) (by omega)]; rfl) (by show 864 * 4 ≤ 536870912; omega) (by show b + 1 + 15 + 1 ≤ b + 56; omega) ?_
  refine wp_putF (ci := 12) (k := 18) (fs := mFk b 15) tyX12 tyX12_ok nmX12 dX12_init_137 rfl lay_12 (by decide) fl12_56 rfl rfl rfl (tyX12_ok 18 (by decide)) rfl rfl ovK_b ?_
  rw [ovK_step (b := b) (k := 15) (P0 := P0) (e := .inl (0, 864, .inl (fun _ => 0))) (Y := (mFk b 15).set 18 (.ref (b + 1 + 15))) rfl rfl]
  exact kk
theorem dX12_init_140 : decode cX12_init 140 = .ok (.aload_n 0, 1) := by decide +kernel
theorem dX12_init_141 : decode cX12_init 141 = .ok (.iconst (-1), 1) := by decide +kernel
theorem dX12_init_142 : decode cX12_init 142 = .ok (.putfield 59, 3) := by decide +kernel
theorem dX12_init_146 : decode cX12_init 146 = .ok (.bipush 6, 2) := by decide +kernel
theorem dX12_init_145 : decode cX12_init 145 = .ok (.aload_n 0, 1) := by decide +kernel
theorem dX12_init_148 : decode cX12_init 148 = .ok (.newarray .int, 2) := by decide +kernel
theorem dX12_init_150 : decode cX12_init 150 = .ok (.putfield 63, 3) := by decide +kernel
set_option maxRecDepth 20000 in
theorem in_16 (d : Nat) {b n n2 : Nat} {P0 PF : PH} (hn2 : 6 + n = n2) (kk : Wp (d + 1) m_X12_init 153 (ovK b 17 P0) (b + 1 + 17) [(0, .ref b)] [] (none, PF, b + 56, n)) : Wp (d + 1) m_X12_init 140 (ovK b 16 P0) (b + 1 + 16) [(0, .ref b)] [] (none, PF, b + 56, n2) := by
  subst hn2
  refine wp_aload_n dX12_init_140 rfl 0 rfl ?_
  refine wp_iconst (v := iI (-1)) dX12_init_141 rfl ?_
  refine wp_put (ci := 12) (k := 27) (fs := mFk b 16) tyX12 tyX12_ok nmX12 dX12_init_142 rfl lay_12 (by decide) fl12_59 rfl (tyX12_ok 27 (by decide)) rfl rfl (if_pos rfl) ?_
  refine wp_aload_n dX12_init_145 rfl 0 rfl ?_
  refine wp_bipush (v := iI 6) dX12_init_146 (iI_8 (by decide)) ?_
  refine wp_newa (atype := .int) (tc := 0) (N := 6) (a0 := (6, .inl (fun _ => 0))) (o := (none, PF, b + 56, n)) dX12_init_148 arC_int rfl (fun cA => rfl) (iI_n_lt (b := 0) ⟨by omega, by omega⟩ inR_0 (by omega)) (by rw [iI_nat (by omega) (by omega)]; rfl) (by show 6 * 4 ≤ 536870912; omega) (by show b + 1 + 16 + 1 ≤ b + 56; omega) ?_
  refine wp_putF (ci := 12) (k := 35) (fs := (mFk b 16).set 27 (.int (iI (-1)))) tyX12 tyX12_ok nmX12 dX12_init_150 rfl lay_12 (by decide) fl12_63 rfl rfl rfl (tyX12_ok 35 (by decide)) rfl rfl ovK_b3 ?_
  rw [pS_3 (by omega), ovK_step (b := b) (k := 16) (P0 := P0) (e := .inl (0, 6, .inl (fun _ => 0))) (Y := ((mFk b 16).set 27 (.int (iI (-1)))).set 35 (.ref (b + 1 + 16))) rfl rfl]
  exact kk
theorem dX12_init_154 : decode cX12_init 154 = .ok (.bipush 6, 2) := by decide +kernel
theorem dX12_init_153 : decode cX12_init 153 = .ok (.aload_n 0, 1) := by decide +kernel
theorem dX12_init_156 : decode cX12_init 156 = .ok (.newarray .int, 2) := by decide +kernel
theorem dX12_init_158 : decode cX12_init 158 = .ok (.putfield 66, 3) := by decide +kernel
set_option maxRecDepth 20000 in
theorem in_17 (d : Nat) {b n n2 : Nat} {P0 PF : PH} (hn2 : 6 + n = n2) (kk : Wp (d + 1) m_X12_init 161 (ovK b 18 P0) (b + 1 + 18) [(0, .ref b)] [] (none, PF, b + 56, n)) : Wp (d + 1) m_X12_init 153 (ovK b 17 P0) (b + 1 + 17) [(0, .ref b)] [] (none, PF, b + 56, n2) := by
  subst hn2
  refine wp_aload_n dX12_init_153 rfl 0 rfl ?_
  refine wp_bipush (v := iI 6) dX12_init_154 (iI_8 (by decide)) ?_
  refine wp_newa (atype := .int) (tc := 0) (N := 6) (a0 := (6, .inl (fun _ => 0))) (o := (none, PF, b + 56, n)) dX12_init_156 arC_int rfl (fun cA => rfl) (iI_n_lt (b := 0) ⟨by omega, by omega⟩ inR_0 (by omega)) (by rw [iI_nat (by omega) (by omega)]; rfl) (by show 6 * 4 ≤ 536870912; omega) (by show b + 1 + 17 + 1 ≤ b + 56; omega) ?_
  refine wp_putF (ci := 12) (k := 36) (fs := mFk b 17) tyX12 tyX12_ok nmX12 dX12_init_158 rfl lay_12 (by decide) fl12_66 rfl rfl rfl (tyX12_ok 36 (by decide)) rfl rfl ovK_b ?_
  rw [ovK_step (b := b) (k := 17) (P0 := P0) (e := .inl (0, 6, .inl (fun _ => 0))) (Y := (mFk b 17).set 36 (.ref (b + 1 + 17))) rfl rfl]
  exact kk
theorem dX12_init_162 : decode cX12_init 162 = .ok (.bipush 6, 2) := by decide +kernel
theorem dX12_init_161 : decode cX12_init 161 = .ok (.aload_n 0, 1) := by decide +kernel
theorem dX12_init_164 : decode cX12_init 164 = .ok (.newarray .int, 2) := by decide +kernel
theorem dX12_init_166 : decode cX12_init 166 = .ok (.putfield 69, 3) := by decide +kernel
set_option maxRecDepth 20000 in
theorem in_18 (d : Nat) {b n n2 : Nat} {P0 PF : PH} (hn2 : 6 + n = n2) (kk : Wp (d + 1) m_X12_init 169 (ovK b 19 P0) (b + 1 + 19) [(0, .ref b)] [] (none, PF, b + 56, n)) : Wp (d + 1) m_X12_init 161 (ovK b 18 P0) (b + 1 + 18) [(0, .ref b)] [] (none, PF, b + 56, n2) := by
  subst hn2
  refine wp_aload_n dX12_init_161 rfl 0 rfl ?_
  refine wp_bipush (v := iI 6) dX12_init_162 (iI_8 (by decide)) ?_
  refine wp_newa (atype := .int) (tc := 0) (N := 6) (a0 := (6, .inl (fun _ => 0))) (o := (none, PF, b + 56, n)) dX12_init_164 arC_int rfl (fun cA => rfl) (iI_n_lt (b := 0) ⟨by omega, by omega⟩ inR_0 (by omega)) (by rw [iI_nat (by omega) (by omega)]; rfl) (by show 6 * 4 ≤ 536870912; omega) (by show b + 1 + 18 + 1 ≤ b + 56; omega) ?_
  refine wp_putF (ci := 12) (k := 37) (fs := mFk b 18) tyX12 tyX12_ok nmX12 dX12_init_166 rfl lay_12 (by decide) fl12_69 rfl rfl rfl (tyX12_ok 37 (by decide)) rfl rfl ovK_b ?_
  rw [ovK_step (b := b) (k := 18) (P0 := P0) (e := .inl (0, 6, .inl (fun _ => 0))) (Y := (mFk b 18).set 37 (.ref (b + 1 + 18))) rfl rfl]
  exact kk
theorem dX12_init_170 : decode cX12_init 170 = .ok (.bipush 72, 2) := by decide +kernel
theorem dX12_init_169 : decode cX12_init 169 = .ok (.aload_n 0, 1) := by decide +kernel
theorem dX12_init_172 : decode cX12_init 172 = .ok (.newarray .long, 2) := by decide +kernel
theorem dX12_init_174 : decode cX12_init 174 = .ok (.putfield 72, 3) := by decide +kernel
set_option maxRecDepth 20000 in
theorem in_19 (d : Nat) {b n n2 : Nat} {P0 PF : PH} (hn2 : 72 + n = n2) (kk : Wp (d + 1) m_X12_init 177 (ovK b 20 P0) (b + 1 + 20) [(0, .ref b)] [] (none, PF, b + 56, n)) : Wp (d + 1) m_X12_init 169 (ovK b 19 P0) (b + 1 + 19) [(0, .ref b)] [] (none, PF, b + 56, n2) := by
  subst hn2
  refine wp_aload_n dX12_init_169 rfl 0 rfl ?_
  refine wp_bipush (v := iI 72) dX12_init_170 (iI_8 (by decide)) ?_
  refine wp_newa (atype := .long) (tc := 3) (N := 72) (a0 := (72, .inr (.inl (fun _ => 0)))) (o := (none, PF, b + 56, n)) dX12_init_172 arC_long rfl (fun cA => rfl) (iI_n_lt (b := 0) ⟨by omega, by omega⟩ inR_0 (by omega)) (by rw [iI_nat (by omega) (by omega)]; rfl) (by show 72 * 8 ≤ 536870912; omega) (by show b + 1 + 19 + 1 ≤ b + 56; omega) ?_
  refine wp_putF (ci := 12) (k := 38) (fs := mFk b 19) tyX12 tyX12_ok nmX12 dX12_init_174 rfl lay_12 (by decide) fl12_72 rfl rfl rfl (tyX12_ok 38 (by decide)) rfl rfl ovK_b ?_
  rw [ovK_step (b := b) (k := 19) (P0 := P0) (e := .inl (3, 72, .inr (.inl (fun _ => 0)))) (Y := (mFk b 19).set 38 (.ref (b + 1 + 19))) rfl rfl]
  exact kk
theorem dX12_init_178 : decode cX12_init 178 = .ok (.iconst 4, 1) := by decide +kernel
theorem dX12_init_177 : decode cX12_init 177 = .ok (.aload_n 0, 1) := by decide +kernel
theorem dX12_init_179 : decode cX12_init 179 = .ok (.newarray .int, 2) := by decide +kernel
theorem dX12_init_181 : decode cX12_init 181 = .ok (.putfield 76, 3) := by decide +kernel
set_option maxRecDepth 20000 in
theorem in_20 (d : Nat) {b n n2 : Nat} {P0 PF : PH} (hn2 : 4 + n = n2) (kk : Wp (d + 1) m_X12_init 184 (ovK b 21 P0) (b + 1 + 21) [(0, .ref b)] [] (none, PF, b + 56, n)) : Wp (d + 1) m_X12_init 177 (ovK b 20 P0) (b + 1 + 20) [(0, .ref b)] [] (none, PF, b + 56, n2) := by
  subst hn2
  refine wp_aload_n dX12_init_177 rfl 0 rfl ?_
  refine wp_iconst (v := iI 4) dX12_init_178 rfl ?_
  refine wp_newa (atype := .int) (tc := 0) (N := 4) (a0 := (4, .inl (fun _ => 0))) (o := (none, PF, b + 56, n)) dX12_init_179 arC_int rfl (fun cA => rfl) (iI_n_lt (b := 0) ⟨by omega, by omega⟩ inR_0 (by omega)) (by rw [iI_nat (by omega) (by omega)]; rfl) (by show 4 * 4 ≤ 536870912; omega) (by show b + 1 + 20 + 1 ≤ b + 56; omega) ?_
  refine wp_putF (ci := 12) (k := 41) (fs := mFk b 20) tyX12 tyX12_ok nmX12 dX12_init_181 rfl lay_12 (by decide) fl12_76 rfl rfl rfl (tyX12_ok 41 (by decide)) rfl rfl ovK_b ?_
  rw [ovK_step (b := b) (k := 20) (P0 := P0) (e := .inl (0, 4, .inl (fun _ => 0))) (Y := (mFk b 20).set 41 (.ref (b + 1 + 20))) rfl rfl]
  exact kk
theorem dX12_init_185 : decode cX12_init 185 = .ok (.iconst 4, 1) := by decide +kernel
theorem dX12_init_184 : decode cX12_init 184 = .ok (.aload_n 0, 1) := by decide +kernel
theorem dX12_init_186 : decode cX12_init 186 = .ok (.newarray .int, 2) := by decide +kernel
theorem dX12_init_188 : decode cX12_init 188 = .ok (.putfield 79, 3) := by decide +kernel
set_option maxRecDepth 20000 in
theorem in_21 (d : Nat) {b n n2 : Nat} {P0 PF : PH} (hn2 : 4 + n = n2) (kk : Wp (d + 1) m_X12_init 191 (ovK b 22 P0) (b + 1 + 22) [(0, .ref b)] [] (none, PF, b + 56, n)) : Wp (d + 1) m_X12_init 184 (ovK b 21 P0) (b + 1 + 21) [(0, .ref b)] [] (none, PF, b + 56, n2) := by
  subst hn2
  refine wp_aload_n dX12_init_184 rfl 0 rfl ?_
  refine wp_iconst (v := iI 4) dX12_init_185 rfl ?_
  refine wp_newa (atype := .int) (tc := 0) (N := 4) (a0 := (4, .inl (fun _ => 0))) (o := (none, PF, b + 56, n)) dX12_init_186 arC_int rfl (fun cA => rfl) (iI_n_lt (b := 0) ⟨by omega, by omega⟩ inR_0 (by omega)) (by rw [iI_nat (by omega) (by omega)]; rfl) (by show 4 * 4 ≤ 536870912; omega) (by show b + 1 + 21 + 1 ≤ b + 56; omega) ?_
  refine wp_putF (ci := 12) (k := 42) (fs := mFk b 21) tyX12 tyX12_ok nmX12 dX12_init_188 rfl lay_12 (by decide) fl12_79 rfl rfl rfl (tyX12_ok 42 (by decide)) rfl rfl ovK_b ?_
  rw [ovK_step (b := b) (k := 21) (P0 := P0) (e := .inl (0, 4, .inl (fun _ => 0))) (Y := (mFk b 21).set 42 (.ref (b + 1 + 21))) rfl rfl]
  exact kk
theorem dX12_init_192 : decode cX12_init 192 = .ok (.sipush 260, 3) := by decide +kernel
theorem dX12_init_191 : decode cX12_init 191 = .ok (.aload_n 0, 1) := by decide +kernel
theorem dX12_init_195 : decode cX12_init 195 = .ok (.newarray .long, 2) := by decide +kernel
theorem dX12_init_197 : decode cX12_init 197 = .ok (.putfield 82, 3) := by decide +kernel
set_option maxRecDepth 20000 in
theorem in_22 (d : Nat) {b n n2 : Nat} {P0 PF : PH} (hn2 : 260 + n = n2) (kk : Wp (d + 1) m_X12_init 200 (ovK b 23 P0) (b + 1 + 23) [(0, .ref b)] [] (none, PF, b + 56, n)) : Wp (d + 1) m_X12_init 191 (ovK b 22 P0) (b + 1 + 22) [(0, .ref b)] [] (none, PF, b + 56, n2) := by
  subst hn2
  refine wp_aload_n dX12_init_191 rfl 0 rfl ?_
  refine wp_sipush (v := iI 260) dX12_init_192 (iI_16 (by decide)) ?_
  refine wp_newa (atype := .long) (tc := 3) (N := 260) (a0 := (260, .inr (.inl (fun _ => 0)))) (o := (none, PF, b + 56, n)) dX12_init_195 arC_long rfl (fun cA => rfl) (iI_n_lt (b := 0) ⟨by omega, by omega⟩ inR_0 (by omega)) (by rw [iI_nat (by omega) (by omega)]; rfl) (by show 260 * 8 ≤ 536870912; omega) (by show b + 1 + 22 + 1 ≤ b + 56; omega) ?_
  refine wp_putF (ci := 12) (k := 44) (fs := mFk b 22) tyX12 tyX12_ok nmX12 dX12_init_197 rfl lay_12 (by decide) fl12_82 rfl rfl rfl (tyX12_ok 44 (by decide)) rfl rfl ovK_b ?_
  rw [ovK_step (b := b) (k := 22) (P0 := P0) (e := .inl (3, 260, .inr (.inl (fun _ => 0)))) (Y := (mFk b 22).set 44 (.ref (b + 1 + 22))) rfl rfl]
  exact kk
theorem dX12_init_201 : decode cX12_init 201 = .ok (.sipush 260, 3) := by decide +kernel
theorem dX12_init_200 : decode cX12_init 200 = .ok (.aload_n 0, 1) := by decide +kernel
theorem dX12_init_204 : decode cX12_init 204 = .ok (.newarray .int, 2) := by decide +kernel
theorem dX12_init_206 : decode cX12_init 206 = .ok (.putfield 85, 3) := by decide +kernel
set_option maxRecDepth 20000 in
theorem in_23 (d : Nat) {b n n2 : Nat} {P0 PF : PH} (hn2 : 260 + n = n2) (kk : Wp (d + 1) m_X12_init 209 (ovK b 24 P0) (b + 1 + 24) [(0, .ref b)] [] (none, PF, b + 56, n)) : Wp (d + 1) m_X12_init 200 (ovK b 23 P0) (b + 1 + 23) [(0, .ref b)] [] (none, PF, b + 56, n2) := by
  subst hn2
  refine wp_aload_n dX12_init_200 rfl 0 rfl ?_
  refine wp_sipush (v := iI 260) dX12_init_201 (iI_16 (by decide)) ?_
  refine wp_newa (atype := .int) (tc := 0) (N := 260) (a0 := (260, .inl (fun _ => 0))) (o := (none, PF, b + 56, n)) dX12_init_204 arC_int rfl (fun cA => rfl) (iI_n_lt (b := 0) ⟨by omega, by omega⟩ inR_0 (by omega)) (by rw [iI_nat (by omega) (by omega)]; rfl) (by show 260 * 4 ≤ 536870912; omega) (by show b + 1 + 23 + 1 ≤ b + 56; omega) ?_
  refine wp_putF (ci := 12) (k := 45) (fs := mFk b 23) tyX12 tyX12_ok nmX12 dX12_init_206 rfl lay_12 (by decide) fl12_85 rfl rfl rfl (tyX12_ok 45 (by decide)) rfl rfl ovK_b ?_
  rw [ovK_step (b := b) (k := 23) (P0 := P0) (e := .inl (0, 260, .inl (fun _ => 0))) (Y := (mFk b 23).set 45 (.ref (b + 1 + 23))) rfl rfl]
  exact kk
theorem dX12_init_210 : decode cX12_init 210 = .ok (.sipush 4096, 3) := by decide +kernel
theorem dX12_init_209 : decode cX12_init 209 = .ok (.aload_n 0, 1) := by decide +kernel
theorem dX12_init_213 : decode cX12_init 213 = .ok (.newarray .int, 2) := by decide +kernel
theorem dX12_init_215 : decode cX12_init 215 = .ok (.putfield 88, 3) := by decide +kernel
set_option maxRecDepth 20000 in
theorem in_24 (d : Nat) {b n n2 : Nat} {P0 PF : PH} (hn2 : 4096 + n = n2) (kk : Wp (d + 1) m_X12_init 218 (ovK b 25 P0) (b + 1 + 25) [(0, .ref b)] [] (none, PF, b + 56, n)) : Wp (d + 1) m_X12_init 209 (ovK b 24 P0) (b + 1 + 24) [(0, .ref b)] [] (none, PF, b + 56, n2) := by
  subst hn2
  refine wp_aload_n dX12_init_209 rfl 0 rfl ?_
  refine wp_sipush (v := iI 4096) dX12_init_210 (iI_16 (by decide)) ?_
  refine wp_newa (atype := .int) (tc := 0) (N := 4096) (a0 := (4096, .inl (fun _ => 0))) (o := (none, PF, b + 56, n)) dX12_init_213 arC_int rfl (fun cA => rfl) (iI_n_lt (b := 0) ⟨by omega, by omega⟩ inR_0 (by omega)) (by rw [iI_nat (by omega) (by omega)]; rfl) (by show 4096 * 4 ≤ 536870912; omega) (by show b + 1 + 24 + 1 ≤ b + 56; omega) ?_
  refine wp_putF (ci := 12) (k := 46) (fs := mFk b 24) tyX12 tyX12_ok nmX12 dX12_init_215 rfl lay_12 (by decide) fl12_88 rfl rfl rfl (tyX12_ok 46 (by decide)) rfl rfl ovK_b ?_
  rw [ovK_step (b := b) (k := 24) (P0 := P0) (e := .inl (0, 4096, .inl (fun _ => 0))) (Y := (mFk b 24).set 46 (.ref (b + 1 + 24))) rfl rfl]
  exact kk
theorem dX12_init_219 : decode cX12_init 219 = .ok (.sipush 221, 3) := by decide +kernel
theorem dX12_init_218 : decode cX12_init 218 = .ok (.aload_n 0, 1) := by decide +kernel
theorem dX12_init_222 : decode cX12_init 222 = .ok (.newarray .boolean, 2) := by decide +kernel
theorem dX12_init_224 : decode cX12_init 224 = .ok (.putfield 91, 3) := by decide +kernel
set_option maxRecDepth 20000 in
theorem in_25 (d : Nat) {b n n2 : Nat} {P0 PF : PH} (hn2 : 221 + n = n2) (kk : Wp (d + 1) m_X12_init 227 (ovK b 26 P0) (b + 1 + 26) [(0, .ref b)] [] (none, PF, b + 56, n)) : Wp (d + 1) m_X12_init 218 (ovK b 25 P0) (b + 1 + 25) [(0, .ref b)] [] (none, PF, b + 56, n2) := by
  subst hn2
  refine wp_aload_n dX12_init_218 rfl 0 rfl ?_
  refine wp_sipush (v := iI 221) dX12_init_219 (iI_16 (by decide)) ?_
  refine wp_newa (atype := .boolean) (tc := 2) (N := 221) (a0 := (221, .inl (fun _ => 0))) (o := (none, PF, b + 56, n)) dX12_init_222 arC_boolean rfl (fun cA => rfl) (iI_n_lt (b := 0) ⟨by omega, by omega⟩ inR_0 (by omega)) (by rw [iI_nat (by omega) (by omega)]; rfl) (by show 221 * 1 ≤ 536870912; omega) (by show b + 1 + 25 + 1 ≤ b + 56; omega) ?_
  refine wp_putF (ci := 12) (k := 47) (fs := mFk b 25) tyX12 tyX12_ok nmX12 dX12_init_224 rfl lay_12 (by decide) fl12_91 rfl rfl rfl (tyX12_ok 47 (by decide)) rfl rfl ovK_b ?_
  rw [ovK_step (b := b) (k := 25) (P0 := P0) (e := .inl (2, 221, .inl (fun _ => 0))) (Y := (mFk b 25).set 47 (.ref (b + 1 + 25))) rfl rfl]
  exact kk
theorem dX12_init_228 : decode cX12_init 228 = .ok (.bipush 6, 2) := by decide +kernel
theorem dX12_init_227 : decode cX12_init 227 = .ok (.aload_n 0, 1) := by decide +kernel
theorem dX12_init_230 : decode cX12_init 230 = .ok (.newarray .boolean, 2) := by decide +kernel
theorem dX12_init_232 : decode cX12_init 232 = .ok (.putfield 95, 3) := by decide +kernel
set_option maxRecDepth 20000 in
theorem in_26 (d : Nat) {b n n2 : Nat} {P0 PF : PH} (hn2 : 6 + n = n2) (kk : Wp (d + 1) m_X12_init 235 (ovK b 27 P0) (b + 1 + 27) [(0, .ref b)] [] (none, PF, b + 56, n)) : Wp (d + 1) m_X12_init 227 (ovK b 26 P0) (b + 1 + 26) [(0, .ref b)] [] (none, PF, b + 56, n2) := by
  subst hn2
  refine wp_aload_n dX12_init_227 rfl 0 rfl ?_
  refine wp_bipush (v := iI 6) dX12_init_228 (iI_8 (by decide)) ?_
  refine wp_newa (atype := .boolean) (tc := 2) (N := 6) (a0 := (6, .inl (fun _ => 0))) (o := (none, PF, b + 56, n)) dX12_init_230 arC_boolean rfl (fun cA => rfl) (iI_n_lt (b := 0) ⟨by omega, by omega⟩ inR_0 (by omega)) (by rw [iI_nat (by omega) (by omega)]; rfl) (by show 6 * 1 ≤ 536870912; omega) (by show b + 1 + 26 + 1 ≤ b + 56; omega) ?_
  refine wp_putF (ci := 12) (k := 48) (fs := mFk b 26) tyX12 tyX12_ok nmX12 dX12_init_232 rfl lay_12 (by decide) fl12_95 rfl rfl rfl (tyX12_ok 48 (by decide)) rfl rfl ovK_b ?_
  rw [ovK_step (b := b) (k := 26) (P0 := P0) (e := .inl (2, 6, .inl (fun _ => 0))) (Y := (mFk b 26).set 48 (.ref (b + 1 + 26))) rfl rfl]
  exact kk
theorem cst12_98 : Cond.constant RX12 98 (190944) ∈ pWW := pw7 (List.mem_of_getElem? (i := 4) rfl) rfl
theorem dX12_init_236 : decode cX12_init 236 = .ok (.ldc 98, 2) := by decide +kernel
theorem dX12_init_235 : decode cX12_init 235 = .ok (.aload_n 0, 1) := by decide +kernel
theorem dX12_init_238 : decode cX12_init 238 = .ok (.newarray .int, 2) := by decide +kernel
theorem dX12_init_240 : decode cX12_init 240 = .ok (.putfield 99, 3) := by decide +kernel
set_option maxRecDepth 20000 in
theorem in_27 (d : Nat) {b n n2 : Nat} {P0 PF : PH} (hn2 : 190944 + n = n2) (kk : Wp (d + 1) m_X12_init 243 (ovK b 28 P0) (b + 1 + 28) [(0, .ref b)] [] (none, PF, b + 56, n)) : Wp (d + 1) m_X12_init 235 (ovK b 27 P0) (b + 1 + 27) [(0, .ref b)] [] (none, PF, b + 56, n2) := by
  subst hn2
  refine wp_aload_n dX12_init_235 rfl 0 rfl ?_
  refine wp_ldc (v := iI 190944) dX12_init_236 cst12_98 ?_
  refine wp_newa (atype := .int) (tc := 0) (N := 190944) (a0 := (190944, .inl (fun _ => 0))) (o := (none, PF, b + 56, n)) dX12_init_238 arC_int rfl (fun cA => rfl) (iI_n_lt (b := 0) ⟨by omega, by omega⟩ inR_0 (by omega)) (by rw [iI_nat (by omega) (by omega)]; rfl) (by show 190944 * 4 ≤ 536870912; omega) (by show b + 1 + 27 + 1 ≤ b + 56; omega) ?_
  refine wp_putF (ci := 12) (k := 49) (fs := mFk b 27) tyX12 tyX12_ok nmX12 dX12_init_240 rfl lay_12 (by decide) fl12_99 rfl rfl rfl (tyX12_ok 49 (by decide)) rfl rfl ovK_b ?_
  rw [ovK_step (b := b) (k := 27) (P0 := P0) (e := .inl (0, 190944, .inl (fun _ => 0))) (Y := (mFk b 27).set 49 (.ref (b + 1 + 27))) rfl rfl]
  exact kk
theorem dX12_init_244 : decode cX12_init 244 = .ok (.ldc 98, 2) := by decide +kernel
theorem dX12_init_243 : decode cX12_init 243 = .ok (.aload_n 0, 1) := by decide +kernel
theorem dX12_init_246 : decode cX12_init 246 = .ok (.newarray .int, 2) := by decide +kernel
theorem dX12_init_248 : decode cX12_init 248 = .ok (.putfield 102, 3) := by decide +kernel
set_option maxRecDepth 20000 in
theorem in_28 (d : Nat) {b n n2 : Nat} {P0 PF : PH} (hn2 : 190944 + n = n2) (kk : Wp (d + 1) m_X12_init 251 (ovK b 29 P0) (b + 1 + 29) [(0, .ref b)] [] (none, PF, b + 56, n)) : Wp (d + 1) m_X12_init 243 (ovK b 28 P0) (b + 1 + 28) [(0, .ref b)] [] (none, PF, b + 56, n2) := by
  subst hn2
  refine wp_aload_n dX12_init_243 rfl 0 rfl ?_
  refine wp_ldc (v := iI 190944) dX12_init_244 cst12_98 ?_
  refine wp_newa (atype := .int) (tc := 0) (N := 190944) (a0 := (190944, .inl (fun _ => 0))) (o := (none, PF, b + 56, n)) dX12_init_246 arC_int rfl (fun cA => rfl) (iI_n_lt (b := 0) ⟨by omega, by omega⟩ inR_0 (by omega)) (by rw [iI_nat (by omega) (by omega)]; rfl) (by show 190944 * 4 ≤ 536870912; omega) (by show b + 1 + 28 + 1 ≤ b + 56; omega) ?_
  refine wp_putF (ci := 12) (k := 50) (fs := mFk b 28) tyX12 tyX12_ok nmX12 dX12_init_248 rfl lay_12 (by decide) fl12_102 rfl rfl rfl (tyX12_ok 50 (by decide)) rfl rfl ovK_b ?_
  rw [ovK_step (b := b) (k := 28) (P0 := P0) (e := .inl (0, 190944, .inl (fun _ => 0))) (Y := (mFk b 28).set 50 (.ref (b + 1 + 28))) rfl rfl]
  exact kk
theorem dX12_init_252 : decode cX12_init 252 = .ok (.ldc 98, 2) := by decide +kernel
theorem dX12_init_251 : decode cX12_init 251 = .ok (.aload_n 0, 1) := by decide +kernel
theorem dX12_init_254 : decode cX12_init 254 = .ok (.newarray .int, 2) := by decide +kernel
theorem dX12_init_256 : decode cX12_init 256 = .ok (.putfield 105, 3) := by decide +kernel
set_option maxRecDepth 20000 in
theorem in_29 (d : Nat) {b n n2 : Nat} {P0 PF : PH} (hn2 : 190944 + n = n2) (kk : Wp (d + 1) m_X12_init 259 (ovK b 30 P0) (b + 1 + 30) [(0, .ref b)] [] (none, PF, b + 56, n)) : Wp (d + 1) m_X12_init 251 (ovK b 29 P0) (b + 1 + 29) [(0, .ref b)] [] (none, PF, b + 56, n2) := by
  subst hn2
  refine wp_aload_n dX12_init_251 rfl 0 rfl ?_
  refine wp_ldc (v := iI 190944) dX12_init_252 cst12_98 ?_
  refine wp_newa (atype := .int) (tc := 0) (N := 190944) (a0 := (190944, .inl (fun _ => 0))) (o := (none, PF, b + 56, n)) dX12_init_254 arC_int rfl (fun cA => rfl) (iI_n_lt (b := 0) ⟨by omega, by omega⟩ inR_0 (by omega)) (by rw [iI_nat (by omega) (by omega)]; rfl) (by show 190944 * 4 ≤ 536870912; omega) (by show b + 1 + 29 + 1 ≤ b + 56; omega) ?_
  refine wp_putF (ci := 12) (k := 51) (fs := mFk b 29) tyX12 tyX12_ok nmX12 dX12_init_256 rfl lay_12 (by decide) fl12_105 rfl rfl rfl (tyX12_ok 51 (by decide)) rfl rfl ovK_b ?_
  rw [ovK_step (b := b) (k := 29) (P0 := P0) (e := .inl (0, 190944, .inl (fun _ => 0))) (Y := (mFk b 29).set 51 (.ref (b + 1 + 29))) rfl rfl]
  exact kk
theorem dX12_init_260 : decode cX12_init 260 = .ok (.ldc 98, 2) := by decide +kernel
theorem dX12_init_259 : decode cX12_init 259 = .ok (.aload_n 0, 1) := by decide +kernel
theorem dX12_init_262 : decode cX12_init 262 = .ok (.newarray .int, 2) := by decide +kernel
theorem dX12_init_264 : decode cX12_init 264 = .ok (.putfield 108, 3) := by decide +kernel
set_option maxRecDepth 20000 in
theorem in_30 (d : Nat) {b n n2 : Nat} {P0 PF : PH} (hn2 : 190944 + n = n2) (kk : Wp (d + 1) m_X12_init 267 (ovK b 31 P0) (b + 1 + 31) [(0, .ref b)] [] (none, PF, b + 56, n)) : Wp (d + 1) m_X12_init 259 (ovK b 30 P0) (b + 1 + 30) [(0, .ref b)] [] (none, PF, b + 56, n2) := by
  subst hn2
  refine wp_aload_n dX12_init_259 rfl 0 rfl ?_
  refine wp_ldc (v := iI 190944) dX12_init_260 cst12_98 ?_
  refine wp_newa (atype := .int) (tc := 0) (N := 190944) (a0 := (190944, .inl (fun _ => 0))) (o := (none, PF, b + 56, n)) dX12_init_262 arC_int rfl (fun cA => rfl) (iI_n_lt (b := 0) ⟨by omega, by omega⟩ inR_0 (by omega)) (by rw [iI_nat (by omega) (by omega)]; rfl) (by show 190944 * 4 ≤ 536870912; omega) (by show b + 1 + 30 + 1 ≤ b + 56; omega) ?_
  refine wp_putF (ci := 12) (k := 52) (fs := mFk b 30) tyX12 tyX12_ok nmX12 dX12_init_264 rfl lay_12 (by decide) fl12_108 rfl rfl rfl (tyX12_ok 52 (by decide)) rfl rfl ovK_b ?_
  rw [ovK_step (b := b) (k := 30) (P0 := P0) (e := .inl (0, 190944, .inl (fun _ => 0))) (Y := (mFk b 30).set 52 (.ref (b + 1 + 30))) rfl rfl]
  exact kk
theorem dX12_init_268 : decode cX12_init 268 = .ok (.ldc 98, 2) := by decide +kernel
theorem dX12_init_267 : decode cX12_init 267 = .ok (.aload_n 0, 1) := by decide +kernel
theorem dX12_init_270 : decode cX12_init 270 = .ok (.newarray .int, 2) := by decide +kernel
theorem dX12_init_272 : decode cX12_init 272 = .ok (.putfield 111, 3) := by decide +kernel
set_option maxRecDepth 20000 in
theorem in_31 (d : Nat) {b n n2 : Nat} {P0 PF : PH} (hn2 : 190944 + n = n2) (kk : Wp (d + 1) m_X12_init 275 (ovK b 32 P0) (b + 1 + 32) [(0, .ref b)] [] (none, PF, b + 56, n)) : Wp (d + 1) m_X12_init 267 (ovK b 31 P0) (b + 1 + 31) [(0, .ref b)] [] (none, PF, b + 56, n2) := by
  subst hn2
  refine wp_aload_n dX12_init_267 rfl 0 rfl ?_
  refine wp_ldc (v := iI 190944) dX12_init_268 cst12_98 ?_
  refine wp_newa (atype := .int) (tc := 0) (N := 190944) (a0 := (190944, .inl (fun _ => 0))) (o := (none, PF, b + 56, n)) dX12_init_270 arC_int rfl (fun cA => rfl) (iI_n_lt (b := 0) ⟨by omega, by omega⟩ inR_0 (by omega)) (by rw [iI_nat (by omega) (by omega)]; rfl) (by show 190944 * 4 ≤ 536870912; omega) (by show b + 1 + 31 + 1 ≤ b + 56; omega) ?_
  refine wp_putF (ci := 12) (k := 53) (fs := mFk b 31) tyX12 tyX12_ok nmX12 dX12_init_272 rfl lay_12 (by decide) fl12_111 rfl rfl rfl (tyX12_ok 53 (by decide)) rfl rfl ovK_b ?_
  rw [ovK_step (b := b) (k := 31) (P0 := P0) (e := .inl (0, 190944, .inl (fun _ => 0))) (Y := (mFk b 31).set 53 (.ref (b + 1 + 31))) rfl rfl]
  exact kk
theorem dX12_init_276 : decode cX12_init 276 = .ok (.sipush 144, 3) := by decide +kernel
theorem dX12_init_275 : decode cX12_init 275 = .ok (.aload_n 0, 1) := by decide +kernel
theorem dX12_init_279 : decode cX12_init 279 = .ok (.newarray .int, 2) := by decide +kernel
theorem dX12_init_281 : decode cX12_init 281 = .ok (.putfield 114, 3) := by decide +kernel
set_option maxRecDepth 20000 in
theorem in_32 (d : Nat) {b n n2 : Nat} {P0 PF : PH} (hn2 : 144 + n = n2) (kk : Wp (d + 1) m_X12_init 284 (ovK b 33 P0) (b + 1 + 33) [(0, .ref b)] [] (none, PF, b + 56, n)) : Wp (d + 1) m_X12_init 275 (ovK b 32 P0) (b + 1 + 32) [(0, .ref b)] [] (none, PF, b + 56, n2) := by
  subst hn2
  refine wp_aload_n dX12_init_275 rfl 0 rfl ?_
  refine wp_sipush (v := iI 144) dX12_init_276 (iI_16 (by decide)) ?_
  refine wp_newa (atype := .int) (tc := 0) (N := 144) (a0 := (144, .inl (fun _ => 0))) (o := (none, PF, b + 56, n)) dX12_init_279 arC_int rfl (fun cA => rfl) (iI_n_lt (b := 0) ⟨by omega, by omega⟩ inR_0 (by omega)) (by rw [iI_nat (by omega) (by omega)]; rfl) (by show 144 * 4 ≤ 536870912; omega) (by show b + 1 + 32 + 1 ≤ b + 56; omega) ?_
  refine wp_putF (ci := 12) (k := 54) (fs := mFk b 32) tyX12 tyX12_ok nmX12 dX12_init_281 rfl lay_12 (by decide) fl12_114 rfl rfl rfl (tyX12_ok 54 (by decide)) rfl rfl ovK_b ?_
  rw [ovK_step (b := b) (k := 32) (P0 := P0) (e := .inl (0, 144, .inl (fun _ => 0))) (Y := (mFk b 32).set 54 (.ref (b + 1 + 32))) rfl rfl]
  exact kk
theorem dX12_init_285 : decode cX12_init 285 = .ok (.sipush 144, 3) := by decide +kernel
theorem dX12_init_284 : decode cX12_init 284 = .ok (.aload_n 0, 1) := by decide +kernel
theorem dX12_init_288 : decode cX12_init 288 = .ok (.newarray .int, 2) := by decide +kernel
theorem dX12_init_290 : decode cX12_init 290 = .ok (.putfield 117, 3) := by decide +kernel
set_option maxRecDepth 20000 in
theorem in_33 (d : Nat) {b n n2 : Nat} {P0 PF : PH} (hn2 : 144 + n = n2) (kk : Wp (d + 1) m_X12_init 293 (ovK b 34 P0) (b + 1 + 34) [(0, .ref b)] [] (none, PF, b + 56, n)) : Wp (d + 1) m_X12_init 284 (ovK b 33 P0) (b + 1 + 33) [(0, .ref b)] [] (none, PF, b + 56, n2) := by
  subst hn2
  refine wp_aload_n dX12_init_284 rfl 0 rfl ?_
  refine wp_sipush (v := iI 144) dX12_init_285 (iI_16 (by decide)) ?_
  refine wp_newa (atype := .int) (tc := 0) (N := 144) (a0 := (144, .inl (fun _ => 0))) (o := (none, PF, b + 56, n)) dX12_init_288 arC_int rfl (fun cA => rfl) (iI_n_lt (b := 0) ⟨by omega, by omega⟩ inR_0 (by omega)) (by rw [iI_nat (by omega) (by omega)]; rfl) (by show 144 * 4 ≤ 536870912; omega) (by show b + 1 + 33 + 1 ≤ b + 56; omega) ?_
  refine wp_putF (ci := 12) (k := 55) (fs := mFk b 33) tyX12 tyX12_ok nmX12 dX12_init_290 rfl lay_12 (by decide) fl12_117 rfl rfl rfl (tyX12_ok 55 (by decide)) rfl rfl ovK_b ?_
  rw [ovK_step (b := b) (k := 33) (P0 := P0) (e := .inl (0, 144, .inl (fun _ => 0))) (Y := (mFk b 33).set 55 (.ref (b + 1 + 33))) rfl rfl]
  exact kk
theorem dX12_init_294 : decode cX12_init 294 = .ok (.sipush 144, 3) := by decide +kernel
theorem dX12_init_293 : decode cX12_init 293 = .ok (.aload_n 0, 1) := by decide +kernel
theorem dX12_init_297 : decode cX12_init 297 = .ok (.newarray .int, 2) := by decide +kernel
theorem dX12_init_299 : decode cX12_init 299 = .ok (.putfield 120, 3) := by decide +kernel
set_option maxRecDepth 20000 in
theorem in_34 (d : Nat) {b n n2 : Nat} {P0 PF : PH} (hn2 : 144 + n = n2) (kk : Wp (d + 1) m_X12_init 302 (ovK b 35 P0) (b + 1 + 35) [(0, .ref b)] [] (none, PF, b + 56, n)) : Wp (d + 1) m_X12_init 293 (ovK b 34 P0) (b + 1 + 34) [(0, .ref b)] [] (none, PF, b + 56, n2) := by
  subst hn2
  refine wp_aload_n dX12_init_293 rfl 0 rfl ?_
  refine wp_sipush (v := iI 144) dX12_init_294 (iI_16 (by decide)) ?_
  refine wp_newa (atype := .int) (tc := 0) (N := 144) (a0 := (144, .inl (fun _ => 0))) (o := (none, PF, b + 56, n)) dX12_init_297 arC_int rfl (fun cA => rfl) (iI_n_lt (b := 0) ⟨by omega, by omega⟩ inR_0 (by omega)) (by rw [iI_nat (by omega) (by omega)]; rfl) (by show 144 * 4 ≤ 536870912; omega) (by show b + 1 + 34 + 1 ≤ b + 56; omega) ?_
  refine wp_putF (ci := 12) (k := 56) (fs := mFk b 34) tyX12 tyX12_ok nmX12 dX12_init_299 rfl lay_12 (by decide) fl12_120 rfl rfl rfl (tyX12_ok 56 (by decide)) rfl rfl ovK_b ?_
  rw [ovK_step (b := b) (k := 34) (P0 := P0) (e := .inl (0, 144, .inl (fun _ => 0))) (Y := (mFk b 34).set 56 (.ref (b + 1 + 34))) rfl rfl]
  exact kk
theorem dX12_init_303 : decode cX12_init 303 = .ok (.sipush 144, 3) := by decide +kernel
theorem dX12_init_302 : decode cX12_init 302 = .ok (.aload_n 0, 1) := by decide +kernel
theorem dX12_init_306 : decode cX12_init 306 = .ok (.newarray .int, 2) := by decide +kernel
theorem dX12_init_308 : decode cX12_init 308 = .ok (.putfield 123, 3) := by decide +kernel
set_option maxRecDepth 20000 in
theorem in_35 (d : Nat) {b n n2 : Nat} {P0 PF : PH} (hn2 : 144 + n = n2) (kk : Wp (d + 1) m_X12_init 311 (ovK b 36 P0) (b + 1 + 36) [(0, .ref b)] [] (none, PF, b + 56, n)) : Wp (d + 1) m_X12_init 302 (ovK b 35 P0) (b + 1 + 35) [(0, .ref b)] [] (none, PF, b + 56, n2) := by
  subst hn2
  refine wp_aload_n dX12_init_302 rfl 0 rfl ?_
  refine wp_sipush (v := iI 144) dX12_init_303 (iI_16 (by decide)) ?_
  refine wp_newa (atype := .int) (tc := 0) (N := 144) (a0 := (144, .inl (fun _ => 0))) (o := (none, PF, b + 56, n)) dX12_init_306 arC_int rfl (fun cA => rfl) (iI_n_lt (b := 0) ⟨by omega, by omega⟩ inR_0 (by omega)) (by rw [iI_nat (by omega) (by omega)]; rfl) (by show 144 * 4 ≤ 536870912; omega) (by show b + 1 + 35 + 1 ≤ b + 56; omega) ?_
  refine wp_putF (ci := 12) (k := 57) (fs := mFk b 35) tyX12 tyX12_ok nmX12 dX12_init_308 rfl lay_12 (by decide) fl12_123 rfl rfl rfl (tyX12_ok 57 (by decide)) rfl rfl ovK_b ?_
  rw [ovK_step (b := b) (k := 35) (P0 := P0) (e := .inl (0, 144, .inl (fun _ => 0))) (Y := (mFk b 35).set 57 (.ref (b + 1 + 35))) rfl rfl]
  exact kk
theorem dX12_init_312 : decode cX12_init 312 = .ok (.sipush 144, 3) := by decide +kernel
theorem dX12_init_311 : decode cX12_init 311 = .ok (.aload_n 0, 1) := by decide +kernel
theorem dX12_init_315 : decode cX12_init 315 = .ok (.newarray .int, 2) := by decide +kernel
theorem dX12_init_317 : decode cX12_init 317 = .ok (.putfield 126, 3) := by decide +kernel
set_option maxRecDepth 20000 in
theorem in_36 (d : Nat) {b n n2 : Nat} {P0 PF : PH} (hn2 : 144 + n = n2) (kk : Wp (d + 1) m_X12_init 320 (ovK b 37 P0) (b + 1 + 37) [(0, .ref b)] [] (none, PF, b + 56, n)) : Wp (d + 1) m_X12_init 311 (ovK b 36 P0) (b + 1 + 36) [(0, .ref b)] [] (none, PF, b + 56, n2) := by
  subst hn2
  refine wp_aload_n dX12_init_311 rfl 0 rfl ?_
  refine wp_sipush (v := iI 144) dX12_init_312 (iI_16 (by decide)) ?_
  refine wp_newa (atype := .int) (tc := 0) (N := 144) (a0 := (144, .inl (fun _ => 0))) (o := (none, PF, b + 56, n)) dX12_init_315 arC_int rfl (fun cA => rfl) (iI_n_lt (b := 0) ⟨by omega, by omega⟩ inR_0 (by omega)) (by rw [iI_nat (by omega) (by omega)]; rfl) (by show 144 * 4 ≤ 536870912; omega) (by show b + 1 + 36 + 1 ≤ b + 56; omega) ?_
  refine wp_putF (ci := 12) (k := 58) (fs := mFk b 36) tyX12 tyX12_ok nmX12 dX12_init_317 rfl lay_12 (by decide) fl12_126 rfl rfl rfl (tyX12_ok 58 (by decide)) rfl rfl ovK_b ?_
  rw [ovK_step (b := b) (k := 36) (P0 := P0) (e := .inl (0, 144, .inl (fun _ => 0))) (Y := (mFk b 36).set 58 (.ref (b + 1 + 36))) rfl rfl]
  exact kk
theorem cst12_129 : Cond.constant RX12 129 (42432) ∈ pWW := pw7 (List.mem_of_getElem? (i := 5) rfl) rfl
theorem dX12_init_321 : decode cX12_init 321 = .ok (.ldc 129, 2) := by decide +kernel
theorem dX12_init_320 : decode cX12_init 320 = .ok (.aload_n 0, 1) := by decide +kernel
theorem dX12_init_323 : decode cX12_init 323 = .ok (.newarray .boolean, 2) := by decide +kernel
theorem dX12_init_325 : decode cX12_init 325 = .ok (.putfield 130, 3) := by decide +kernel
set_option maxRecDepth 20000 in
theorem in_37 (d : Nat) {b n n2 : Nat} {P0 PF : PH} (hn2 : 42432 + n = n2) (kk : Wp (d + 1) m_X12_init 328 (ovK b 38 P0) (b + 1 + 38) [(0, .ref b)] [] (none, PF, b + 56, n)) : Wp (d + 1) m_X12_init 320 (ovK b 37 P0) (b + 1 + 37) [(0, .ref b)] [] (none, PF, b + 56, n2) := by
  subst hn2
  refine wp_aload_n dX12_init_320 rfl 0 rfl ?_
  refine wp_ldc (v := iI 42432) dX12_init_321 cst12_129 ?_
  refine wp_newa (atype := .boolean) (tc := 2) (N := 42432) (a0 := (42432, .inl (fun _ => 0))) (o := (none, PF, b + 56, n)) dX12_init_323 arC_boolean rfl (fun cA => rfl) (iI_n_lt (b := 0) ⟨by omega, by omega⟩ inR_0 (by omega)) (by rw [iI_nat (by omega) (by omega)]; rfl) (by show 42432 * 1 ≤ 536870912; omega) (by show b + 1 + 37 + 1 ≤ b + 56; omega) ?_
  refine wp_putF (ci := 12) (k := 59) (fs := mFk b 37) tyX12 tyX12_ok nmX12 dX12_init_325 rfl lay_12 (by decide) fl12_130 rfl rfl rfl (tyX12_ok 59 (by decide)) rfl rfl ovK_b ?_
  rw [ovK_step (b := b) (k := 37) (P0 := P0) (e := .inl (2, 42432, .inl (fun _ => 0))) (Y := (mFk b 37).set 59 (.ref (b + 1 + 37))) rfl rfl]
  exact kk
theorem dX12_init_329 : decode cX12_init 329 = .ok (.sipush 192, 3) := by decide +kernel
theorem dX12_init_328 : decode cX12_init 328 = .ok (.aload_n 0, 1) := by decide +kernel
theorem dX12_init_332 : decode cX12_init 332 = .ok (.newarray .int, 2) := by decide +kernel
theorem dX12_init_334 : decode cX12_init 334 = .ok (.putfield 133, 3) := by decide +kernel
set_option maxRecDepth 20000 in
theorem in_38 (d : Nat) {b n n2 : Nat} {P0 PF : PH} (hn2 : 192 + n = n2) (kk : Wp (d + 1) m_X12_init 337 (ovK b 39 P0) (b + 1 + 39) [(0, .ref b)] [] (none, PF, b + 56, n)) : Wp (d + 1) m_X12_init 328 (ovK b 38 P0) (b + 1 + 38) [(0, .ref b)] [] (none, PF, b + 56, n2) := by
  subst hn2
  refine wp_aload_n dX12_init_328 rfl 0 rfl ?_
  refine wp_sipush (v := iI 192) dX12_init_329 (iI_16 (by decide)) ?_
  refine wp_newa (atype := .int) (tc := 0) (N := 192) (a0 := (192, .inl (fun _ => 0))) (o := (none, PF, b + 56, n)) dX12_init_332 arC_int rfl (fun cA => rfl) (iI_n_lt (b := 0) ⟨by omega, by omega⟩ inR_0 (by omega)) (by rw [iI_nat (by omega) (by omega)]; rfl) (by show 192 * 4 ≤ 536870912; omega) (by show b + 1 + 38 + 1 ≤ b + 56; omega) ?_
  refine wp_putF (ci := 12) (k := 60) (fs := mFk b 38) tyX12 tyX12_ok nmX12 dX12_init_334 rfl lay_12 (by decide) fl12_133 rfl rfl rfl (tyX12_ok 60 (by decide)) rfl rfl ovK_b ?_
  rw [ovK_step (b := b) (k := 38) (P0 := P0) (e := .inl (0, 192, .inl (fun _ => 0))) (Y := (mFk b 38).set 60 (.ref (b + 1 + 38))) rfl rfl]
  exact kk
theorem dX12_init_338 : decode cX12_init 338 = .ok (.sipush 192, 3) := by decide +kernel
theorem dX12_init_337 : decode cX12_init 337 = .ok (.aload_n 0, 1) := by decide +kernel
theorem dX12_init_341 : decode cX12_init 341 = .ok (.newarray .int, 2) := by decide +kernel
theorem dX12_init_343 : decode cX12_init 343 = .ok (.putfield 136, 3) := by decide +kernel
set_option maxRecDepth 20000 in
theorem in_39 (d : Nat) {b n n2 : Nat} {P0 PF : PH} (hn2 : 192 + n = n2) (kk : Wp (d + 1) m_X12_init 346 (ovK b 40 P0) (b + 1 + 40) [(0, .ref b)] [] (none, PF, b + 56, n)) : Wp (d + 1) m_X12_init 337 (ovK b 39 P0) (b + 1 + 39) [(0, .ref b)] [] (none, PF, b + 56, n2) := by
  subst hn2
  refine wp_aload_n dX12_init_337 rfl 0 rfl ?_
  refine wp_sipush (v := iI 192) dX12_init_338 (iI_16 (by decide)) ?_
  refine wp_newa (atype := .int) (tc := 0) (N := 192) (a0 := (192, .inl (fun _ => 0))) (o := (none, PF, b + 56, n)) dX12_init_341 arC_int rfl (fun cA => rfl) (iI_n_lt (b := 0) ⟨by omega, by omega⟩ inR_0 (by omega)) (by rw [iI_nat (by omega) (by omega)]; rfl) (by show 192 * 4 ≤ 536870912; omega) (by show b + 1 + 39 + 1 ≤ b + 56; omega) ?_
  refine wp_putF (ci := 12) (k := 61) (fs := mFk b 39) tyX12 tyX12_ok nmX12 dX12_init_343 rfl lay_12 (by decide) fl12_136 rfl rfl rfl (tyX12_ok 61 (by decide)) rfl rfl ovK_b ?_
  rw [ovK_step (b := b) (k := 39) (P0 := P0) (e := .inl (0, 192, .inl (fun _ => 0))) (Y := (mFk b 39).set 61 (.ref (b + 1 + 39))) rfl rfl]
  exact kk
theorem dX12_init_347 : decode cX12_init 347 = .ok (.ldc 139, 2) := by decide +kernel
theorem dX12_init_346 : decode cX12_init 346 = .ok (.aload_n 0, 1) := by decide +kernel
theorem dX12_init_349 : decode cX12_init 349 = .ok (.newarray .boolean, 2) := by decide +kernel
theorem dX12_init_351 : decode cX12_init 351 = .ok (.putfield 140, 3) := by decide +kernel
set_option maxRecDepth 20000 in
theorem in_40 (d : Nat) {b n n2 : Nat} {P0 PF : PH} (hn2 : 36864 + n = n2) (kk : Wp (d + 1) m_X12_init 354 (ovK b 41 P0) (b + 1 + 41) [(0, .ref b)] [] (none, PF, b + 56, n)) : Wp (d + 1) m_X12_init 346 (ovK b 40 P0) (b + 1 + 40) [(0, .ref b)] [] (none, PF, b + 56, n2) := by
  subst hn2
  refine wp_aload_n dX12_init_346 rfl 0 rfl ?_
  refine wp_ldc (v := iI 36864) dX12_init_347 cst12_139 ?_
  refine wp_newa (atype := .boolean) (tc := 2) (N := 36864) (a0 := (36864, .inl (fun _ => 0))) (o := (none, PF, b + 56, n)) dX12_init_349 arC_boolean rfl (fun cA => rfl) (iI_n_lt (b := 0) ⟨by omega, by omega⟩ inR_0 (by omega)) (by rw [iI_nat (by omega) (by omega)]; rfl) (by show 36864 * 1 ≤ 536870912; omega) (by show b + 1 + 40 + 1 ≤ b + 56; omega) ?_
  refine wp_putF (ci := 12) (k := 63) (fs := mFk b 40) tyX12 tyX12_ok nmX12 dX12_init_351 rfl lay_12 (by decide) fl12_140 rfl rfl rfl (tyX12_ok 63 (by decide)) rfl rfl ovK_b ?_
  rw [ovK_step (b := b) (k := 40) (P0 := P0) (e := .inl (2, 36864, .inl (fun _ => 0))) (Y := (mFk b 40).set 63 (.ref (b + 1 + 40))) rfl rfl]
  exact kk
theorem dX12_init_355 : decode cX12_init 355 = .ok (.sipush 192, 3) := by decide +kernel
theorem dX12_init_354 : decode cX12_init 354 = .ok (.aload_n 0, 1) := by decide +kernel
theorem dX12_init_358 : decode cX12_init 358 = .ok (.newarray .int, 2) := by decide +kernel
theorem dX12_init_360 : decode cX12_init 360 = .ok (.putfield 143, 3) := by decide +kernel
set_option maxRecDepth 20000 in
theorem in_41 (d : Nat) {b n n2 : Nat} {P0 PF : PH} (hn2 : 192 + n = n2) (kk : Wp (d + 1) m_X12_init 363 (ovK b 42 P0) (b + 1 + 42) [(0, .ref b)] [] (none, PF, b + 56, n)) : Wp (d + 1) m_X12_init 354 (ovK b 41 P0) (b + 1 + 41) [(0, .ref b)] [] (none, PF, b + 56, n2) := by
  subst hn2
  refine wp_aload_n dX12_init_354 rfl 0 rfl ?_
  refine wp_sipush (v := iI 192) dX12_init_355 (iI_16 (by decide)) ?_
  refine wp_newa (atype := .int) (tc := 0) (N := 192) (a0 := (192, .inl (fun _ => 0))) (o := (none, PF, b + 56, n)) dX12_init_358 arC_int rfl (fun cA => rfl) (iI_n_lt (b := 0) ⟨by omega, by omega⟩ inR_0 (by omega)) (by rw [iI_nat (by omega) (by omega)]; rfl) (by show 192 * 4 ≤ 536870912; omega) (by show b + 1 + 41 + 1 ≤ b + 56; omega) ?_
  refine wp_putF (ci := 12) (k := 64) (fs := mFk b 41) tyX12 tyX12_ok nmX12 dX12_init_360 rfl lay_12 (by decide) fl12_143 rfl rfl rfl (tyX12_ok 64 (by decide)) rfl rfl ovK_b ?_
  rw [ovK_step (b := b) (k := 41) (P0 := P0) (e := .inl (0, 192, .inl (fun _ => 0))) (Y := (mFk b 41).set 64 (.ref (b + 1 + 41))) rfl rfl]
  exact kk
theorem dX12_init_364 : decode cX12_init 364 = .ok (.ldc 129, 2) := by decide +kernel
theorem dX12_init_363 : decode cX12_init 363 = .ok (.aload_n 0, 1) := by decide +kernel
theorem dX12_init_366 : decode cX12_init 366 = .ok (.newarray .int, 2) := by decide +kernel
theorem dX12_init_368 : decode cX12_init 368 = .ok (.putfield 146, 3) := by decide +kernel
set_option maxRecDepth 20000 in
theorem in_42 (d : Nat) {b n n2 : Nat} {P0 PF : PH} (hn2 : 42432 + n = n2) (kk : Wp (d + 1) m_X12_init 371 (ovK b 43 P0) (b + 1 + 43) [(0, .ref b)] [] (none, PF, b + 56, n)) : Wp (d + 1) m_X12_init 363 (ovK b 42 P0) (b + 1 + 42) [(0, .ref b)] [] (none, PF, b + 56, n2) := by
  subst hn2
  refine wp_aload_n dX12_init_363 rfl 0 rfl ?_
  refine wp_ldc (v := iI 42432) dX12_init_364 cst12_129 ?_
  refine wp_newa (atype := .int) (tc := 0) (N := 42432) (a0 := (42432, .inl (fun _ => 0))) (o := (none, PF, b + 56, n)) dX12_init_366 arC_int rfl (fun cA => rfl) (iI_n_lt (b := 0) ⟨by omega, by omega⟩ inR_0 (by omega)) (by rw [iI_nat (by omega) (by omega)]; rfl) (by show 42432 * 4 ≤ 536870912; omega) (by show b + 1 + 42 + 1 ≤ b + 56; omega) ?_
  refine wp_putF (ci := 12) (k := 65) (fs := mFk b 42) tyX12 tyX12_ok nmX12 dX12_init_368 rfl lay_12 (by decide) fl12_146 rfl rfl rfl (tyX12_ok 65 (by decide)) rfl rfl ovK_b ?_
  rw [ovK_step (b := b) (k := 42) (P0 := P0) (e := .inl (0, 42432, .inl (fun _ => 0))) (Y := (mFk b 42).set 65 (.ref (b + 1 + 42))) rfl rfl]
  exact kk
theorem dX12_init_372 : decode cX12_init 372 = .ok (.sipush 192, 3) := by decide +kernel
theorem dX12_init_371 : decode cX12_init 371 = .ok (.aload_n 0, 1) := by decide +kernel
theorem dX12_init_375 : decode cX12_init 375 = .ok (.newarray .int, 2) := by decide +kernel
theorem dX12_init_377 : decode cX12_init 377 = .ok (.putfield 149, 3) := by decide +kernel
set_option maxRecDepth 20000 in
theorem in_43 (d : Nat) {b n n2 : Nat} {P0 PF : PH} (hn2 : 192 + n = n2) (kk : Wp (d + 1) m_X12_init 380 (ovK b 44 P0) (b + 1 + 44) [(0, .ref b)] [] (none, PF, b + 56, n)) : Wp (d + 1) m_X12_init 371 (ovK b 43 P0) (b + 1 + 43) [(0, .ref b)] [] (none, PF, b + 56, n2) := by
  subst hn2
  refine wp_aload_n dX12_init_371 rfl 0 rfl ?_
  refine wp_sipush (v := iI 192) dX12_init_372 (iI_16 (by decide)) ?_
  refine wp_newa (atype := .int) (tc := 0) (N := 192) (a0 := (192, .inl (fun _ => 0))) (o := (none, PF, b + 56, n)) dX12_init_375 arC_int rfl (fun cA => rfl) (iI_n_lt (b := 0) ⟨by omega, by omega⟩ inR_0 (by omega)) (by rw [iI_nat (by omega) (by omega)]; rfl) (by show 192 * 4 ≤ 536870912; omega) (by show b + 1 + 43 + 1 ≤ b + 56; omega) ?_
  refine wp_putF (ci := 12) (k := 66) (fs := mFk b 43) tyX12 tyX12_ok nmX12 dX12_init_377 rfl lay_12 (by decide) fl12_149 rfl rfl rfl (tyX12_ok 66 (by decide)) rfl rfl ovK_b ?_
  rw [ovK_step (b := b) (k := 43) (P0 := P0) (e := .inl (0, 192, .inl (fun _ => 0))) (Y := (mFk b 43).set 66 (.ref (b + 1 + 43))) rfl rfl]
  exact kk
theorem dX12_init_381 : decode cX12_init 381 = .ok (.iconst 3, 1) := by decide +kernel
theorem dX12_init_380 : decode cX12_init 380 = .ok (.aload_n 0, 1) := by decide +kernel
theorem dX12_init_382 : decode cX12_init 382 = .ok (.newarray .int, 2) := by decide +kernel
theorem dX12_init_384 : decode cX12_init 384 = .ok (.putfield 152, 3) := by decide +kernel
set_option maxRecDepth 20000 in
theorem in_44 (d : Nat) {b n n2 : Nat} {P0 PF : PH} (hn2 : 3 + n = n2) (kk : Wp (d + 1) m_X12_init 387 (ovK b 45 P0) (b + 1 + 45) [(0, .ref b)] [] (none, PF, b + 56, n)) : Wp (d + 1) m_X12_init 380 (ovK b 44 P0) (b + 1 + 44) [(0, .ref b)] [] (none, PF, b + 56, n2) := by
  subst hn2
  refine wp_aload_n dX12_init_380 rfl 0 rfl ?_
  refine wp_iconst (v := iI 3) dX12_init_381 rfl ?_
  refine wp_newa (atype := .int) (tc := 0) (N := 3) (a0 := (3, .inl (fun _ => 0))) (o := (none, PF, b + 56, n)) dX12_init_382 arC_int rfl (fun cA => rfl) (iI_n_lt (b := 0) ⟨by omega, by omega⟩ inR_0 (by omega)) (by rw [iI_nat (by omega) (by omega)]; rfl) (by show 3 * 4 ≤ 536870912; omega) (by show b + 1 + 44 + 1 ≤ b + 56; omega) ?_
  refine wp_putF (ci := 12) (k := 73) (fs := mFk b 44) tyX12 tyX12_ok nmX12 dX12_init_384 rfl lay_12 (by decide) fl12_152 rfl rfl rfl (tyX12_ok 73 (by decide)) rfl rfl ovK_b ?_
  rw [ovK_step (b := b) (k := 44) (P0 := P0) (e := .inl (0, 3, .inl (fun _ => 0))) (Y := (mFk b 44).set 73 (.ref (b + 1 + 44))) rfl rfl]
  exact kk
theorem dX12_init_388 : decode cX12_init 388 = .ok (.iconst 3, 1) := by decide +kernel
theorem dX12_init_387 : decode cX12_init 387 = .ok (.aload_n 0, 1) := by decide +kernel
theorem dX12_init_389 : decode cX12_init 389 = .ok (.newarray .int, 2) := by decide +kernel
theorem dX12_init_391 : decode cX12_init 391 = .ok (.putfield 155, 3) := by decide +kernel
set_option maxRecDepth 20000 in
theorem in_45 (d : Nat) {b n n2 : Nat} {P0 PF : PH} (hn2 : 3 + n = n2) (kk : Wp (d + 1) m_X12_init 394 (ovK b 46 P0) (b + 1 + 46) [(0, .ref b)] [] (none, PF, b + 56, n)) : Wp (d + 1) m_X12_init 387 (ovK b 45 P0) (b + 1 + 45) [(0, .ref b)] [] (none, PF, b + 56, n2) := by
  subst hn2
  refine wp_aload_n dX12_init_387 rfl 0 rfl ?_
  refine wp_iconst (v := iI 3) dX12_init_388 rfl ?_
  refine wp_newa (atype := .int) (tc := 0) (N := 3) (a0 := (3, .inl (fun _ => 0))) (o := (none, PF, b + 56, n)) dX12_init_389 arC_int rfl (fun cA => rfl) (iI_n_lt (b := 0) ⟨by omega, by omega⟩ inR_0 (by omega)) (by rw [iI_nat (by omega) (by omega)]; rfl) (by show 3 * 4 ≤ 536870912; omega) (by show b + 1 + 45 + 1 ≤ b + 56; omega) ?_
  refine wp_putF (ci := 12) (k := 74) (fs := mFk b 45) tyX12 tyX12_ok nmX12 dX12_init_391 rfl lay_12 (by decide) fl12_155 rfl rfl rfl (tyX12_ok 74 (by decide)) rfl rfl ovK_b ?_
  rw [ovK_step (b := b) (k := 45) (P0 := P0) (e := .inl (0, 3, .inl (fun _ => 0))) (Y := (mFk b 45).set 74 (.ref (b + 1 + 45))) rfl rfl]
  exact kk
theorem dX12_init_395 : decode cX12_init 395 = .ok (.iconst 3, 1) := by decide +kernel
theorem dX12_init_394 : decode cX12_init 394 = .ok (.aload_n 0, 1) := by decide +kernel
theorem dX12_init_396 : decode cX12_init 396 = .ok (.newarray .int, 2) := by decide +kernel
theorem dX12_init_398 : decode cX12_init 398 = .ok (.putfield 158, 3) := by decide +kernel
set_option maxRecDepth 20000 in
theorem in_46 (d : Nat) {b n n2 : Nat} {P0 PF : PH} (hn2 : 3 + n = n2) (kk : Wp (d + 1) m_X12_init 401 (ovK b 47 P0) (b + 1 + 47) [(0, .ref b)] [] (none, PF, b + 56, n)) : Wp (d + 1) m_X12_init 394 (ovK b 46 P0) (b + 1 + 46) [(0, .ref b)] [] (none, PF, b + 56, n2) := by
  subst hn2
  refine wp_aload_n dX12_init_394 rfl 0 rfl ?_
  refine wp_iconst (v := iI 3) dX12_init_395 rfl ?_
  refine wp_newa (atype := .int) (tc := 0) (N := 3) (a0 := (3, .inl (fun _ => 0))) (o := (none, PF, b + 56, n)) dX12_init_396 arC_int rfl (fun cA => rfl) (iI_n_lt (b := 0) ⟨by omega, by omega⟩ inR_0 (by omega)) (by rw [iI_nat (by omega) (by omega)]; rfl) (by show 3 * 4 ≤ 536870912; omega) (by show b + 1 + 46 + 1 ≤ b + 56; omega) ?_
  refine wp_putF (ci := 12) (k := 75) (fs := mFk b 46) tyX12 tyX12_ok nmX12 dX12_init_398 rfl lay_12 (by decide) fl12_158 rfl rfl rfl (tyX12_ok 75 (by decide)) rfl rfl ovK_b ?_
  rw [ovK_step (b := b) (k := 46) (P0 := P0) (e := .inl (0, 3, .inl (fun _ => 0))) (Y := (mFk b 46).set 75 (.ref (b + 1 + 46))) rfl rfl]
  exact kk
theorem dX12_init_402 : decode cX12_init 402 = .ok (.iconst 3, 1) := by decide +kernel
theorem dX12_init_401 : decode cX12_init 401 = .ok (.aload_n 0, 1) := by decide +kernel
theorem dX12_init_403 : decode cX12_init 403 = .ok (.newarray .int, 2) := by decide +kernel
theorem dX12_init_405 : decode cX12_init 405 = .ok (.putfield 161, 3) := by decide +kernel
set_option maxRecDepth 20000 in
theorem in_47 (d : Nat) {b n n2 : Nat} {P0 PF : PH} (hn2 : 3 + n = n2) (kk : Wp (d + 1) m_X12_init 408 (ovK b 48 P0) (b + 1 + 48) [(0, .ref b)] [] (none, PF, b + 56, n)) : Wp (d + 1) m_X12_init 401 (ovK b 47 P0) (b + 1 + 47) [(0, .ref b)] [] (none, PF, b + 56, n2) := by
  subst hn2
  refine wp_aload_n dX12_init_401 rfl 0 rfl ?_
  refine wp_iconst (v := iI 3) dX12_init_402 rfl ?_
  refine wp_newa (atype := .int) (tc := 0) (N := 3) (a0 := (3, .inl (fun _ => 0))) (o := (none, PF, b + 56, n)) dX12_init_403 arC_int rfl (fun cA => rfl) (iI_n_lt (b := 0) ⟨by omega, by omega⟩ inR_0 (by omega)) (by rw [iI_nat (by omega) (by omega)]; rfl) (by show 3 * 4 ≤ 536870912; omega) (by show b + 1 + 47 + 1 ≤ b + 56; omega) ?_
  refine wp_putF (ci := 12) (k := 76) (fs := mFk b 47) tyX12 tyX12_ok nmX12 dX12_init_405 rfl lay_12 (by decide) fl12_161 rfl rfl rfl (tyX12_ok 76 (by decide)) rfl rfl ovK_b ?_
  rw [ovK_step (b := b) (k := 47) (P0 := P0) (e := .inl (0, 3, .inl (fun _ => 0))) (Y := (mFk b 47).set 76 (.ref (b + 1 + 47))) rfl rfl]
  exact kk
theorem dX12_init_409 : decode cX12_init 409 = .ok (.sipush 600, 3) := by decide +kernel
theorem dX12_init_408 : decode cX12_init 408 = .ok (.aload_n 0, 1) := by decide +kernel
theorem dX12_init_412 : decode cX12_init 412 = .ok (.newarray .int, 2) := by decide +kernel
theorem dX12_init_414 : decode cX12_init 414 = .ok (.putfield 164, 3) := by decide +kernel
set_option maxRecDepth 20000 in
theorem in_48 (d : Nat) {b n n2 : Nat} {P0 PF : PH} (hn2 : 600 + n = n2) (kk : Wp (d + 1) m_X12_init 417 (ovK b 49 P0) (b + 1 + 49) [(0, .ref b)] [] (none, PF, b + 56, n)) : Wp (d + 1) m_X12_init 408 (ovK b 48 P0) (b + 1 + 48) [(0, .ref b)] [] (none, PF, b + 56, n2) := by
  subst hn2
  refine wp_aload_n dX12_init_408 rfl 0 rfl ?_
  refine wp_sipush (v := iI 600) dX12_init_409 (iI_16 (by decide)) ?_
  refine wp_newa (atype := .int) (tc := 0) (N := 600) (a0 := (600, .inl (fun _ => 0))) (o := (none, PF, b + 56, n)) dX12_init_412 arC_int rfl (fun cA => rfl) (iI_n_lt (b := 0) ⟨by omega, by omega⟩ inR_0 (by omega)) (by rw [iI_nat (by omega) (by omega)]; rfl) (by show 600 * 4 ≤ 536870912; omega) (by show b + 1 + 48 + 1 ≤ b + 56; omega) ?_
  refine wp_putF (ci := 12) (k := 77) (fs := mFk b 48) tyX12 tyX12_ok nmX12 dX12_init_414 rfl lay_12 (by decide) fl12_164 rfl rfl rfl (tyX12_ok 77 (by decide)) rfl rfl ovK_b ?_
  rw [ovK_step (b := b) (k := 48) (P0 := P0) (e := .inl (0, 600, .inl (fun _ => 0))) (Y := (mFk b 48).set 77 (.ref (b + 1 + 48))) rfl rfl]
  exact kk
theorem dX12_init_418 : decode cX12_init 418 = .ok (.bipush 27, 2) := by decide +kernel
theorem dX12_init_417 : decode cX12_init 417 = .ok (.aload_n 0, 1) := by decide +kernel
theorem dX12_init_420 : decode cX12_init 420 = .ok (.newarray .int, 2) := by decide +kernel
theorem dX12_init_422 : decode cX12_init 422 = .ok (.putfield 167, 3) := by decide +kernel
set_option maxRecDepth 20000 in
theorem in_49 (d : Nat) {b n n2 : Nat} {P0 PF : PH} (hn2 : 27 + n = n2) (kk : Wp (d + 1) m_X12_init 425 (ovK b 50 P0) (b + 1 + 50) [(0, .ref b)] [] (none, PF, b + 56, n)) : Wp (d + 1) m_X12_init 417 (ovK b 49 P0) (b + 1 + 49) [(0, .ref b)] [] (none, PF, b + 56, n2) := by
  subst hn2
  refine wp_aload_n dX12_init_417 rfl 0 rfl ?_
  refine wp_bipush (v := iI 27) dX12_init_418 (iI_8 (by decide)) ?_
  refine wp_newa (atype := .int) (tc := 0) (N := 27) (a0 := (27, .inl (fun _ => 0))) (o := (none, PF, b + 56, n)) dX12_init_420 arC_int rfl (fun cA => rfl) (iI_n_lt (b := 0) ⟨by omega, by omega⟩ inR_0 (by omega)) (by rw [iI_nat (by omega) (by omega)]; rfl) (by show 27 * 4 ≤ 536870912; omega) (by show b + 1 + 49 + 1 ≤ b + 56; omega) ?_
  refine wp_putF (ci := 12) (k := 78) (fs := mFk b 49) tyX12 tyX12_ok nmX12 dX12_init_422 rfl lay_12 (by decide) fl12_167 rfl rfl rfl (tyX12_ok 78 (by decide)) rfl rfl ovK_b ?_
  rw [ovK_step (b := b) (k := 49) (P0 := P0) (e := .inl (0, 27, .inl (fun _ => 0))) (Y := (mFk b 49).set 78 (.ref (b + 1 + 49))) rfl rfl]
  exact kk
theorem dX12_init_426 : decode cX12_init 426 = .ok (.bipush 27, 2) := by decide +kernel
theorem dX12_init_425 : decode cX12_init 425 = .ok (.aload_n 0, 1) := by decide +kernel
theorem dX12_init_428 : decode cX12_init 428 = .ok (.newarray .int, 2) := by decide +kernel
theorem dX12_init_430 : decode cX12_init 430 = .ok (.putfield 170, 3) := by decide +kernel
set_option maxRecDepth 20000 in
theorem in_50 (d : Nat) {b n n2 : Nat} {P0 PF : PH} (hn2 : 27 + n = n2) (kk : Wp (d + 1) m_X12_init 433 (ovK b 51 P0) (b + 1 + 51) [(0, .ref b)] [] (none, PF, b + 56, n)) : Wp (d + 1) m_X12_init 425 (ovK b 50 P0) (b + 1 + 50) [(0, .ref b)] [] (none, PF, b + 56, n2) := by
  subst hn2
  refine wp_aload_n dX12_init_425 rfl 0 rfl ?_
  refine wp_bipush (v := iI 27) dX12_init_426 (iI_8 (by decide)) ?_
  refine wp_newa (atype := .int) (tc := 0) (N := 27) (a0 := (27, .inl (fun _ => 0))) (o := (none, PF, b + 56, n)) dX12_init_428 arC_int rfl (fun cA => rfl) (iI_n_lt (b := 0) ⟨by omega, by omega⟩ inR_0 (by omega)) (by rw [iI_nat (by omega) (by omega)]; rfl) (by show 27 * 4 ≤ 536870912; omega) (by show b + 1 + 50 + 1 ≤ b + 56; omega) ?_
  refine wp_putF (ci := 12) (k := 79) (fs := mFk b 50) tyX12 tyX12_ok nmX12 dX12_init_430 rfl lay_12 (by decide) fl12_170 rfl rfl rfl (tyX12_ok 79 (by decide)) rfl rfl ovK_b ?_
  rw [ovK_step (b := b) (k := 50) (P0 := P0) (e := .inl (0, 27, .inl (fun _ => 0))) (Y := (mFk b 50).set 79 (.ref (b + 1 + 50))) rfl rfl]
  exact kk
theorem dX12_init_434 : decode cX12_init 434 = .ok (.bipush 27, 2) := by decide +kernel
theorem dX12_init_433 : decode cX12_init 433 = .ok (.aload_n 0, 1) := by decide +kernel
theorem dX12_init_436 : decode cX12_init 436 = .ok (.newarray .int, 2) := by decide +kernel
theorem dX12_init_438 : decode cX12_init 438 = .ok (.putfield 173, 3) := by decide +kernel
set_option maxRecDepth 20000 in
theorem in_51 (d : Nat) {b n n2 : Nat} {P0 PF : PH} (hn2 : 27 + n = n2) (kk : Wp (d + 1) m_X12_init 441 (ovK b 52 P0) (b + 1 + 52) [(0, .ref b)] [] (none, PF, b + 56, n)) : Wp (d + 1) m_X12_init 433 (ovK b 51 P0) (b + 1 + 51) [(0, .ref b)] [] (none, PF, b + 56, n2) := by
  subst hn2
  refine wp_aload_n dX12_init_433 rfl 0 rfl ?_
  refine wp_bipush (v := iI 27) dX12_init_434 (iI_8 (by decide)) ?_
  refine wp_newa (atype := .int) (tc := 0) (N := 27) (a0 := (27, .inl (fun _ => 0))) (o := (none, PF, b + 56, n)) dX12_init_436 arC_int rfl (fun cA => rfl) (iI_n_lt (b := 0) ⟨by omega, by omega⟩ inR_0 (by omega)) (by rw [iI_nat (by omega) (by omega)]; rfl) (by show 27 * 4 ≤ 536870912; omega) (by show b + 1 + 51 + 1 ≤ b + 56; omega) ?_
  refine wp_putF (ci := 12) (k := 80) (fs := mFk b 51) tyX12 tyX12_ok nmX12 dX12_init_438 rfl lay_12 (by decide) fl12_173 rfl rfl rfl (tyX12_ok 80 (by decide)) rfl rfl ovK_b ?_
  rw [ovK_step (b := b) (k := 51) (P0 := P0) (e := .inl (0, 27, .inl (fun _ => 0))) (Y := (mFk b 51).set 80 (.ref (b + 1 + 51))) rfl rfl]
  exact kk
theorem dX12_init_442 : decode cX12_init 442 = .ok (.sipush 324, 3) := by decide +kernel
theorem dX12_init_441 : decode cX12_init 441 = .ok (.aload_n 0, 1) := by decide +kernel
theorem dX12_init_445 : decode cX12_init 445 = .ok (.newarray .int, 2) := by decide +kernel
theorem dX12_init_447 : decode cX12_init 447 = .ok (.putfield 176, 3) := by decide +kernel
set_option maxRecDepth 20000 in
theorem in_52 (d : Nat) {b n n2 : Nat} {P0 PF : PH} (hn2 : 324 + n = n2) (kk : Wp (d + 1) m_X12_init 450 (ovK b 53 P0) (b + 1 + 53) [(0, .ref b)] [] (none, PF, b + 56, n)) : Wp (d + 1) m_X12_init 441 (ovK b 52 P0) (b + 1 + 52) [(0, .ref b)] [] (none, PF, b + 56, n2) := by
  subst hn2
  refine wp_aload_n dX12_init_441 rfl 0 rfl ?_
  refine wp_sipush (v := iI 324) dX12_init_442 (iI_16 (by decide)) ?_
  refine wp_newa (atype := .int) (tc := 0) (N := 324) (a0 := (324, .inl (fun _ => 0))) (o := (none, PF, b + 56, n)) dX12_init_445 arC_int rfl (fun cA => rfl) (iI_n_lt (b := 0) ⟨by omega, by omega⟩ inR_0 (by omega)) (by rw [iI_nat (by omega) (by omega)]; rfl) (by show 324 * 4 ≤ 536870912; omega) (by show b + 1 + 52 + 1 ≤ b + 56; omega) ?_
  refine wp_putF (ci := 12) (k := 81) (fs := mFk b 52) tyX12 tyX12_ok nmX12 dX12_init_447 rfl lay_12 (by decide) fl12_176 rfl rfl rfl (tyX12_ok 81 (by decide)) rfl rfl ovK_b ?_
  rw [ovK_step (b := b) (k := 52) (P0 := P0) (e := .inl (0, 324, .inl (fun _ => 0))) (Y := (mFk b 52).set 81 (.ref (b + 1 + 52))) rfl rfl]
  exact kk
theorem dX12_init_451 : decode cX12_init 451 = .ok (.sipush 5184, 3) := by decide +kernel
theorem dX12_init_450 : decode cX12_init 450 = .ok (.aload_n 0, 1) := by decide +kernel
theorem dX12_init_454 : decode cX12_init 454 = .ok (.newarray .int, 2) := by decide +kernel
theorem dX12_init_456 : decode cX12_init 456 = .ok (.putfield 179, 3) := by decide +kernel
set_option maxRecDepth 20000 in
theorem in_53 (d : Nat) {b n n2 : Nat} {P0 PF : PH} (hn2 : 5184 + n = n2) (kk : Wp (d + 1) m_X12_init 459 (ovK b 54 P0) (b + 1 + 54) [(0, .ref b)] [] (none, PF, b + 56, n)) : Wp (d + 1) m_X12_init 450 (ovK b 53 P0) (b + 1 + 53) [(0, .ref b)] [] (none, PF, b + 56, n2) := by
  subst hn2
  refine wp_aload_n dX12_init_450 rfl 0 rfl ?_
  refine wp_sipush (v := iI 5184) dX12_init_451 (iI_16 (by decide)) ?_
  refine wp_newa (atype := .int) (tc := 0) (N := 5184) (a0 := (5184, .inl (fun _ => 0))) (o := (none, PF, b + 56, n)) dX12_init_454 arC_int rfl (fun cA => rfl) (iI_n_lt (b := 0) ⟨by omega, by omega⟩ inR_0 (by omega)) (by rw [iI_nat (by omega) (by omega)]; rfl) (by show 5184 * 4 ≤ 536870912; omega) (by show b + 1 + 53 + 1 ≤ b + 56; omega) ?_
  refine wp_putF (ci := 12) (k := 82) (fs := mFk b 53) tyX12 tyX12_ok nmX12 dX12_init_456 rfl lay_12 (by decide) fl12_179 rfl rfl rfl (tyX12_ok 82 (by decide)) rfl rfl ovK_b ?_
  rw [ovK_step (b := b) (k := 53) (P0 := P0) (e := .inl (0, 5184, .inl (fun _ => 0))) (Y := (mFk b 53).set 82 (.ref (b + 1 + 53))) rfl rfl]
  exact kk
theorem dX12_init_460 : decode cX12_init 460 = .ok (.iconst 3, 1) := by decide +kernel
theorem dX12_init_459 : decode cX12_init 459 = .ok (.aload_n 0, 1) := by decide +kernel
theorem dX12_init_461 : decode cX12_init 461 = .ok (.newarray .int, 2) := by decide +kernel
theorem dX12_init_463 : decode cX12_init 463 = .ok (.putfield 182, 3) := by decide +kernel
set_option maxRecDepth 20000 in
theorem in_54 (d : Nat) {b n n2 : Nat} {P0 PF : PH} (hn2 : 3 + n = n2) (kk : Wp (d + 1) m_X12_init 466 (ovK b 55 P0) (b + 1 + 55) [(0, .ref b)] [] (none, PF, b + 56, n)) : Wp (d + 1) m_X12_init 459 (ovK b 54 P0) (b + 1 + 54) [(0, .ref b)] [] (none, PF, b + 56, n2) := by
  subst hn2
  refine wp_aload_n dX12_init_459 rfl 0 rfl ?_
  refine wp_iconst (v := iI 3) dX12_init_460 rfl ?_
  refine wp_newa (atype := .int) (tc := 0) (N := 3) (a0 := (3, .inl (fun _ => 0))) (o := (none, PF, b + 56, n)) dX12_init_461 arC_int rfl (fun cA => rfl) (iI_n_lt (b := 0) ⟨by omega, by omega⟩ inR_0 (by omega)) (by rw [iI_nat (by omega) (by omega)]; rfl) (by show 3 * 4 ≤ 536870912; omega) (by show b + 1 + 54 + 1 ≤ b + 56; omega) ?_
  refine wp_putF (ci := 12) (k := 86) (fs := mFk b 54) tyX12 tyX12_ok nmX12 dX12_init_463 rfl lay_12 (by decide) fl12_182 rfl rfl rfl (tyX12_ok 86 (by decide)) rfl rfl ovK_b ?_
  rw [ovK_step (b := b) (k := 54) (P0 := P0) (e := .inl (0, 3, .inl (fun _ => 0))) (Y := (mFk b 54).set 86 (.ref (b + 1 + 54))) rfl rfl]
  exact kk
theorem dX12_init_466 : decode cX12_init 466 = .ok (.return_, 1) := by decide +kernel
theorem dX12_init_0 : decode cX12_init 0 = .ok (.aload_n 0, 1) := by decide +kernel
theorem dX12_init_1 : decode cX12_init 1 = .ok (.invokespecial 1, 3) := by decide +kernel
set_option maxRecDepth 20000 in
theorem wi_M (d : Nat) {b : Nat} {P0 : PH} : Wp (d + 1) m_X12_init 0 (ovK b 0 P0) (b + 1) [(0, .ref b)] [] (none, ovM b z0 P0, b + 56, 1125718) := by
  refine wp_aload_n dX12_init_0 rfl 0 rfl ?_
  refine wp_objInit dX12_init_1 mlo12_1 oiI oiC (by omega) (Nat.le_of_ble_eq_true rfl) ?_
  have k55 : Wp (d + 1) m_X12_init 466 (ovK b 55 P0) (b + 1 + 55) [(0, .ref b)] [] (none, ovM b z0 P0, b + 56, 0) := by
    rw [← ovK_55]
    exact wp_vret rfl dX12_init_466
  have k54 := in_54 d (n2 := 3) rfl k55
  clear k55
  have k53 := in_53 d (n2 := 5187) rfl k54
  clear k54
  have k52 := in_52 d (n2 := 5511) rfl k53
  clear k53
  have k51 := in_51 d (n2 := 5538) rfl k52
  clear k52
  have k50 := in_50 d (n2 := 5565) rfl k51
  clear k51
  have k49 := in_49 d (n2 := 5592) rfl k50
  clear k50
  have k48 := in_48 d (n2 := 6192) rfl k49
  clear k49
  have k47 := in_47 d (n2 := 6195) rfl k48
  clear k48
  have k46 := in_46 d (n2 := 6198) rfl k47
  clear k47
  have k45 := in_45 d (n2 := 6201) rfl k46
  clear k46
  have k44 := in_44 d (n2 := 6204) rfl k45
  clear k45
  have k43 := in_43 d (n2 := 6396) rfl k44
  clear k44
  have k42 := in_42 d (n2 := 48828) rfl k43
  clear k43
  have k41 := in_41 d (n2 := 49020) rfl k42
  clear k42
  have k40 := in_40 d (n2 := 85884) rfl k41
  clear k41
  have k39 := in_39 d (n2 := 86076) rfl k40
  clear k40
  have k38 := in_38 d (n2 := 86268) rfl k39
  clear k39
  have k37 := in_37 d (n2 := 128700) rfl k38
  clear k38
  have k36 := in_36 d (n2 := 128844) rfl k37
  clear k37
  have k35 := in_35 d (n2 := 128988) rfl k36
  clear k36
  have k34 := in_34 d (n2 := 129132) rfl k35
  clear k35
  have k33 := in_33 d (n2 := 129276) rfl k34
  clear k34
  have k32 := in_32 d (n2 := 129420) rfl k33
  clear k33
  have k31 := in_31 d (n2 := 320364) rfl k32
  clear k32
  have k30 := in_30 d (n2 := 511308) rfl k31
  clear k31
  have k29 := in_29 d (n2 := 702252) rfl k30
  clear k30
  have k28 := in_28 d (n2 := 893196) rfl k29
  clear k29
  have k27 := in_27 d (n2 := 1084140) rfl k28
  clear k28
  have k26 := in_26 d (n2 := 1084146) rfl k27
  clear k27
  have k25 := in_25 d (n2 := 1084367) rfl k26
  clear k26
  have k24 := in_24 d (n2 := 1088463) rfl k25
  clear k25
  have k23 := in_23 d (n2 := 1088723) rfl k24
  clear k24
  have k22 := in_22 d (n2 := 1088983) rfl k23
  clear k23
  have k21 := in_21 d (n2 := 1088987) rfl k22
  clear k22
  have k20 := in_20 d (n2 := 1088991) rfl k21
  clear k21
  have k19 := in_19 d (n2 := 1089063) rfl k20
  clear k20
  have k18 := in_18 d (n2 := 1089069) rfl k19
  clear k19
  have k17 := in_17 d (n2 := 1089075) rfl k18
  clear k18
  have k16 := in_16 d (n2 := 1089081) rfl k17
  clear k17
  have k15 := in_15 d (n2 := 1089945) rfl k16
  clear k16
  have k14 := in_14 d (n2 := 1090017) rfl k15
  clear k15
  have k13 := in_13 d (n2 := 1090089) rfl k14
  clear k14
  have k12 := in_12 d (n2 := 1090161) rfl k13
  clear k13
  have k11 := in_11 d (n2 := 1090167) rfl k12
  clear k12
  have k10 := in_10 d (n2 := 1090173) rfl k11
  clear k11
  have k9 := in_9 d (n2 := 1090179) rfl k10
  clear k10
  have k8 := in_8 d (n2 := 1090185) rfl k9
  clear k9
  have k7 := in_7 d (n2 := 1090198) rfl k8
  clear k8
  have k6 := in_6 d (n2 := 1101638) rfl k7
  clear k7
  have k5 := in_5 d (n2 := 1113078) rfl k6
  clear k6
  have k4 := in_4 d (n2 := 1115938) rfl k5
  clear k5
  have k3 := in_3 d (n2 := 1118798) rfl k4
  clear k4
  have k2 := in_2 d (n2 := 1121658) rfl k3
  clear k3
  have k1 := in_1 d (n2 := 1124518) rfl k2
  clear k2
  have k0 := in_0 d (n2 := 1125718) rfl k1
  clear k1
  exact k0
theorem INVM.first : INVM 0 z0 := by
  have z : ∀ k, k ≠ 27 → z0.1 k = 0 := fun _ h => if_neg h
  have y : ∀ k i, z0.2.1 k i = 0 := fun _ _ => rfl
  have b : ∀ k, BO k z0 := fun k i => Or.inl (y k i)
  have n : ∀ r, r < z0.1 10 → ¬ 0 ≤ r := fun r a => by rw [z 10 (by decide)] at a; omega
  refine ⟨⟨fun k => by by_cases e : k = 27; exact (show z0.1 k = -1 from if_pos e) ▸ (by unfold inR; decide); exact (z k e) ▸ inR_0, fun k i => inR_0⟩, by rw [z 2 (by decide)]; decide, fun r _ _ => by rw [y]; decide, by rw [z 43 (by decide)]; decide, ⟨⟨by rw [z 10 (by decide)]; decide, fun r a c => absurd a (n r c)⟩, ⟨⟨by rw [z 10 (by decide)]; decide, fun r a c => absurd a (n r c)⟩, fun r a c => absurd a (n r c)⟩, fun r _ _ => by rw [y]; decide, fun r _ _ => by rw [y]; decide, fun r _ _ => by rw [y]; decide, b 48⟩, ⟨fun l => by rw [y]; decide, b 47, b 59, b 63, fun g a c => by rw [y]; omega, fun g => ⟨by rw [y]; decide, fun e => by rw [y] at e; omega⟩, fun q => ⟨fun e => by rw [y] at e; omega, fun e => by rw [y] at e; omega⟩, fun q => ⟨fun e => by rw [y] at e; omega, fun e => by rw [y] at e; omega⟩⟩, fun a => absurd (z 67 (by decide)) a, by rw [z 70 (by decide)]; decide, by rw [y]; decide⟩
