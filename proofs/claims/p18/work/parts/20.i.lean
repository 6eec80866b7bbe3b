theorem dL_law_33 : decode cL_law 33 = .ok (.tableswitch 763 0 17 #[87, 150, 173, 186, 209, 242, 285, 328, 391, 424, 487, 520, 553, 586, 619, 642, 665, 740], 87) := by decide +kernel
theorem dL_law_18 : decode cL_law 18 = .ok (.iload_n 3, 1) := by decide +kernel
theorem dL_law_19 : decode cL_law 19 = .ok (.aload_n 0, 1) := by decide +kernel
theorem dL_law_20 : decode cL_law 20 = .ok (.arraylength, 1) := by decide +kernel
theorem dL_law_21 : decode cL_law 21 = .ok (.bipush 7, 2) := by decide +kernel
theorem dL_law_23 : decode cL_law 23 = .ok (.isub, 1) := by decide +kernel
theorem dL_law_24 : decode cL_law 24 = .ok (.if_icmp .gt 778, 3) := by decide +kernel
theorem dL_law_802 : decode cL_law 802 = .ok (.iconst 1, 1) := by decide +kernel
theorem dL_law_803 : decode cL_law 803 = .ok (.ireturn, 1) := by decide +kernel
theorem dL_law_796 : decode cL_law 796 = .ok (.iinc 3 7, 3) := by decide +kernel
theorem dL_law_799 : decode cL_law 799 = .ok (.goto (-781), 3) := by decide +kernel
theorem dL_law_27 : decode cL_law 27 = .ok (.aload_n 0, 1) := by decide +kernel
theorem dL_law_28 : decode cL_law 28 = .ok (.iload_n 3, 1) := by decide +kernel
theorem dL_law_29 : decode cL_law 29 = .ok (.iaload, 1) := by decide +kernel
theorem dL_law_30 : decode cL_law 30 = .ok (.bipush 31, 2) := by decide +kernel
theorem dL_law_32 : decode cL_law 32 = .ok (.iand, 1) := by decide +kernel
theorem INVX.up {N : Nat} {T : CT} {σ : MS} {a : Nat} (h : INVX N T σ a) : INVX (N + 1) T σ a := ⟨h.1, h.2.1.up (by omega), h.2.2⟩
theorem LI.up {N a bm sz k n : Nat} {T : CT} {σ τ : MS} (h : LI N a bm sz k n T σ τ) : LI (N + 1) a bm sz k n T σ τ := ⟨h.x.up, h.ob, h.m.fr0 (Fr.rfl (ss := []) (ks := []) (js := [])) h.m.rg (by decide) (by decide), h.tape, h.dom, h.top, h.free, h.kk, h.nn⟩
set_option maxHeartbeats 4000000 in
theorem law_loop {b n0 : Nat} {xs : Nat → Int32} {a bm : Nat} (hn0 : n0 ≤ 3584) : ∀ (f N sz k n : Nat) (T : CT) (σ τ : MS), LI N a bm sz k n T σ τ → L9 T σ τ a → n0 ≤ 7 * N + f → N ≤ 3584 → Wl b n0 xs 18 (ovC T σ (ovM bm τ (fun _ => none))) sz k n (LL (7 * (N : Int)) bm a b) [] := by
  intro f
  induction f with
  | zero =>
    intro N sz k n T σ τ h h4 hf hN
    refine wl_iload_n dL_law_18 rfl 0 rfl ?_
    refine wl_aload_n dL_law_19 rfl 3 rfl ?_
    refine wl_slen dL_law_20 ?_
    refine wl_bipush (v := iI 7) dL_law_21 (iI_8 (by decide)) ?_
    refine wl_isub dL_law_23 ?_
    rw [iI_sub]
    refine wl_icmp_gt (tgt := 802) dL_law_24 (by decide) ⟨by omega, by omega⟩ ⟨by omega, by omega⟩ (fun _ => ?_) (fun q => absurd q (by omega))
    exact wl_end dL_law_802 dL_law_803 h.le.1 h.le.2
  | succ f ih =>
    intro N sz k n T σ τ h h4 hf hN
    refine wl_iload_n dL_law_18 rfl 0 rfl ?_
    refine wl_aload_n dL_law_19 rfl 3 rfl ?_
    refine wl_slen dL_law_20 ?_
    refine wl_bipush (v := iI 7) dL_law_21 (iI_8 (by decide)) ?_
    refine wl_isub dL_law_23 ?_
    rw [iI_sub]
    refine wl_icmp_gt (tgt := 802) dL_law_24 (by decide) ⟨by omega, by omega⟩ ⟨by omega, by omega⟩ (fun _ => ?_) (fun q => ?_)
    · exact wl_end dL_law_802 dL_law_803 h.le.1 h.le.2
    have K : ∀ sz2 k2 n2 T2 σ2 τ2, LI (N + 1) a bm sz2 k2 n2 T2 σ2 τ2 → L9 T2 σ2 τ2 a → Wl b n0 xs 796 (ovC T2 σ2 (ovM bm τ2 (fun _ => none))) sz2 k2 n2 (LL (7 * (N : Int)) bm a b) [] := fun sz2 k2 n2 T2 σ2 τ2 h2 h5 => by
      refine wl_iinc (q0 := 0) (v := iI (7 * (N : Int) + 7)) (L' := LL (7 * (N : Int) + 7) bm a b) dL_law_796 rfl (iI_add _ 7) (by decide) rfl ?_
      refine wl_goto (tgt := 18) dL_law_799 (by decide) ?_
      have e : 7 * (N : Int) + 7 = 7 * ((N + 1 : Nat) : Int) := by omega
      rw [e]
      exact ih (N + 1) sz2 k2 n2 T2 σ2 τ2 h2 h5 (by omega) (by omega)
    refine wl_aload_n dL_law_27 rfl 3 rfl ?_
    refine wl_iload_n dL_law_28 rfl 0 rfl ?_
    refine wl_xs (by omega) (by omega) hn0 dL_law_29 ?_
    refine wl_bipush (v := iI 31) dL_law_30 (iI_8 (by decide)) ?_
    refine wl_iand dL_law_32 ?_
    obtain ⟨w, ew, w0, w1⟩ := iI_and31 (z := xz xs (7 * (N : Int)))
    rw [ew]
    have hc : w = 0 ∨ w = 1 ∨ w = 2 ∨ w = 3 ∨ w = 4 ∨ w = 5 ∨ w = 6 ∨ w = 7 ∨ w = 8 ∨ w = 9 ∨ w = 10 ∨ w = 11 ∨ w = 12 ∨ w = 13 ∨ w = 14 ∨ w = 15 ∨ w = 16 ∨ w = 17 ∨ 17 < w := by omega
    rcases hc with hw | hw | hw | hw | hw | hw | hw | hw | hw | hw | hw | hw | hw | hw | hw | hw | hw | hw | hw
    · rw [hw]
      refine wl_tableIn (off := 87) (tgt := 120) dL_law_33 ⟨by decide, by decide⟩ (by decide) (by decide) rfl (by decide) ?_
      exact law_0 h h4 (by omega) hn0 K
    · rw [hw]
      refine wl_tableIn (off := 150) (tgt := 183) dL_law_33 ⟨by decide, by decide⟩ (by decide) (by decide) rfl (by decide) ?_
      exact law_1 h h4 (by omega) hn0 K
    · rw [hw]
      refine wl_tableIn (off := 173) (tgt := 206) dL_law_33 ⟨by decide, by decide⟩ (by decide) (by decide) rfl (by decide) ?_
      exact law_2 h h4 (by omega) hn0 K
    · rw [hw]
      refine wl_tableIn (off := 186) (tgt := 219) dL_law_33 ⟨by decide, by decide⟩ (by decide) (by decide) rfl (by decide) ?_
      exact law_3 h h4 (by omega) hn0 K
    · rw [hw]
      refine wl_tableIn (off := 209) (tgt := 242) dL_law_33 ⟨by decide, by decide⟩ (by decide) (by decide) rfl (by decide) ?_
      exact law_4 h h4 (by omega) hn0 K
    · rw [hw]
      refine wl_tableIn (off := 242) (tgt := 275) dL_law_33 ⟨by decide, by decide⟩ (by decide) (by decide) rfl (by decide) ?_
      exact law_5 h h4 (by omega) hn0 K
    · rw [hw]
      refine wl_tableIn (off := 285) (tgt := 318) dL_law_33 ⟨by decide, by decide⟩ (by decide) (by decide) rfl (by decide) ?_
      exact law_6 h h4 (by omega) hn0 K
    · rw [hw]
      refine wl_tableIn (off := 328) (tgt := 361) dL_law_33 ⟨by decide, by decide⟩ (by decide) (by decide) rfl (by decide) ?_
      exact law_7 h h4 (by omega) hn0 K
    · rw [hw]
      refine wl_tableIn (off := 391) (tgt := 424) dL_law_33 ⟨by decide, by decide⟩ (by decide) (by decide) rfl (by decide) ?_
      exact law_8 h h4 (by omega) hn0 K
    · rw [hw]
      refine wl_tableIn (off := 424) (tgt := 457) dL_law_33 ⟨by decide, by decide⟩ (by decide) (by decide) rfl (by decide) ?_
      exact law_9 h h4 (by omega) hn0 K
    · rw [hw]
      refine wl_tableIn (off := 487) (tgt := 520) dL_law_33 ⟨by decide, by decide⟩ (by decide) (by decide) rfl (by decide) ?_
      exact law_10 h h4 (by omega) hn0 K
    · rw [hw]
      refine wl_tableIn (off := 520) (tgt := 553) dL_law_33 ⟨by decide, by decide⟩ (by decide) (by decide) rfl (by decide) ?_
      exact law_11 h h4 (by omega) hn0 K
    · rw [hw]
      refine wl_tableIn (off := 553) (tgt := 586) dL_law_33 ⟨by decide, by decide⟩ (by decide) (by decide) rfl (by decide) ?_
      exact law_12 h h4 (by omega) hn0 K
    · rw [hw]
      refine wl_tableIn (off := 586) (tgt := 619) dL_law_33 ⟨by decide, by decide⟩ (by decide) (by decide) rfl (by decide) ?_
      exact law_13 h h4 (by omega) hn0 K
    · rw [hw]
      refine wl_tableIn (off := 619) (tgt := 652) dL_law_33 ⟨by decide, by decide⟩ (by decide) (by decide) rfl (by decide) ?_
      exact law_14 h h4 (by omega) hn0 K
    · rw [hw]
      refine wl_tableIn (off := 642) (tgt := 675) dL_law_33 ⟨by decide, by decide⟩ (by decide) (by decide) rfl (by decide) ?_
      exact law_15 h h4 (by omega) hn0 K
    · rw [hw]
      refine wl_tableIn (off := 665) (tgt := 698) dL_law_33 ⟨by decide, by decide⟩ (by decide) (by decide) rfl (by decide) ?_
      exact law_16 h h4 (by omega) hn0 K
    · rw [hw]
      refine wl_tableIn (off := 740) (tgt := 773) dL_law_33 ⟨by decide, by decide⟩ (by decide) (by decide) rfl (by decide) ?_
      exact law_17 h h4 (by omega) hn0 K
    · refine wl_tableOut (tgt := 796) dL_law_33 ⟨by omega, by omega⟩ (Or.inr hw) (by decide) ?_
      have h2 : LI (N + 1) a bm sz k n T σ τ := h.up
      exact K _ _ _ _ _ _ h2 h4
