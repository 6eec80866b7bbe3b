/-- item y of τ is as item x of σ -/
def IEQ (σ : MS) (x : Int) (τ : MS) (y : Int) : Prop := τ.2.1 3 y = σ.2.1 3 x ∧ τ.2.1 4 y = σ.2.1 4 x ∧ τ.2.1 5 y = σ.2.1 5 x ∧ τ.2.1 6 y = σ.2.1 6 x ∧ ∀ i, 0 ≤ i → i < 4 → τ.2.1 7 (4 * y + i) = σ.2.1 7 (4 * x + i) ∧ τ.2.1 8 (4 * y + i) = σ.2.1 8 (4 * x + i)
theorem IEQ.rfl {σ : MS} {x : Int} : IEQ σ x σ x := ⟨Eq.refl _, Eq.refl _, Eq.refl _, Eq.refl _, fun _ _ _ => ⟨Eq.refl _, Eq.refl _⟩⟩
theorem IEQ.trans {σ τ υ : MS} {x y z : Int} (h : IEQ σ x τ y) (g : IEQ τ y υ z) : IEQ σ x υ z := ⟨g.1.trans h.1, g.2.1.trans h.2.1, g.2.2.1.trans h.2.2.1, g.2.2.2.1.trans h.2.2.2.1, fun i a b => ⟨(g.2.2.2.2 i a b).1.trans (h.2.2.2.2 i a b).1, (g.2.2.2.2 i a b).2.trans (h.2.2.2.2 i a b).2⟩⟩
theorem OFF.ieq {x y : Int} {σ τ : MS} (h : OFF x σ τ) (hy : y ≠ x) : IEQ σ y τ y := ⟨(h.1 y hy).1, (h.1 y hy).2.1, (h.1 y hy).2.2.1, (h.1 y hy).2.2.2, fun i a b => h.2.1 (4 * y + i) (by omega)⟩
theorem IEQ.nargs {σ τ : MS} {x y : Int} (h : IEQ σ x τ y) (hp : τ.2.1 11 = σ.2.1 11) : nArgs τ y = nArgs σ x := by
  unfold nArgs
  rw [h.1, h.2.2.1, h.2.2.2.1, hp]
theorem IEQ.oki {σ τ : MS} {x y F : Int} (h : IEQ σ x τ y) (hp : τ.2.1 11 = σ.2.1 11) (ho : OKI σ F x) : OKI τ F y := by
  unfold OKI at ho ⊢
  rw [h.nargs hp, h.1, h.2.1, h.2.2.1, h.2.2.2.1]
  obtain ⟨o1, o2, o3, o4, o5, o6, o7, o8, o9⟩ := ho
  refine ⟨o1, o2, o3, o4, o5, o6, o7, fun i c e => ?_, ?_⟩
  · rw [(h.2.2.2.2 i c e).1, (h.2.2.2.2 i c e).2]; exact o8 i c e
  · rw [(h.2.2.2.2 0 (by decide) (by decide)).1]; exact o9
theorem fCopy_off {f t : Int} {σ : MS} : OFF t σ (fCopy f t σ) := by
  refine ⟨fun y hy => ⟨?_, ?_, ?_, ?_⟩, fun z hz => ⟨?_, ?_⟩, Eq.refl _, Eq.refl _⟩
  · exact ra_o (by decide) (ra_o (by decide) (ra_o (by decide) (ra_o (by decide) (ra_o (by decide) (ra_o (by decide) (ra_o (by decide) (ra_o (by decide) (ra_o (by decide) (ra_o (by decide) (ra_o (by decide) (ra_ne hy (Eq.refl _))))))))))))
  · exact ra_o (by decide) (ra_o (by decide) (ra_o (by decide) (ra_o (by decide) (ra_o (by decide) (ra_o (by decide) (ra_o (by decide) (ra_o (by decide) (ra_o (by decide) (ra_o (by decide) (ra_ne hy (ra_o (by decide) (Eq.refl _))))))))))))
  · exact ra_o (by decide) (ra_o (by decide) (ra_o (by decide) (ra_o (by decide) (ra_o (by decide) (ra_o (by decide) (ra_o (by decide) (ra_o (by decide) (ra_o (by decide) (ra_ne hy (ra_o (by decide) (ra_o (by decide) (Eq.refl _))))))))))))
  · exact ra_o (by decide) (ra_o (by decide) (ra_o (by decide) (ra_o (by decide) (ra_o (by decide) (ra_o (by decide) (ra_o (by decide) (ra_o (by decide) (ra_ne hy (ra_o (by decide) (ra_o (by decide) (ra_o (by decide) (Eq.refl _))))))))))))
  · exact ra_o (by decide) (ra_ne (by omega) (ra_o (by decide) (ra_ne (by omega) (ra_o (by decide) (ra_ne (by omega) (ra_o (by decide) (ra_ne (by omega) (ra_o (by decide) (ra_o (by decide) (ra_o (by decide) (ra_o (by decide) (Eq.refl _))))))))))))
  · exact ra_ne (by omega) (ra_o (by decide) (ra_ne (by omega) (ra_o (by decide) (ra_ne (by omega) (ra_o (by decide) (ra_ne (by omega) (ra_o (by decide) (ra_o (by decide) (ra_o (by decide) (ra_o (by decide) (ra_o (by decide) (Eq.refl _))))))))))))
theorem fCopy_ieq {f t : Int} {σ : MS} : IEQ σ f (fCopy f t σ) t := by
  refine ⟨?_, ?_, ?_, ?_, fun i a b => ?_⟩
  · exact ra_o (by decide) (ra_o (by decide) (ra_o (by decide) (ra_o (by decide) (ra_o (by decide) (ra_o (by decide) (ra_o (by decide) (ra_o (by decide) (ra_o (by decide) (ra_o (by decide) (ra_o (by decide) ra_eq))))))))))
  · exact ra_o (by decide) (ra_o (by decide) (ra_o (by decide) (ra_o (by decide) (ra_o (by decide) (ra_o (by decide) (ra_o (by decide) (ra_o (by decide) (ra_o (by decide) (ra_o (by decide) ra_eq)))))))))
  · exact ra_o (by decide) (ra_o (by decide) (ra_o (by decide) (ra_o (by decide) (ra_o (by decide) (ra_o (by decide) (ra_o (by decide) (ra_o (by decide) (ra_o (by decide) ra_eq))))))))
  · exact ra_o (by decide) (ra_o (by decide) (ra_o (by decide) (ra_o (by decide) (ra_o (by decide) (ra_o (by decide) (ra_o (by decide) (ra_o (by decide) ra_eq)))))))
  · have h4 : i = 0 ∨ i = 1 ∨ i = 2 ∨ i = 3 := by omega
    rcases h4 with rfl | rfl | rfl | rfl
    · exact ⟨ra_o (by decide) (ra_ne (by omega) (ra_o (by decide) (ra_ne (by omega) (ra_o (by decide) (ra_ne (by omega) (ra_o (by decide) ra_eq)))))), ra_ne (by omega) (ra_o (by decide) (ra_ne (by omega) (ra_o (by decide) (ra_ne (by omega) (ra_o (by decide) ra_eq)))))⟩
    · exact ⟨ra_o (by decide) (ra_ne (by omega) (ra_o (by decide) (ra_ne (by omega) (ra_o (by decide) ra_eq)))), ra_ne (by omega) (ra_o (by decide) (ra_ne (by omega) (ra_o (by decide) ra_eq)))⟩
    · exact ⟨ra_o (by decide) (ra_ne (by omega) (ra_o (by decide) ra_eq)), ra_ne (by omega) (ra_o (by decide) ra_eq)⟩
    · exact ⟨ra_o (by decide) ra_eq, ra_eq⟩
theorem RG.copy {σ : MS} (h : RG σ) {f t : Int} : RG (fCopy f t σ) := (((((((((((h.A (h.a _ _)).A (h.a _ _)).A (h.a _ _)).A (h.a _ _)).A (h.a _ _)).A (h.a _ _)).A (h.a _ _)).A (h.a _ _)).A (h.a _ _)).A (h.a _ _)).A (h.a _ _)).A (h.a _ _)

theorem ml12_394 : Cond.methodLink RX12 394 yX12_copyItem ∈ pWW := pw9 (List.mem_of_getElem? (i := 25) rfl) rfl
theorem dX12_takeOut_2 : decode cX12_takeOut 2 = .ok (.iload_n 3, 1) := by decide +kernel
theorem dX12_takeOut_3 : decode cX12_takeOut 3 = .ok (.iconst 1, 1) := by decide +kernel
theorem dX12_takeOut_4 : decode cX12_takeOut 4 = .ok (.iadd, 1) := by decide +kernel
theorem dX12_takeOut_5 : decode cX12_takeOut 5 = .ok (.aload_n 0, 1) := by decide +kernel
theorem dX12_takeOut_6 : decode cX12_takeOut 6 = .ok (.getfield 32, 3) := by decide +kernel
theorem dX12_takeOut_9 : decode cX12_takeOut 9 = .ok (.iload_n 1, 1) := by decide +kernel
theorem dX12_takeOut_10 : decode cX12_takeOut 10 = .ok (.iaload, 1) := by decide +kernel
theorem dX12_takeOut_11 : decode cX12_takeOut 11 = .ok (.if_icmp .ge 27, 3) := by decide +kernel
theorem dX12_takeOut_14 : decode cX12_takeOut 14 = .ok (.aload_n 0, 1) := by decide +kernel
theorem dX12_takeOut_15 : decode cX12_takeOut 15 = .ok (.aload_n 0, 1) := by decide +kernel
theorem dX12_takeOut_16 : decode cX12_takeOut 16 = .ok (.iload_n 1, 1) := by decide +kernel
theorem dX12_takeOut_17 : decode cX12_takeOut 17 = .ok (.iload_n 3, 1) := by decide +kernel
theorem dX12_takeOut_18 : decode cX12_takeOut 18 = .ok (.iconst 1, 1) := by decide +kernel
theorem dX12_takeOut_19 : decode cX12_takeOut 19 = .ok (.iadd, 1) := by decide +kernel
theorem dX12_takeOut_20 : decode cX12_takeOut 20 = .ok (.invokevirtual 203, 3) := by decide +kernel
theorem dX12_takeOut_23 : decode cX12_takeOut 23 = .ok (.aload_n 0, 1) := by decide +kernel
theorem dX12_takeOut_24 : decode cX12_takeOut 24 = .ok (.iload_n 1, 1) := by decide +kernel
theorem dX12_takeOut_25 : decode cX12_takeOut 25 = .ok (.iload_n 3, 1) := by decide +kernel
theorem dX12_takeOut_26 : decode cX12_takeOut 26 = .ok (.invokevirtual 203, 3) := by decide +kernel
theorem dX12_takeOut_29 : decode cX12_takeOut 29 = .ok (.invokevirtual 394, 3) := by decide +kernel
theorem dX12_takeOut_32 : decode cX12_takeOut 32 = .ok (.iinc 3 1, 3) := by decide +kernel
theorem dX12_takeOut_35 : decode cX12_takeOut 35 = .ok (.goto (-33), 3) := by decide +kernel
set_option maxHeartbeats 4000000 in
set_option maxRecDepth 20000 in
theorem l_takeOut (d : Nat) {b : Nat} {σ0 : MS} {r : Int} {k : Int} {post : Option Value → MS → Prop} (hr : 0 ≤ r ∧ r < 6) (hR0 : RG σ0) (hit : 0 ≤ σ0.2.1 9 r ∧ σ0.2.1 9 r ≤ 220) (hk : 0 ≤ k ∧ k < σ0.2.1 9 r) (hx_38 : ∀ (i : Int) (σ : MS) , (Fr [] [3, 4, 5, 6, 7, 8] [] σ0 σ) → (RG σ) → (XO r σ0 σ) → (∀ j, 0 ≤ j → j < k → IEQ σ0 (220 * r + j) σ (220 * r + j)) → (∀ j, k ≤ j → j < σ0.2.1 9 r - 1 → IEQ σ0 (220 * r + (j + 1)) σ (220 * r + j)) → Tm (d + 2) m_X12_takeOut 38 b σ [(3, .int (iI i)), (0, .ref b), (1, .int (iI r)), (2, .int (iI k))] [] post) : ∀ (n : Nat) (i : Int) (σ : MS) , (Fr [] [3, 4, 5, 6, 7, 8] [] σ0 σ) → (RG σ) → (k ≤ i ∧ i < σ0.2.1 9 r) → (XO r σ0 σ) → (∀ j, 0 ≤ j → j < k → IEQ σ0 (220 * r + j) σ (220 * r + j)) → (∀ j, k ≤ j → j < i → IEQ σ0 (220 * r + (j + 1)) σ (220 * r + j)) → (∀ j, i ≤ j → j < 220 → IEQ σ0 (220 * r + j) σ (220 * r + j)) → (220 - i).toNat = n → Tm (d + 2) m_X12_takeOut 2 b σ [(3, .int (iI i)), (0, .ref b), (1, .int (iI r)), (2, .int (iI k))] [] post := by
  intro n
  induction n using Nat.strongRecOn with
  | _ n ih =>
    intro i σ hF hR h0 hxo hlo hmi hhi hm
    refine tm_iload_n dX12_takeOut_2 rfl 0 rfl ?_
    refine tm_iconst dX12_takeOut_3 ?_
    refine tm_iadd dX12_takeOut_4 ?_
    refine tm_aload_n dX12_takeOut_5 rfl 1 rfl ?_
    refine tm_get (k := 9) (v := .ref (b + 1 + 7)) lay_12 dX12_takeOut_6 (by decide) fl12_32 rfl ?_
    refine tm_iload_n dX12_takeOut_9 rfl 2 rfl ?_
    refine tm_iald (z := r) (v := σ0.2.1 9 r) dX12_takeOut_10 (show mT[7]? = some (9, 0, 13) from rfl) (by omega) (by omega) (by decide) (ra_F hF (by decide) (rfl)) ?_
    have g1 := RG.a hR0 9 (r)
    refine tm_icmp_ge (tgt := 38) dX12_takeOut_11 (by decide) ⟨by omega, by omega⟩ ⟨by omega, by omega⟩ (fun h2 => ?_) (fun h2 => ?_)
    · exact tm_sub [0, 1, 2, 3] rfl (hx_38 (i) σ (Fr.rfl.trans (Fr.sub hF (by decide) (by decide) (by decide))) hR hxo hlo (fun j a c => hmi j a (by omega)))
    · refine tm_aload_n dX12_takeOut_14 rfl 1 rfl ?_
      refine tm_aload_n dX12_takeOut_15 rfl 1 rfl ?_
      refine tm_iload_n dX12_takeOut_16 rfl 2 rfl ?_
      refine tm_iload_n dX12_takeOut_17 rfl 0 rfl ?_
      refine tm_iconst dX12_takeOut_18 ?_
      refine tm_iadd dX12_takeOut_19 ?_
      refine tm_callV (M := m_X12_takeOut) (pc := 20) (ix := 203) (M' := m_X12_at) (As := [.int (iI r), .int (iI (i + 1))]) (rest := [.ref b]) dX12_takeOut_20 ok_X12_at im_X12_at se_X12_at ml12_203 np_X12_at rfl rfl (Nat.le_of_ble_eq_true rfl) (Nat.le_of_ble_eq_true rfl) rfl (c_X12_at (d) (σ := σ) (x := r) (k := i + 1) ) (fun r3 σ4 hp => ?_)
      obtain ⟨v5, rfl, rfl, f6⟩ := hp
      subst f6
      show Tm _ _ 23 b σ [(3, .int (iI i)), (0, .ref b), (1, .int (iI r)), (2, .int (iI k))] [.int (iI (220 * r + (i + 1))), .ref b] _
      refine tm_aload_n dX12_takeOut_23 rfl 1 rfl ?_
      refine tm_iload_n dX12_takeOut_24 rfl 2 rfl ?_
      refine tm_iload_n dX12_takeOut_25 rfl 0 rfl ?_
      refine tm_callV (M := m_X12_takeOut) (pc := 26) (ix := 203) (M' := m_X12_at) (As := [.int (iI r), .int (iI i)]) (rest := [.int (iI (220 * r + (i + 1))), .ref b]) dX12_takeOut_26 ok_X12_at im_X12_at se_X12_at ml12_203 np_X12_at rfl rfl (Nat.le_of_ble_eq_true rfl) (Nat.le_of_ble_eq_true rfl) rfl (c_X12_at (d) (σ := σ) (x := r) (k := i) ) (fun r7 σ8 hp => ?_)
      obtain ⟨v9, rfl, rfl, f10⟩ := hp
      subst f10
      show Tm _ _ 29 b σ [(3, .int (iI i)), (0, .ref b), (1, .int (iI r)), (2, .int (iI k))] [.int (iI (220 * r + i)), .int (iI (220 * r + (i + 1))), .ref b] _
      refine tm_callV (M := m_X12_takeOut) (pc := 29) (ix := 394) (M' := m_X12_copyItem) (As := [.int (iI (220 * r + (i + 1))), .int (iI (220 * r + i))]) (rest := []) dX12_takeOut_29 ok_X12_copyItem im_X12_copyItem se_X12_copyItem ml12_394 np_X12_copyItem rfl rfl (Nat.le_of_ble_eq_true rfl) (Nat.le_of_ble_eq_true rfl) rfl (c_X12_copyItem (d) (σ := σ) (f := 220 * r + (i + 1)) (t := 220 * r + i) (by omega) (by omega)) (fun r11 σ12 hp => ?_)
      obtain ⟨rfl, f14⟩ := hp
      subst f14
      show Tm _ _ 32 b (fCopy (220 * r + (i + 1)) (220 * r + i) σ) [(3, .int (iI i)), (0, .ref b), (1, .int (iI r)), (2, .int (iI k))] [] _
      refine tm_iinc (q0 := 0) (L' := [(3, .int (iI (i + 1))), (0, .ref b), (1, .int (iI r)), (2, .int (iI k))]) dX12_takeOut_32 rfl (by decide) rfl ?_
      refine tm_goto (tgt := 2) dX12_takeOut_35 (by decide) ?_
      exact tm_sub [0, 1, 2, 3] rfl (ih _ (by omega) (i + 1) (fCopy (220 * r + (i + 1)) (220 * r + i) σ) ((Fr.rfl.trans (Fr.sub hF (by decide) (by decide) (by decide))).trans (Fr.sub fCopy_fr (by decide) (by decide) (by decide))) (hR.copy) (by omega) (hxo.trans (fCopy_off.xo (by omega) (by omega))) (fun j a c => (hlo j a c).trans (fCopy_off.ieq (by omega))) (fun j a c => by
          by_cases z : j = i
          · subst z; exact (hhi (j + 1) (by omega) (by omega)).trans fCopy_ieq
          · exact (hmi j a (by omega)).trans (fCopy_off.ieq (by omega))) (fun j a c => (hhi j (by omega) c).trans (fCopy_off.ieq (by omega))) rfl)
theorem dX12_takeOut_0 : decode cX12_takeOut 0 = .ok (.iload_n 2, 1) := by decide +kernel
theorem dX12_takeOut_1 : decode cX12_takeOut 1 = .ok (.istore_n 3, 1) := by decide +kernel
theorem dX12_takeOut_38 : decode cX12_takeOut 38 = .ok (.aload_n 0, 1) := by decide +kernel
theorem dX12_takeOut_39 : decode cX12_takeOut 39 = .ok (.getfield 32, 3) := by decide +kernel
theorem dX12_takeOut_42 : decode cX12_takeOut 42 = .ok (.iload_n 1, 1) := by decide +kernel
theorem dX12_takeOut_43 : decode cX12_takeOut 43 = .ok (.dup2, 1) := by decide +kernel
theorem dX12_takeOut_44 : decode cX12_takeOut 44 = .ok (.iaload, 1) := by decide +kernel
theorem dX12_takeOut_45 : decode cX12_takeOut 45 = .ok (.iconst 1, 1) := by decide +kernel
theorem dX12_takeOut_46 : decode cX12_takeOut 46 = .ok (.isub, 1) := by decide +kernel
theorem dX12_takeOut_47 : decode cX12_takeOut 47 = .ok (.iastore, 1) := by decide +kernel
theorem dX12_takeOut_48 : decode cX12_takeOut 48 = .ok (.return_, 1) := by decide +kernel
set_option maxHeartbeats 4000000 in
set_option maxRecDepth 20000 in
theorem c_X12_takeOut (d : Nat) {b : Nat} {σ : MS} {r : Int} {k : Int} (hr : 0 ≤ r ∧ r < 6) (hR : RG σ) (hit : ITM σ) (hk : 0 ≤ k ∧ k < σ.2.1 9 r) : Tm (d + 2) m_X12_takeOut 0 b σ [(0, .ref b), (1, .int (iI r)), (2, .int (iI k))] [] (fun ro σ2 => ro = none ∧ (Fr [] [3, 4, 5, 6, 7, 8, 9] [] σ σ2) ∧ (RG σ2) ∧ (XO r σ σ2) ∧ (∀ j, 0 ≤ j → j < k → IEQ σ (220 * r + j) σ2 (220 * r + j)) ∧ (∀ j, k ≤ j → j < σ.2.1 9 r - 1 → IEQ σ (220 * r + (j + 1)) σ2 (220 * r + j)) ∧ (σ2.2.1 9 r = σ.2.1 9 r - 1) ∧ (∀ j, j ≠ r → σ2.2.1 9 j = σ.2.1 9 j)) := by
  have q1 := hit r (by omega) (by omega)
  refine tm_iload_n dX12_takeOut_0 rfl 2 rfl ?_
  refine tm_istore_n (L' := [(3, .int (iI k)), (0, .ref b), (1, .int (iI r)), (2, .int (iI k))]) dX12_takeOut_1 rfl (by decide) rfl ?_
  refine tm_sub [0, 1, 2, 3] rfl (l_takeOut (d) (σ0 := σ) (r := r) (k := k) hr hR q1 hk (fun i8 σ9 F3 R4 f5 f6 f7 => ?_) _ (k) σ Fr.rfl hR (by omega) XO.rfl (fun j a c => IEQ.rfl) (fun j a c => by omega) (fun j a c => IEQ.rfl) rfl)
  show Tm _ _ 38 b σ9 [(3, .int (iI i8)), (0, .ref b), (1, .int (iI r)), (2, .int (iI k))] [] _
  refine tm_aload_n dX12_takeOut_38 rfl 1 rfl ?_
  refine tm_get (k := 9) (v := .ref (b + 1 + 7)) lay_12 dX12_takeOut_39 (by decide) fl12_32 rfl ?_
  refine tm_iload_n dX12_takeOut_42 rfl 2 rfl ?_
  refine tm_dup2 dX12_takeOut_43 rfl rfl ?_
  refine tm_iald (z := r) (v := σ.2.1 9 r) dX12_takeOut_44 (show mT[7]? = some (9, 0, 13) from rfl) (by omega) (by omega) (by decide) (ra_F F3 (by decide) (rfl)) ?_
  have g10 := RG.a hR 9 (r)
  refine tm_iconst dX12_takeOut_45 ?_
  refine tm_isub dX12_takeOut_46 ?_
  refine tm_iast (z := r) (v := (σ.2.1 9 r) - 1) dX12_takeOut_47 (show mT[7]? = some (9, 0, 13) from rfl) (by omega) (by omega) (by decide) ?_
  exact tm_vret rfl dX12_takeOut_48 (⟨rfl, ((Fr.rfl.trans (Fr.sub F3 (by decide) (by decide) (by decide))).A (by decide)), (R4.A (by omega)), f5, f6, f7, ra_eq, fun j hj => ra_ne hj (by rw [F3.2.1 9 (by decide)])⟩)
