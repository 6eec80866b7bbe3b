section
def IEQ (σ : MS) (x : Int) (τ : MS) (y : Int) : Prop := τ.2.1 3 y = σ.2.1 3 x ∧ τ.2.1 4 y = σ.2.1 4 x ∧ τ.2.1 5 y = σ.2.1 5 x ∧ τ.2.1 6 y = σ.2.1 6 x ∧ ∀ i, 0 ≤ i → i < 4 → τ.2.1 7 (4 * y + i) = σ.2.1 7 (4 * x + i) ∧ τ.2.1 8 (4 * y + i) = σ.2.1 8 (4 * x + i)
theorem IEQ.rfl {σ : MS} {x : Int} : IEQ σ x σ x := ⟨Eq.refl _, Eq.refl _, Eq.refl _, Eq.refl _, fun _ _ _ => ⟨Eq.refl _, Eq.refl _⟩⟩
theorem IEQ.trans {σ τ υ : MS} {x y z : Int} (h : IEQ σ x τ y) (g : IEQ τ y υ z) : IEQ σ x υ z := ⟨g.1.trans h.1, g.2.1.trans h.2.1, g.2.2.1.trans h.2.2.1, g.2.2.2.1.trans h.2.2.2.1, fun i a b => ⟨(g.2.2.2.2 i a b).1.trans (h.2.2.2.2 i a b).1, (g.2.2.2.2 i a b).2.trans (h.2.2.2.2 i a b).2⟩⟩
theorem OFF.ieq {x y : Int} {σ τ : MS} (h : OFF x σ τ) (hy : y ≠ x) : IEQ σ y τ y := ⟨(h.1 y hy).1, (h.1 y hy).2.1, (h.1 y hy).2.2.1, (h.1 y hy).2.2.2, fun i a b => h.2.1 (4 * y + i) (by omega)⟩
theorem IEQ.nargs {σ τ : MS} {x y : Int} (h : IEQ σ x τ y) (hp : τ.2.1 11 = σ.2.1 11) : nArgs τ y = nArgs σ x := by
  unfold nArgs
  rw [h.1, h.2.2.1, h.2.2.2.1, hp]
theorem IEQ.oki {σ τ : MS} {x y F : Int} (h : IEQ σ x τ y) (hp : τ.2.1 11 = σ.2.1 11) (ho : OKI σ F x) : OKI τ F y := by
  unfold OKI at ho ⊢
  rw [h.nargs hp, h.1, h.2.1, h.2.2.1, h.2.2.2.1]
  obtain ⟨o1, o2, o3, o4, o5, o6, o7, o8, o9⟩ := ho
  refine ⟨o1, o2, o3, o4, o5, o6, o7, fun i c e => ?_, ?_⟩
  · rw [(h.2.2.2.2 i c e).1, (h.2.2.2.2 i c e).2]; exact o8 i c e
  · rw [(h.2.2.2.2 0 (by decide) (by decide)).1]; exact o9
theorem fCopy_off {f t : Int} {σ : MS} : OFF t σ (fCopy f t σ) := by
  refine ⟨fun y hy => ⟨?_, ?_, ?_, ?_⟩, fun z hz => ⟨?_, ?_⟩, Eq.refl _, Eq.refl _⟩
  · exact ra_o (by decide) (ra_o (by decide) (ra_o (by decide) (ra_o (by decide) (ra_o (by decide) (ra_o (by decide) (ra_o (by decide) (ra_o (by decide) (ra_o (by decide) (ra_o (by decide) (ra_o (by decide) (ra_ne hy (Eq.refl _))))))))))))
  · exact ra_o (by decide) (ra_o (by decide) (ra_o (by decide) (ra_o (by decide) (ra_o (by decide) (ra_o (by decide) (ra_o (by decide) (ra_o (by decide) (ra_o (by decide) (ra_o (by decide) (ra_ne hy (ra_o (by decide) (Eq.refl _))))))))))))
  · exact ra_o (by decide) (ra_o (by decide) (ra_o (by decide) (ra_o (by decide) (ra_o (by decide) (ra_o (by decide) (ra_o (by decide) (ra_o (by decide) (ra_o (by decide) (ra_ne hy (ra_o (by decide) (ra_o (by decide) (Eq.refl _))))))))))))
  · exact ra_o (by decide) (ra_o (by decide) (ra_o (by decide) (ra_o (by decide) (ra_o (by decide) (ra_o (by decide) (ra_o (by decide) (ra_o (by decide) (ra_ne hy (ra_o (by decide) (ra_o (by decide) (ra_o (by decide) (Eq.refl _))))))))))))
  · exact ra_o (by decide) (ra_ne (by omega) (ra_o (by decide) (ra_ne (by omega) (ra_o (by decide) (ra_ne (by omega) (ra_o (by decide) (ra_ne (by omega) (ra_o (by decide) (ra_o (by decide) (ra_o (by decide) (ra_o (by decide) (Eq.refl _))))))))))))
  · exact ra_ne (by omega) (ra_o (by decide) (ra_ne (by omega) (ra_o (by decide) (ra_ne (by omega) (ra_o (by decide) (ra_ne (by omega) (ra_o (by decide) (ra_o (by decide) (ra_o (by decide) (ra_o (by decide) (ra_o (by decide) (Eq.refl _))))))))))))
theorem fCopy_ieq {f t : Int} {σ : MS} : IEQ σ f (fCopy f t σ) t := by
  refine ⟨?_, ?_, ?_, ?_, fun i a b => ?_⟩
  · exact ra_o (by decide) (ra_o (by decide) (ra_o (by decide) (ra_o (by decide) (ra_o (by decide) (ra_o (by decide) (ra_o (by decide) (ra_o (by decide) (ra_o (by decide) (ra_o (by decide) (ra_o (by decide) ra_eq))))))))))
  · exact ra_o (by decide) (ra_o (by decide) (ra_o (by decide) (ra_o (by decide) (ra_o (by decide) (ra_o (by decide) (ra_o (by decide) (ra_o (by decide) (ra_o (by decide) (ra_o (by decide) ra_eq)))))))))
  · exact ra_o (by decide) (ra_o (by decide) (ra_o (by decide) (ra_o (by decide) (ra_o (by decide) (ra_o (by decide) (ra_o (by decide) (ra_o (by decide) (ra_o (by decide) ra_eq))))))))
  · exact ra_o (by decide) (ra_o (by decide) (ra_o (by decide) (ra_o (by decide) (ra_o (by decide) (ra_o (by decide) (ra_o (by decide) (ra_o (by decide) ra_eq)))))))
  · have h4 : i = 0 ∨ i = 1 ∨ i = 2 ∨ i = 3 := by omega
    rcases h4 with rfl | rfl | rfl | rfl
    · exact ⟨ra_o (by decide) (ra_ne (by omega) (ra_o (by decide) (ra_ne (by omega) (ra_o (by decide) (ra_ne (by omega) (ra_o (by decide) ra_eq)))))), ra_ne (by omega) (ra_o (by decide) (ra_ne (by omega) (ra_o (by decide) (ra_ne (by omega) (ra_o (by decide) ra_eq)))))⟩
    · exact ⟨ra_o (by decide) (ra_ne (by omega) (ra_o (by decide) (ra_ne (by omega) (ra_o (by decide) ra_eq)))), ra_ne (by omega) (ra_o (by decide) (ra_ne (by omega) (ra_o (by decide) ra_eq)))⟩
    · exact ⟨ra_o (by decide) (ra_ne (by omega) (ra_o (by decide) ra_eq)), ra_ne (by omega) (ra_o (by decide) ra_eq)⟩
    · exact ⟨ra_o (by decide) ra_eq, ra_eq⟩
theorem RG.copy {σ : MS} (h : RG σ) {f t : Int} : RG (fCopy f t σ) := (((((((((((h.A (h.a _ _)).A (h.a _ _)).A (h.a _ _)).A (h.a _ _)).A (h.a _ _)).A (h.a _ _)).A (h.a _ _)).A (h.a _ _)).A (h.a _ _)).A (h.a _ _)).A (h.a _ _)).A (h.a _ _)

theorem ml12_394 : Cond.methodLink RX12 394 yX12_copyItem ∈ pWW := pw9 (List.mem_of_getElem? (i := 25) rfl) rfl
theorem dX12_takeOut_2 : decode cX12_takeOut 2 = .ok (.iload_n 3, 1) := by decide +kernel
theorem dX12_takeOut_3 : decode cX12_takeOut 3 = .ok (.iconst 1, 1) := by decide +kernel
theorem dX12_takeOut_4 : decode cX12_takeOut 4 = .ok (.iadd, 1) := by decide +kernel
theorem dX12_takeOut_5 : decode cX12_takeOut 5 = .ok (.aload_n 0, 1) := by decide +kernel
theorem dX12_takeOut_6 : decode cX12_takeOut 6 = .ok (.getfield 32, 3) := by decide +kernel
theorem dX12_takeOut_9 : decode cX12_takeOut 9 = .ok (.iload_n 1, 1) := by decide +kernel
theorem dX12_takeOut_10 : decode cX12_takeOut 10 = .ok (.iaload, 1) := by decide +kernel
theorem dX12_takeOut_11 : decode cX12_takeOut 11 = .ok (.if_icmp .ge 27, 3) := by decide +kernel
theorem dX12_takeOut_14 : decode cX12_takeOut 14 = .ok (.aload_n 0, 1) := by decide +kernel
theorem dX12_takeOut_15 : decode cX12_takeOut 15 = .ok (.aload_n 0, 1) := by decide +kernel
theorem dX12_takeOut_16 : decode cX12_takeOut 16 = .ok (.iload_n 1, 1) := by decide +kernel
theorem dX12_takeOut_17 : decode cX12_takeOut 17 = .ok (.iload_n 3, 1) := by decide +kernel
theorem dX12_takeOut_18 : decode cX12_takeOut 18 = .ok (.iconst 1, 1) := by decide +kernel
theorem dX12_takeOut_19 : decode cX12_takeOut 19 = .ok (.iadd, 1) := by decide +kernel
theorem dX12_takeOut_20 : decode cX12_takeOut 20 = .ok (.invokevirtual 203, 3) := by decide +kernel
theorem dX12_takeOut_23 : decode cX12_takeOut 23 = .ok (.aload_n 0, 1) := by decide +kernel
theorem dX12_takeOut_24 : decode cX12_takeOut 24 = .ok (.iload_n 1, 1) := by decide +kernel
theorem dX12_takeOut_25 : decode cX12_takeOut 25 = .ok (.iload_n 3, 1) := by decide +kernel
theorem dX12_takeOut_26 : decode cX12_takeOut 26 = .ok (.invokevirtual 203, 3) := by decide +kernel
theorem dX12_takeOut_29 : decode cX12_takeOut 29 = .ok (.invokevirtual 394, 3) := by decide +kernel
theorem dX12_takeOut_32 : decode cX12_takeOut 32 = .ok (.iinc 3 1, 3) := by decide +kernel
theorem dX12_takeOut_35 : decode cX12_takeOut 35 = .ok (.goto (-33), 3) := by decide +kernel
set_option maxHeartbeats 4000000 in
set_option maxRecDepth 20000 in
theorem l_takeOut (d : Nat) {b : Nat} {σ0 : MS} {r : Int} {k : Int} {post : Option Value → MS → Prop} (hr : 0 ≤ r ∧ r < 6) (hR0 : RG σ0) (hit : 0 ≤ σ0.2.1 9 r ∧ σ0.2.1 9 r ≤ 220) (hk : 0 ≤ k ∧ k < σ0.2.1 9 r) (hx_38 : ∀ (i : Int) (σ : MS) , (Fr [] [3, 4, 5, 6, 7, 8] [] σ0 σ) → (RG σ) → (XO r σ0 σ) → (∀ j, 0 ≤ j → j < k → IEQ σ0 (220 * r + j) σ (220 * r + j)) → (∀ j, k ≤ j → j < σ0.2.1 9 r - 1 → IEQ σ0 (220 * r + (j + 1)) σ (220 * r + j)) → Tm (d + 2) m_X12_takeOut 38 b σ [(3, .int (iI i)), (0, .ref b), (1, .int (iI r)), (2, .int (iI k))] [] post) : ∀ (n : Nat) (i : Int) (σ : MS) , (Fr [] [3, 4, 5, 6, 7, 8] [] σ0 σ) → (RG σ) → (k ≤ i ∧ i < σ0.2.1 9 r) → (XO r σ0 σ) → (∀ j, 0 ≤ j → j < k → IEQ σ0 (220 * r + j) σ (220 * r + j)) → (∀ j, k ≤ j → j < i → IEQ σ0 (220 * r + (j + 1)) σ (220 * r + j)) → (∀ j, i ≤ j → j < 220 → IEQ σ0 (220 * r + j) σ (220 * r + j)) → (220 - i).toNat = n → Tm (d + 2) m_X12_takeOut 2 b σ [(3, .int (iI i)), (0, .ref b), (1, .int (iI r)), (2, .int (iI k))] [] post := by
  intro n
  induction n using Nat.strongRecOn with
  | _ n ih =>
    intro i σ hF hR h0 hxo hlo hmi hhi hm
    refine tm_iload_n dX12_takeOut_2 rfl 0 rfl ?_
    refine tm_iconst dX12_takeOut_3 ?_
    refine tm_iadd dX12_takeOut_4 ?_
    refine tm_aload_n dX12_takeOut_5 rfl 1 rfl ?_
    refine tm_get (k := 9) (v := .ref (b + 1 + 7)) lay_12 dX12_takeOut_6 (by decide) fl12_32 rfl ?_
    refine tm_iload_n dX12_takeOut_9 rfl 2 rfl ?_
    refine tm_iald (z := r) (v := σ0.2.1 9 r) dX12_takeOut_10 (show mT[7]? = some (9, 0, 13) from rfl) (by omega) (by omega) (by decide) (ra_F hF (by decide) (rfl)) ?_
    have g1 := RG.a hR0 9 (r)
    refine tm_icmp_ge (tgt := 38) dX12_takeOut_11 (by decide) ⟨by omega, by omega⟩ ⟨by omega, by omega⟩ (fun h2 => ?_) (fun h2 => ?_)
    · exact tm_sub [0, 1, 2, 3] rfl (hx_38 (i) σ (Fr.rfl.trans (Fr.sub hF (by decide) (by decide) (by decide))) hR hxo hlo (fun j a c => hmi j a (by omega)))
    · refine tm_aload_n dX12_takeOut_14 rfl 1 rfl ?_
      refine tm_aload_n dX12_takeOut_15 rfl 1 rfl ?_
      refine tm_iload_n dX12_takeOut_16 rfl 2 rfl ?_
      refine tm_iload_n dX12_takeOut_17 rfl 0 rfl ?_
      refine tm_iconst dX12_takeOut_18 ?_
      refine tm_iadd dX12_takeOut_19 ?_
      refine tm_callV (M := m_X12_takeOut) (pc := 20) (ix := 203) (M' := m_X12_at) (As := [.int (iI r), .int (iI (i + 1))]) (rest := [.ref b]) dX12_takeOut_20 ok_X12_at im_X12_at se_X12_at ml12_203 np_X12_at rfl rfl (Nat.le_of_ble_eq_true rfl) (Nat.le_of_ble_eq_true rfl) rfl (c_X12_at (d) (σ := σ) (x := r) (k := i + 1) ) (fun r3 σ4 hp => ?_)
      obtain ⟨v5, rfl, rfl, f6⟩ := hp
      subst f6
      show Tm _ _ 23 b σ [(3, .int (iI i)), (0, .ref b), (1, .int (iI r)), (2, .int (iI k))] [.int (iI (220 * r + (i + 1))), .ref b] _
      refine tm_aload_n dX12_takeOut_23 rfl 1 rfl ?_
      refine tm_iload_n dX12_takeOut_24 rfl 2 rfl ?_
      refine tm_iload_n dX12_takeOut_25 rfl 0 rfl ?_
      refine tm_callV (M := m_X12_takeOut) (pc := 26) (ix := 203) (M' := m_X12_at) (As := [.int (iI r), .int (iI i)]) (rest := [.int (iI (220 * r + (i + 1))), .ref b]) dX12_takeOut_26 ok_X12_at im_X12_at se_X12_at ml12_203 np_X12_at rfl rfl (Nat.le_of_ble_eq_true rfl) (Nat.le_of_ble_eq_true rfl) rfl (c_X12_at (d) (σ := σ) (x := r) (k := i) ) (fun r7 σ8 hp => ?_)
      obtain ⟨v9, rfl, rfl, f10⟩ := hp
      subst f10
      show Tm _ _ 29 b σ [(3, .int (iI i)), (0, .ref b), (1, .int (iI r)), (2, .int (iI k))] [.int (iI (220 * r + i)), .int (iI (220 * r + (i + 1))), .ref b] _
      refine tm_callV (M := m_X12_takeOut) (pc := 29) (ix := 394) (M' := m_X12_copyItem) (As := [.int (iI (220 * r + (i + 1))), .int (iI (220 * r + i))]) (rest := []) dX12_takeOut_29 ok_X12_copyItem im_X12_copyItem se_X12_copyItem ml12_394 np_X12_copyItem rfl rfl (Nat.le_of_ble_eq_true rfl) (Nat.le_of_ble_eq_true rfl) rfl (c_X12_copyItem (d) (σ := σ) (f := 220 * r + (i + 1)) (t := 220 * r + i) (by omega) (by omega)) (fun r11 σ12 hp => ?_)
      obtain ⟨rfl, f14⟩ := hp
      subst f14
      show Tm _ _ 32 b (fCopy (220 * r + (i + 1)) (220 * r + i) σ) [(3, .int (iI i)), (0, .ref b), (1, .int (iI r)), (2, .int (iI k))] [] _
      refine tm_iinc (q0 := 0) (L' := [(3, .int (iI (i + 1))), (0, .ref b), (1, .int (iI r)), (2, .int (iI k))]) dX12_takeOut_32 rfl (by decide) rfl ?_
      refine tm_goto (tgt := 2) dX12_takeOut_35 (by decide) ?_
      exact tm_sub [0, 1, 2, 3] rfl (ih _ (by omega) (i + 1) (fCopy (220 * r + (i + 1)) (220 * r + i) σ) ((Fr.rfl.trans (Fr.sub hF (by decide) (by decide) (by decide))).trans (Fr.sub fCopy_fr (by decide) (by decide) (by decide))) (hR.copy) (by omega) (hxo.trans (fCopy_off.xo (by omega) (by omega))) (fun j a c => (hlo j a c).trans (fCopy_off.ieq (by omega))) (fun j a c => by
          by_cases z : j = i
          · subst z; exact (hhi (j + 1) (by omega) (by omega)).trans fCopy_ieq
          · exact (hmi j a (by omega)).trans (fCopy_off.ieq (by omega))) (fun j a c => (hhi j (by omega) c).trans (fCopy_off.ieq (by omega))) rfl)
theorem dX12_takeOut_0 : decode cX12_takeOut 0 = .ok (.iload_n 2, 1) := by decide +kernel
theorem dX12_takeOut_1 : decode cX12_takeOut 1 = .ok (.istore_n 3, 1) := by decide +kernel
theorem dX12_takeOut_38 : decode cX12_takeOut 38 = .ok (.aload_n 0, 1) := by decide +kernel
theorem dX12_takeOut_39 : decode cX12_takeOut 39 = .ok (.getfield 32, 3) := by decide +kernel
theorem dX12_takeOut_42 : decode cX12_takeOut 42 = .ok (.iload_n 1, 1) := by decide +kernel
theorem dX12_takeOut_43 : decode cX12_takeOut 43 = .ok (.dup2, 1) := by decide +kernel
theorem dX12_takeOut_44 : decode cX12_takeOut 44 = .ok (.iaload, 1) := by decide +kernel
theorem dX12_takeOut_45 : decode cX12_takeOut 45 = .ok (.iconst 1, 1) := by decide +kernel
theorem dX12_takeOut_46 : decode cX12_takeOut 46 = .ok (.isub, 1) := by decide +kernel
theorem dX12_takeOut_47 : decode cX12_takeOut 47 = .ok (.iastore, 1) := by decide +kernel
theorem dX12_takeOut_48 : decode cX12_takeOut 48 = .ok (.return_, 1) := by decide +kernel
set_option maxHeartbeats 4000000 in
set_option maxRecDepth 20000 in
theorem c_X12_takeOut (d : Nat) {b : Nat} {σ : MS} {r : Int} {k : Int} (hr : 0 ≤ r ∧ r < 6) (hR : RG σ) (hit : ITM σ) (hk : 0 ≤ k ∧ k < σ.2.1 9 r) : Tm (d + 2) m_X12_takeOut 0 b σ [(0, .ref b), (1, .int (iI r)), (2, .int (iI k))] [] (fun ro σ2 => ro = none ∧ (Fr [] [3, 4, 5, 6, 7, 8, 9] [] σ σ2) ∧ (RG σ2) ∧ (XO r σ σ2) ∧ (∀ j, 0 ≤ j → j < k → IEQ σ (220 * r + j) σ2 (220 * r + j)) ∧ (∀ j, k ≤ j → j < σ.2.1 9 r - 1 → IEQ σ (220 * r + (j + 1)) σ2 (220 * r + j)) ∧ (σ2.2.1 9 r = σ.2.1 9 r - 1) ∧ (∀ j, j ≠ r → σ2.2.1 9 j = σ.2.1 9 j)) := by
  have q1 := hit r (by omega) (by omega)
  refine tm_iload_n dX12_takeOut_0 rfl 2 rfl ?_
  refine tm_istore_n (L' := [(3, .int (iI k)), (0, .ref b), (1, .int (iI r)), (2, .int (iI k))]) dX12_takeOut_1 rfl (by decide) rfl ?_
  refine tm_sub [0, 1, 2, 3] rfl (l_takeOut (d) (σ0 := σ) (r := r) (k := k) hr hR q1 hk (fun i8 σ9 F3 R4 f5 f6 f7 => ?_) _ (k) σ Fr.rfl hR (by omega) XO.rfl (fun j a c => IEQ.rfl) (fun j a c => by omega) (fun j a c => IEQ.rfl) rfl)
  show Tm _ _ 38 b σ9 [(3, .int (iI i8)), (0, .ref b), (1, .int (iI r)), (2, .int (iI k))] [] _
  refine tm_aload_n dX12_takeOut_38 rfl 1 rfl ?_
  refine tm_get (k := 9) (v := .ref (b + 1 + 7)) lay_12 dX12_takeOut_39 (by decide) fl12_32 rfl ?_
  refine tm_iload_n dX12_takeOut_42 rfl 2 rfl ?_
  refine tm_dup2 dX12_takeOut_43 rfl rfl ?_
  refine tm_iald (z := r) (v := σ.2.1 9 r) dX12_takeOut_44 (show mT[7]? = some (9, 0, 13) from rfl) (by omega) (by omega) (by decide) (ra_F F3 (by decide) (rfl)) ?_
  have g10 := RG.a hR 9 (r)
  refine tm_iconst dX12_takeOut_45 ?_
  refine tm_isub dX12_takeOut_46 ?_
  refine tm_iast (z := r) (v := (σ.2.1 9 r) - 1) dX12_takeOut_47 (show mT[7]? = some (9, 0, 13) from rfl) (by omega) (by omega) (by decide) ?_
  exact tm_vret rfl dX12_takeOut_48 (⟨rfl, ((Fr.rfl.trans (Fr.sub F3 (by decide) (by decide) (by decide))).A (by decide)), (R4.A (by omega)), f5, f6, f7, ra_eq, fun j hj => ra_ne hj (by rw [F3.2.1 9 (by decide)])⟩)
end
section
def ch (p : Int → Int) : Nat → Int → Int
  | 0, _ => 0
  | n + 1, f => if f = -1 then 0 else 1 + ch p n (p f)
theorem ch_fuel {p : Int → Int} {F : Int} (hp : ∀ f, 0 ≤ f → f < F → -1 ≤ p f ∧ p f < f) : ∀ (n m : Nat) (f : Int), -1 ≤ f → f < F → f + 1 ≤ n → f + 1 ≤ m → ch p n f = ch p m f := by
  intro n
  induction n with
  | zero =>
    intro m f h0 h1 h2 h3
    have e : f = -1 := by omega
    subst e
    cases m with
    | zero => rfl
    | succ m => simp [ch]
  | succ n ih =>
    intro m f h0 h1 h2 h3
    cases m with
    | zero =>
      have e : f = -1 := by omega
      subst e
      simp [ch]
    | succ m =>
      by_cases e : f = -1
      · subst e; simp [ch]
      · simp only [ch, if_neg e]
        have := hp f (by omega) h1
        rw [ih m (p f) this.1 (by omega) (by omega) (by omega)]
def pr (σ : MS) (m c f : Int) : Int := if m = 2 then -1 else σ.2.1 16 (12 * σ.2.1 78 c + f)
def DEC (σ : MS) (m c F : Int) : Prop := (0 ≤ σ.2.1 78 c ∧ σ.2.1 78 c < 6) ∧ (-1 ≤ σ.2.1 80 c ∧ σ.2.1 80 c < F ∧ F ≤ 12) ∧ ∀ f, 0 ≤ f → f < F → -1 ≤ pr σ m c f ∧ pr σ m c f < f
def dch (σ : MS) (m c : Int) : Int := ch (pr σ m c) 13 (σ.2.1 80 c)
theorem dch_step {σ : MS} {m c F f : Int} (h : DEC σ m c F) (h0 : 0 ≤ f) (h1 : f < F) : ch (pr σ m c) 13 f = 1 + ch (pr σ m c) 13 (pr σ m c f) := by
  have e : ch (pr σ m c) 13 f = 1 + ch (pr σ m c) 12 (pr σ m c f) := by
    show (if f = -1 then 0 else 1 + ch (pr σ m c) 12 (pr σ m c f)) = _
    rw [if_neg (by omega)]
  have := h.2.2 f h0 h1
  have h12 := h.2.1.2.2
  rw [e, ch_fuel h.2.2 12 13 (pr σ m c f) this.1 (by omega) (by omega) (by omega)]
theorem ch_m1 (p : Int → Int) : ch p 13 (-1) = 0 := by simp [ch]
def sm (g : Int → Int) : Nat → Int
  | 0 => 0
  | n + 1 => sm g n + g n
def dpt (σ : MS) (m : Int) : Int := sm (fun j => dch σ m (9 * m + j)) (σ.2.1 73 m).toNat
theorem ch_rng {p : Int → Int} : ∀ (n : Nat) (f : Int), 0 ≤ ch p n f ∧ ch p n f ≤ n := by
  intro n
  induction n with
  | zero => intro f; simp [ch]
  | succ n ih =>
    intro f
    simp only [ch]
    have := ih (p f)
    split <;> omega

theorem dX12_arePrintsAlike_23 : decode cX12_arePrintsAlike 23 = .ok (.iload_n 2, 1) := by decide +kernel
theorem dX12_arePrintsAlike_24 : decode cX12_arePrintsAlike 24 = .ok (.sipush 200, 3) := by decide +kernel
theorem dX12_arePrintsAlike_27 : decode cX12_arePrintsAlike 27 = .ok (.if_icmp .ge 52, 3) := by decide +kernel
theorem dX12_arePrintsAlike_30 : decode cX12_arePrintsAlike 30 = .ok (.iload_n 2, 1) := by decide +kernel
theorem dX12_arePrintsAlike_31 : decode cX12_arePrintsAlike 31 = .ok (.aload_n 0, 1) := by decide +kernel
theorem dX12_arePrintsAlike_32 : decode cX12_arePrintsAlike 32 = .ok (.getfield 161, 3) := by decide +kernel
theorem dX12_arePrintsAlike_35 : decode cX12_arePrintsAlike 35 = .ok (.iconst 1, 1) := by decide +kernel
theorem dX12_arePrintsAlike_36 : decode cX12_arePrintsAlike 36 = .ok (.iaload, 1) := by decide +kernel
theorem dX12_arePrintsAlike_37 : decode cX12_arePrintsAlike 37 = .ok (.if_icmp .ge 42, 3) := by decide +kernel
theorem dX12_arePrintsAlike_40 : decode cX12_arePrintsAlike 40 = .ok (.iload_n 1, 1) := by decide +kernel
theorem dX12_arePrintsAlike_41 : decode cX12_arePrintsAlike 41 = .ok (.ifCond .eq 38, 3) := by decide +kernel
theorem dX12_arePrintsAlike_44 : decode cX12_arePrintsAlike 44 = .ok (.aload_n 0, 1) := by decide +kernel
theorem dX12_arePrintsAlike_45 : decode cX12_arePrintsAlike 45 = .ok (.getfield 164, 3) := by decide +kernel
theorem dX12_arePrintsAlike_48 : decode cX12_arePrintsAlike 48 = .ok (.sipush 200, 3) := by decide +kernel
theorem dX12_arePrintsAlike_51 : decode cX12_arePrintsAlike 51 = .ok (.iload_n 2, 1) := by decide +kernel
theorem dX12_arePrintsAlike_52 : decode cX12_arePrintsAlike 52 = .ok (.iadd, 1) := by decide +kernel
theorem dX12_arePrintsAlike_53 : decode cX12_arePrintsAlike 53 = .ok (.iaload, 1) := by decide +kernel
theorem dX12_arePrintsAlike_54 : decode cX12_arePrintsAlike 54 = .ok (.aload_n 0, 1) := by decide +kernel
theorem dX12_arePrintsAlike_55 : decode cX12_arePrintsAlike 55 = .ok (.getfield 164, 3) := by decide +kernel
theorem dX12_arePrintsAlike_58 : decode cX12_arePrintsAlike 58 = .ok (.sipush 400, 3) := by decide +kernel
theorem dX12_arePrintsAlike_61 : decode cX12_arePrintsAlike 61 = .ok (.iload_n 2, 1) := by decide +kernel
theorem dX12_arePrintsAlike_62 : decode cX12_arePrintsAlike 62 = .ok (.iadd, 1) := by decide +kernel
theorem dX12_arePrintsAlike_63 : decode cX12_arePrintsAlike 63 = .ok (.iaload, 1) := by decide +kernel
theorem dX12_arePrintsAlike_64 : decode cX12_arePrintsAlike 64 = .ok (.if_icmp .ne 7, 3) := by decide +kernel
theorem dX12_arePrintsAlike_71 : decode cX12_arePrintsAlike 71 = .ok (.iconst 0, 1) := by decide +kernel
theorem dX12_arePrintsAlike_72 : decode cX12_arePrintsAlike 72 = .ok (.istore_n 1, 1) := by decide +kernel
theorem dX12_arePrintsAlike_73 : decode cX12_arePrintsAlike 73 = .ok (.iinc 2 1, 3) := by decide +kernel
theorem dX12_arePrintsAlike_76 : decode cX12_arePrintsAlike 76 = .ok (.goto (-53), 3) := by decide +kernel
theorem dX12_arePrintsAlike_67 : decode cX12_arePrintsAlike 67 = .ok (.iconst 1, 1) := by decide +kernel
theorem dX12_arePrintsAlike_68 : decode cX12_arePrintsAlike 68 = .ok (.goto 4, 3) := by decide +kernel
set_option maxHeartbeats 4000000 in
set_option maxRecDepth 20000 in
theorem l_prints (d : Nat) {b : Nat} {σ : MS} {post : Option Value → MS → Prop} (hR : RG σ) (hx_79 : ∀ (w : Int) (i : Int) , (w = 0 ∨ w = 1) → Tm (d + 1) m_X12_arePrintsAlike 79 b σ [(2, .int (iI i)), (1, .int (iI w)), (0, .ref b)] [] post) : ∀ (n : Nat) (w : Int) (i : Int) , ((w = 0 ∨ w = 1) ∧ 0 ≤ i ∧ i ≤ 200) → (200 - i).toNat = n → Tm (d + 1) m_X12_arePrintsAlike 23 b σ [(2, .int (iI i)), (1, .int (iI w)), (0, .ref b)] [] post := by
  intro n
  induction n using Nat.strongRecOn with
  | _ n ih =>
    intro w i h0 hm
    refine tm_iload_n dX12_arePrintsAlike_23 rfl 0 rfl ?_
    refine tm_sipush dX12_arePrintsAlike_24 (by decide) ?_
    refine tm_icmp_ge (tgt := 79) dX12_arePrintsAlike_27 (by decide) ⟨by omega, by omega⟩ ⟨by decide, by decide⟩ (fun h1 => ?_) (fun h1 => ?_)
    · exact tm_sub [0, 1, 2] rfl (hx_79 (w) (i) (by omega))
    · refine tm_iload_n dX12_arePrintsAlike_30 rfl 0 rfl ?_
      refine tm_aload_n dX12_arePrintsAlike_31 rfl 2 rfl ?_
      refine tm_get (k := 76) (v := .ref (b + 1 + 47)) lay_12 dX12_arePrintsAlike_32 (by decide) fl12_161 rfl ?_
      refine tm_iconst dX12_arePrintsAlike_35 ?_
      refine tm_iald (z := 1) (v := σ.2.1 76 1) dX12_arePrintsAlike_36 (show mT[47]? = some (76, 0, 3) from rfl) (by omega) (by omega) (by decide) (rfl) ?_
      have g2 := RG.a hR 76 (1)
      refine tm_icmp_ge (tgt := 79) dX12_arePrintsAlike_37 (by decide) ⟨by omega, by omega⟩ ⟨by omega, by omega⟩ (fun h3 => ?_) (fun h3 => ?_)
      · exact tm_sub [0, 1, 2] rfl (hx_79 (w) (i) (by omega))
      · refine tm_iload_n dX12_arePrintsAlike_40 rfl 1 rfl ?_
        refine tm_if_eq (tgt := 79) dX12_arePrintsAlike_41 (by decide) ⟨by omega, by omega⟩ (fun h4 => ?_) (fun h4 => ?_)
        · exact tm_sub [0, 1, 2] rfl (hx_79 (w) (i) (by omega))
        · refine tm_aload_n dX12_arePrintsAlike_44 rfl 2 rfl ?_
          refine tm_get (k := 77) (v := .ref (b + 1 + 48)) lay_12 dX12_arePrintsAlike_45 (by decide) fl12_164 rfl ?_
          refine tm_sipush dX12_arePrintsAlike_48 (by decide) ?_
          refine tm_iload_n dX12_arePrintsAlike_51 rfl 0 rfl ?_
          refine tm_iadd dX12_arePrintsAlike_52 ?_
          refine tm_iald (z := 200 + i) (v := σ.2.1 77 (200 + i)) dX12_arePrintsAlike_53 (show mT[48]? = some (77, 0, 600) from rfl) (by omega) (by omega) (by decide) (rfl) ?_
          have g5 := RG.a hR 77 (200 + i)
          refine tm_aload_n dX12_arePrintsAlike_54 rfl 2 rfl ?_
          refine tm_get (k := 77) (v := .ref (b + 1 + 48)) lay_12 dX12_arePrintsAlike_55 (by decide) fl12_164 rfl ?_
          refine tm_sipush dX12_arePrintsAlike_58 (by decide) ?_
          refine tm_iload_n dX12_arePrintsAlike_61 rfl 0 rfl ?_
          refine tm_iadd dX12_arePrintsAlike_62 ?_
          refine tm_iald (z := 400 + i) (v := σ.2.1 77 (400 + i)) dX12_arePrintsAlike_63 (show mT[48]? = some (77, 0, 600) from rfl) (by omega) (by omega) (by decide) (rfl) ?_
          have g6 := RG.a hR 77 (400 + i)
          refine tm_icmp_ne (tgt := 71) dX12_arePrintsAlike_64 (by decide) ⟨by omega, by omega⟩ ⟨by omega, by omega⟩ (fun h7 => ?_) (fun h7 => ?_)
          · refine tm_iconst dX12_arePrintsAlike_71 ?_
            refine tm_istore_n (L' := [(1, .int (iI 0)), (2, .int (iI i)), (0, .ref b)]) dX12_arePrintsAlike_72 rfl (by decide) rfl ?_
            refine tm_iinc (q0 := 1) (L' := [(2, .int (iI (i + 1))), (1, .int (iI 0)), (0, .ref b)]) dX12_arePrintsAlike_73 rfl (by decide) rfl ?_
            refine tm_goto (tgt := 23) dX12_arePrintsAlike_76 (by decide) ?_
            exact tm_sub [0, 1, 2] rfl (ih _ (by omega) (0) (i + 1) (by omega) rfl)
          · refine tm_iconst dX12_arePrintsAlike_67 ?_
            refine tm_goto (tgt := 72) dX12_arePrintsAlike_68 (by decide) ?_
            refine tm_istore_n (L' := [(1, .int (iI 1)), (2, .int (iI i)), (0, .ref b)]) dX12_arePrintsAlike_72 rfl (by decide) rfl ?_
            refine tm_iinc (q0 := 1) (L' := [(2, .int (iI (i + 1))), (1, .int (iI 1)), (0, .ref b)]) dX12_arePrintsAlike_73 rfl (by decide) rfl ?_
            refine tm_goto (tgt := 23) dX12_arePrintsAlike_76 (by decide) ?_
            exact tm_sub [0, 1, 2] rfl (ih _ (by omega) (1) (i + 1) (by omega) rfl)
theorem dX12_arePrintsAlike_0 : decode cX12_arePrintsAlike 0 = .ok (.aload_n 0, 1) := by decide +kernel
theorem dX12_arePrintsAlike_1 : decode cX12_arePrintsAlike 1 = .ok (.getfield 161, 3) := by decide +kernel
theorem dX12_arePrintsAlike_4 : decode cX12_arePrintsAlike 4 = .ok (.iconst 1, 1) := by decide +kernel
theorem dX12_arePrintsAlike_5 : decode cX12_arePrintsAlike 5 = .ok (.iaload, 1) := by decide +kernel
theorem dX12_arePrintsAlike_6 : decode cX12_arePrintsAlike 6 = .ok (.aload_n 0, 1) := by decide +kernel
theorem dX12_arePrintsAlike_7 : decode cX12_arePrintsAlike 7 = .ok (.getfield 161, 3) := by decide +kernel
theorem dX12_arePrintsAlike_10 : decode cX12_arePrintsAlike 10 = .ok (.iconst 2, 1) := by decide +kernel
theorem dX12_arePrintsAlike_11 : decode cX12_arePrintsAlike 11 = .ok (.iaload, 1) := by decide +kernel
theorem dX12_arePrintsAlike_12 : decode cX12_arePrintsAlike 12 = .ok (.if_icmp .ne 7, 3) := by decide +kernel
theorem dX12_arePrintsAlike_19 : decode cX12_arePrintsAlike 19 = .ok (.iconst 0, 1) := by decide +kernel
theorem dX12_arePrintsAlike_20 : decode cX12_arePrintsAlike 20 = .ok (.istore_n 1, 1) := by decide +kernel
theorem dX12_arePrintsAlike_21 : decode cX12_arePrintsAlike 21 = .ok (.iconst 0, 1) := by decide +kernel
theorem dX12_arePrintsAlike_22 : decode cX12_arePrintsAlike 22 = .ok (.istore_n 2, 1) := by decide +kernel
theorem dX12_arePrintsAlike_79 : decode cX12_arePrintsAlike 79 = .ok (.iload_n 1, 1) := by decide +kernel
theorem dX12_arePrintsAlike_80 : decode cX12_arePrintsAlike 80 = .ok (.ireturn, 1) := by decide +kernel
theorem dX12_arePrintsAlike_15 : decode cX12_arePrintsAlike 15 = .ok (.iconst 1, 1) := by decide +kernel
theorem dX12_arePrintsAlike_16 : decode cX12_arePrintsAlike 16 = .ok (.goto 4, 3) := by decide +kernel
set_option maxHeartbeats 4000000 in
set_option maxRecDepth 20000 in
theorem c_X12_arePrintsAlike (d : Nat) {b : Nat} {σ : MS} (hR : RG σ) : Tm (d + 1) m_X12_arePrintsAlike 0 b σ [(0, .ref b)] [] (fun ro σ2 => ∃ v : Int, ro = some (.int (iI v)) ∧ σ = σ2 ∧ ((v = 0 ∨ v = 1))) := by
  refine tm_aload_n dX12_arePrintsAlike_0 rfl 0 rfl ?_
  refine tm_get (k := 76) (v := .ref (b + 1 + 47)) lay_12 dX12_arePrintsAlike_1 (by decide) fl12_161 rfl ?_
  refine tm_iconst dX12_arePrintsAlike_4 ?_
  refine tm_iald (z := 1) (v := σ.2.1 76 1) dX12_arePrintsAlike_5 (show mT[47]? = some (76, 0, 3) from rfl) (by omega) (by omega) (by decide) (rfl) ?_
  have g1 := RG.a hR 76 (1)
  refine tm_aload_n dX12_arePrintsAlike_6 rfl 0 rfl ?_
  refine tm_get (k := 76) (v := .ref (b + 1 + 47)) lay_12 dX12_arePrintsAlike_7 (by decide) fl12_161 rfl ?_
  refine tm_iconst dX12_arePrintsAlike_10 ?_
  refine tm_iald (z := 2) (v := σ.2.1 76 2) dX12_arePrintsAlike_11 (show mT[47]? = some (76, 0, 3) from rfl) (by omega) (by omega) (by decide) (rfl) ?_
  have g2 := RG.a hR 76 (2)
  refine tm_icmp_ne (tgt := 19) dX12_arePrintsAlike_12 (by decide) ⟨by omega, by omega⟩ ⟨by omega, by omega⟩ (fun h3 => ?_) (fun h3 => ?_)
  · refine tm_iconst dX12_arePrintsAlike_19 ?_
    refine tm_istore_n (L' := [(1, .int (iI 0)), (0, .ref b)]) dX12_arePrintsAlike_20 rfl (by decide) rfl ?_
    refine tm_iconst dX12_arePrintsAlike_21 ?_
    refine tm_istore_n (L' := [(2, .int (iI 0)), (1, .int (iI 0)), (0, .ref b)]) dX12_arePrintsAlike_22 rfl (by decide) rfl ?_
    refine tm_sub [0, 1, 2] rfl (l_prints (d) (σ := σ) hR (fun w9 i10 f8 => ?_) _ (0) (0) (by omega) rfl)
    show Tm _ _ 79 b σ [(2, .int (iI i10)), (1, .int (iI w9)), (0, .ref b)] [] _
    refine tm_iload_n dX12_arePrintsAlike_79 rfl 1 rfl ?_
    exact tm_zret (v := w9) rfl (by omega) dX12_arePrintsAlike_80 (⟨_, rfl, rfl, by omega⟩)
  · refine tm_iconst dX12_arePrintsAlike_15 ?_
    refine tm_goto (tgt := 20) dX12_arePrintsAlike_16 (by decide) ?_
    refine tm_istore_n (L' := [(1, .int (iI 1)), (0, .ref b)]) dX12_arePrintsAlike_20 rfl (by decide) rfl ?_
    refine tm_iconst dX12_arePrintsAlike_21 ?_
    refine tm_istore_n (L' := [(2, .int (iI 0)), (1, .int (iI 1)), (0, .ref b)]) dX12_arePrintsAlike_22 rfl (by decide) rfl ?_
    refine tm_sub [0, 1, 2] rfl (l_prints (d) (σ := σ) hR (fun w16 i17 f15 => ?_) _ (1) (0) (by omega) rfl)
    show Tm _ _ 79 b σ [(2, .int (iI i17)), (1, .int (iI w16)), (0, .ref b)] [] _
    refine tm_iload_n dX12_arePrintsAlike_79 rfl 1 rfl ?_
    exact tm_zret (v := w16) rfl (by omega) dX12_arePrintsAlike_80 (⟨_, rfl, rfl, by omega⟩)
theorem dX12_depth_30 : decode cX12_depth 30 = .ok (.iload 4, 2) := by decide +kernel
theorem dX12_depth_32 : decode cX12_depth 32 = .ok (.iconst (-1), 1) := by decide +kernel
theorem dX12_depth_33 : decode cX12_depth 33 = .ok (.if_icmp .eq 37, 3) := by decide +kernel
theorem dX12_depth_36 : decode cX12_depth 36 = .ok (.iinc 2 1, 3) := by decide +kernel
theorem dX12_depth_39 : decode cX12_depth 39 = .ok (.iload_n 1, 1) := by decide +kernel
theorem dX12_depth_40 : decode cX12_depth 40 = .ok (.iconst 2, 1) := by decide +kernel
theorem dX12_depth_41 : decode cX12_depth 41 = .ok (.if_icmp .ne 7, 3) := by decide +kernel
theorem dX12_depth_48 : decode cX12_depth 48 = .ok (.aload_n 0, 1) := by decide +kernel
theorem dX12_depth_49 : decode cX12_depth 49 = .ok (.getfield 50, 3) := by decide +kernel
theorem dX12_depth_52 : decode cX12_depth 52 = .ok (.bipush 12, 2) := by decide +kernel
theorem dX12_depth_54 : decode cX12_depth 54 = .ok (.aload_n 0, 1) := by decide +kernel
theorem dX12_depth_55 : decode cX12_depth 55 = .ok (.getfield 167, 3) := by decide +kernel
theorem dX12_depth_58 : decode cX12_depth 58 = .ok (.iload_n 3, 1) := by decide +kernel
theorem dX12_depth_59 : decode cX12_depth 59 = .ok (.iaload, 1) := by decide +kernel
theorem dX12_depth_60 : decode cX12_depth 60 = .ok (.imul, 1) := by decide +kernel
theorem dX12_depth_61 : decode cX12_depth 61 = .ok (.iload 4, 2) := by decide +kernel
theorem dX12_depth_63 : decode cX12_depth 63 = .ok (.iadd, 1) := by decide +kernel
theorem dX12_depth_64 : decode cX12_depth 64 = .ok (.iaload, 1) := by decide +kernel
theorem dX12_depth_65 : decode cX12_depth 65 = .ok (.istore 4, 2) := by decide +kernel
theorem dX12_depth_67 : decode cX12_depth 67 = .ok (.goto (-37), 3) := by decide +kernel
theorem dX12_depth_44 : decode cX12_depth 44 = .ok (.iconst (-1), 1) := by decide +kernel
theorem dX12_depth_45 : decode cX12_depth 45 = .ok (.goto 20, 3) := by decide +kernel
set_option maxHeartbeats 4000000 in
set_option maxRecDepth 20000 in
theorem l_depth2 (d : Nat) {b : Nat} {σ : MS} {m : Int} {c : Int} {F : Int} {N0 : Int} {post : Option Value → MS → Prop} (hR : RG σ) (hm2 : 0 ≤ m ∧ m ≤ 2) (hc : 0 ≤ c ∧ c < 27) (hd : DEC σ m c F) (hN : N0 ≤ 190) (hx_70 : ∀ (n1 : Int) (f : Int) , (n1 = N0) → Tm (d + 1) m_X12_depth 70 b σ [(4, .int (iI f)), (3, .int (iI c)), (2, .int (iI n1)), (0, .ref b), (1, .int (iI m))] [] post) : ∀ (n : Nat) (n1 : Int) (f : Int) , (-1 ≤ f ∧ f < F ∧ 0 ≤ n1 ∧ n1 ≤ 200) → (n1 + ch (pr σ m c) 13 f = N0) → (f + 1).toNat = n → Tm (d + 1) m_X12_depth 30 b σ [(4, .int (iI f)), (3, .int (iI c)), (2, .int (iI n1)), (0, .ref b), (1, .int (iI m))] [] post := by
  intro n
  induction n using Nat.strongRecOn with
  | _ n ih =>
    intro n1 f h0 hn hm
    have hd1 := hd.1
    have hd2 := hd.2.1
    refine tm_iload dX12_depth_30 0 rfl ?_
    refine tm_iconst dX12_depth_32 ?_
    refine tm_icmp_eq (tgt := 70) dX12_depth_33 (by decide) ⟨by omega, by omega⟩ ⟨by decide, by decide⟩ (fun h1 => ?_) (fun h1 => ?_)
    · exact tm_sub [0, 1, 2, 3, 4] rfl (hx_70 (n1) (f) (by rw [show f = -1 by omega, ch_m1] at hn; omega))
    · have hst := dch_step hd (f := f) (by omega) (by omega)
      have hdd := hd.2.2 f (by omega) (by omega)
      have hrg := ch_rng (p := pr σ m c) 13 (pr σ m c f)
      refine tm_iinc (q0 := 2) (L' := [(2, .int (iI (n1 + 1))), (4, .int (iI f)), (3, .int (iI c)), (0, .ref b), (1, .int (iI m))]) dX12_depth_36 rfl (by decide) rfl ?_
      refine tm_iload_n dX12_depth_39 rfl 4 rfl ?_
      refine tm_iconst dX12_depth_40 ?_
      refine tm_icmp_ne (tgt := 48) dX12_depth_41 (by decide) ⟨by omega, by omega⟩ ⟨by decide, by decide⟩ (fun h2 => ?_) (fun h2 => ?_)
      · have hpr : pr σ m c f = σ.2.1 16 (12 * σ.2.1 78 c + f) := if_neg (by omega)
        refine tm_aload_n dX12_depth_48 rfl 3 rfl ?_
        refine tm_get (k := 16) (v := .ref (b + 1 + 13)) lay_12 dX12_depth_49 (by decide) fl12_50 rfl ?_
        refine tm_bipush dX12_depth_52 (by decide) ?_
        refine tm_aload_n dX12_depth_54 rfl 3 rfl ?_
        refine tm_get (k := 78) (v := .ref (b + 1 + 49)) lay_12 dX12_depth_55 (by decide) fl12_167 rfl ?_
        refine tm_iload_n dX12_depth_58 rfl 2 rfl ?_
        refine tm_iald (z := c) (v := σ.2.1 78 c) dX12_depth_59 (show mT[49]? = some (78, 0, 27) from rfl) (by omega) (by omega) (by decide) (rfl) ?_
        have g3 := RG.a hR 78 (c)
        refine tm_imul dX12_depth_60 ?_
        refine tm_iload dX12_depth_61 1 rfl ?_
        refine tm_iadd dX12_depth_63 ?_
        refine tm_iald (z := (12 * (σ.2.1 78 c)) + f) (v := σ.2.1 16 ((12 * (σ.2.1 78 c)) + f)) dX12_depth_64 (show mT[13]? = some (16, 0, 72) from rfl) (by omega) (by omega) (by decide) (rfl) ?_
        have g4 := RG.a hR 16 ((12 * (σ.2.1 78 c)) + f)
        refine tm_istore (L' := [(4, .int (iI (σ.2.1 16 ((12 * (σ.2.1 78 c)) + f)))), (2, .int (iI (n1 + 1))), (3, .int (iI c)), (0, .ref b), (1, .int (iI m))]) dX12_depth_65 (by decide) rfl ?_
        refine tm_goto (tgt := 30) dX12_depth_67 (by decide) ?_
        exact tm_sub [0, 2, 1, 3, 4] rfl (ih _ (by first | omega | (rw [← hpr]; omega)) (n1 + 1) (σ.2.1 16 ((12 * (σ.2.1 78 c)) + f)) (by first | omega | (rw [← hpr]; omega)) (by first | (rw [← hpr]; omega) | (rw [hpr] at hst; omega)) rfl)
      · have hpr : pr σ m c f = -1 := if_pos (by omega)
        refine tm_iconst dX12_depth_44 ?_
        refine tm_goto (tgt := 65) dX12_depth_45 (by decide) ?_
        refine tm_istore (L' := [(4, .int (iI (-1))), (2, .int (iI (n1 + 1))), (3, .int (iI c)), (0, .ref b), (1, .int (iI m))]) dX12_depth_65 (by decide) rfl ?_
        refine tm_goto (tgt := 30) dX12_depth_67 (by decide) ?_
        exact tm_sub [0, 2, 1, 3, 4] rfl (ih _ (by first | omega | (rw [← hpr]; omega)) (n1 + 1) (-1) (by first | omega | (rw [← hpr]; omega)) (by first | (rw [← hpr]; omega) | (rw [hpr] at hst; omega)) rfl)
theorem dX12_depth_7 : decode cX12_depth 7 = .ok (.iload_n 3, 1) := by decide +kernel
theorem dX12_depth_8 : decode cX12_depth 8 = .ok (.bipush 9, 2) := by decide +kernel
theorem dX12_depth_10 : decode cX12_depth 10 = .ok (.iload_n 1, 1) := by decide +kernel
theorem dX12_depth_11 : decode cX12_depth 11 = .ok (.imul, 1) := by decide +kernel
theorem dX12_depth_12 : decode cX12_depth 12 = .ok (.aload_n 0, 1) := by decide +kernel
theorem dX12_depth_13 : decode cX12_depth 13 = .ok (.getfield 152, 3) := by decide +kernel
theorem dX12_depth_16 : decode cX12_depth 16 = .ok (.iload_n 1, 1) := by decide +kernel
theorem dX12_depth_17 : decode cX12_depth 17 = .ok (.iaload, 1) := by decide +kernel
theorem dX12_depth_18 : decode cX12_depth 18 = .ok (.iadd, 1) := by decide +kernel
theorem dX12_depth_19 : decode cX12_depth 19 = .ok (.if_icmp .ge 57, 3) := by decide +kernel
theorem dX12_depth_22 : decode cX12_depth 22 = .ok (.aload_n 0, 1) := by decide +kernel
theorem dX12_depth_23 : decode cX12_depth 23 = .ok (.getfield 173, 3) := by decide +kernel
theorem dX12_depth_26 : decode cX12_depth 26 = .ok (.iload_n 3, 1) := by decide +kernel
theorem dX12_depth_27 : decode cX12_depth 27 = .ok (.iaload, 1) := by decide +kernel
theorem dX12_depth_28 : decode cX12_depth 28 = .ok (.istore 4, 2) := by decide +kernel
theorem dX12_depth_70 : decode cX12_depth 70 = .ok (.iinc 3 1, 3) := by decide +kernel
theorem dX12_depth_73 : decode cX12_depth 73 = .ok (.goto (-66), 3) := by decide +kernel
set_option maxHeartbeats 4000000 in
set_option maxRecDepth 20000 in
theorem l_depth1 (d : Nat) {b : Nat} {σ : MS} {m : Int} {post : Option Value → MS → Prop} (hR : RG σ) (hm2 : 0 ≤ m ∧ m ≤ 2) (hmc : 0 ≤ σ.2.1 73 m ∧ σ.2.1 73 m ≤ 9) (hde : ∀ c, 9 * m ≤ c → c < 9 * m + σ.2.1 73 m → ∃ F, DEC σ m c F) (hx_76 : ∀ (n1 : Int) (c : Int) , (n1 = dpt σ m) → (0 ≤ n1 ∧ n1 ≤ 117) → Tm (d + 1) m_X12_depth 76 b σ [(3, .int (iI c)), (2, .int (iI n1)), (0, .ref b), (1, .int (iI m))] [] post) : ∀ (n : Nat) (n1 : Int) (c : Int) , (9 * m ≤ c ∧ c ≤ 9 * m + σ.2.1 73 m ∧ 0 ≤ n1 ∧ n1 ≤ 13 * (c - 9 * m)) → (n1 = sm (fun j => dch σ m (9 * m + j)) (c - 9 * m).toNat) → (9 * m + σ.2.1 73 m - c).toNat = n → Tm (d + 1) m_X12_depth 7 b σ [(3, .int (iI c)), (2, .int (iI n1)), (0, .ref b), (1, .int (iI m))] [] post := by
  intro n
  induction n using Nat.strongRecOn with
  | _ n ih =>
    intro n1 c h0 hn hm
    refine tm_iload_n dX12_depth_7 rfl 0 rfl ?_
    refine tm_bipush dX12_depth_8 (by decide) ?_
    refine tm_iload_n dX12_depth_10 rfl 3 rfl ?_
    refine tm_imul dX12_depth_11 ?_
    refine tm_aload_n dX12_depth_12 rfl 2 rfl ?_
    refine tm_get (k := 73) (v := .ref (b + 1 + 44)) lay_12 dX12_depth_13 (by decide) fl12_152 rfl ?_
    refine tm_iload_n dX12_depth_16 rfl 3 rfl ?_
    refine tm_iald (z := m) (v := σ.2.1 73 m) dX12_depth_17 (show mT[44]? = some (73, 0, 3) from rfl) (by omega) (by omega) (by decide) (rfl) ?_
    have g1 := RG.a hR 73 (m)
    refine tm_iadd dX12_depth_18 ?_
    refine tm_icmp_ge (tgt := 76) dX12_depth_19 (by decide) ⟨by omega, by omega⟩ ⟨by omega, by omega⟩ (fun h2 => ?_) (fun h2 => ?_)
    · exact tm_sub [0, 1, 2, 3] rfl (hx_76 (n1) (c) (by rw [hn, dpt, show c - 9 * m = σ.2.1 73 m by omega]) (by omega))
    · obtain ⟨F, hd⟩ := hde c (by omega) (by omega)
      have hd1 := hd.1
      have hd2 := hd.2.1
      have hrg := ch_rng (p := pr σ m c) 13 (σ.2.1 80 c)
      refine tm_aload_n dX12_depth_22 rfl 2 rfl ?_
      refine tm_get (k := 80) (v := .ref (b + 1 + 51)) lay_12 dX12_depth_23 (by decide) fl12_173 rfl ?_
      refine tm_iload_n dX12_depth_26 rfl 0 rfl ?_
      refine tm_iald (z := c) (v := σ.2.1 80 c) dX12_depth_27 (show mT[51]? = some (80, 0, 27) from rfl) (by omega) (by omega) (by decide) (rfl) ?_
      have g3 := RG.a hR 80 (c)
      refine tm_istore (L' := [(4, .int (iI (σ.2.1 80 c))), (3, .int (iI c)), (2, .int (iI n1)), (0, .ref b), (1, .int (iI m))]) dX12_depth_28 (by decide) rfl ?_
      refine tm_sub [0, 1, 2, 3, 4] rfl (l_depth2 (d) (σ := σ) (m := m) (c := c) (F := F) (N0 := n1 + dch σ m c) hR hm2 (by omega) hd (by unfold dch; omega) (fun n19 f10 f8 => ?_) _ (n1) (σ.2.1 80 c) (by omega) (by rfl) rfl)
      show Tm _ _ 70 b σ [(4, .int (iI f10)), (3, .int (iI c)), (2, .int (iI n19)), (0, .ref b), (1, .int (iI m))] [] _
      refine tm_iinc (q0 := 1) (L' := [(3, .int (iI (c + 1))), (4, .int (iI f10)), (2, .int (iI n19)), (0, .ref b), (1, .int (iI m))]) dX12_depth_70 rfl (by decide) rfl ?_
      refine tm_goto (tgt := 7) dX12_depth_73 (by decide) ?_
      exact tm_sub [0, 2, 3, 4] rfl (ih _ (by omega) (n19) (c + 1) (by unfold dch at *; omega) (by
          rw [f8, hn, show (c + 1 - 9 * m).toNat = (c - 9 * m).toNat + 1 by omega]
          show _ = sm _ _ + dch σ m (9 * m + ((c - 9 * m).toNat : Int))
          rw [show 9 * m + ((c - 9 * m).toNat : Int) = c by omega]) rfl)
theorem dX12_depth_0 : decode cX12_depth 0 = .ok (.iconst 0, 1) := by decide +kernel
theorem dX12_depth_1 : decode cX12_depth 1 = .ok (.istore_n 2, 1) := by decide +kernel
theorem dX12_depth_2 : decode cX12_depth 2 = .ok (.bipush 9, 2) := by decide +kernel
theorem dX12_depth_4 : decode cX12_depth 4 = .ok (.iload_n 1, 1) := by decide +kernel
theorem dX12_depth_5 : decode cX12_depth 5 = .ok (.imul, 1) := by decide +kernel
theorem dX12_depth_6 : decode cX12_depth 6 = .ok (.istore_n 3, 1) := by decide +kernel
theorem dX12_depth_76 : decode cX12_depth 76 = .ok (.iload_n 2, 1) := by decide +kernel
theorem dX12_depth_77 : decode cX12_depth 77 = .ok (.ireturn, 1) := by decide +kernel
set_option maxHeartbeats 4000000 in
set_option maxRecDepth 20000 in
theorem c_X12_depth (d : Nat) {b : Nat} {σ : MS} {m : Int} (hR : RG σ) (hm2 : 0 ≤ m ∧ m ≤ 2) (hmc : 0 ≤ σ.2.1 73 m ∧ σ.2.1 73 m ≤ 9) (hde : ∀ c, 9 * m ≤ c → c < 9 * m + σ.2.1 73 m → ∃ F, DEC σ m c F) : Tm (d + 1) m_X12_depth 0 b σ [(0, .ref b), (1, .int (iI m))] [] (fun ro σ2 => ∃ v : Int, ro = some (.int (iI v)) ∧ σ = σ2 ∧ (v = dpt σ m) ∧ (0 ≤ v ∧ v ≤ 117)) := by
  refine tm_iconst dX12_depth_0 ?_
  refine tm_istore_n (L' := [(2, .int (iI 0)), (0, .ref b), (1, .int (iI m))]) dX12_depth_1 rfl (by decide) rfl ?_
  refine tm_bipush dX12_depth_2 (by decide) ?_
  refine tm_iload_n dX12_depth_4 rfl 2 rfl ?_
  refine tm_imul dX12_depth_5 ?_
  refine tm_istore_n (L' := [(3, .int (iI (9 * m))), (2, .int (iI 0)), (0, .ref b), (1, .int (iI m))]) dX12_depth_6 rfl (by decide) rfl ?_
  refine tm_sub [0, 1, 2, 3] rfl (l_depth1 (d) (σ := σ) (m := m) hR hm2 hmc hde (fun n17 c8 f5 f6 => ?_) _ (0) (9 * m) (by omega) (by rw [show (9 * m - 9 * m).toNat = 0 by omega]; rfl) rfl)
  show Tm _ _ 76 b σ [(3, .int (iI c8)), (2, .int (iI n17)), (0, .ref b), (1, .int (iI m))] [] _
  refine tm_iload_n dX12_depth_76 rfl 1 rfl ?_
  exact tm_iret rfl dX12_depth_77 (⟨_, rfl, rfl, f5, by omega⟩)
end
section
def fn (σ : MS) (m c : Int) : Int := if m = 2 then 1 else σ.2.1 14 (σ.2.1 78 c)

theorem fl12_572 : Cond.fieldLink RX12 572 (TX12 83).1 (TX12 83).2.1 (TX12 83).2.2.1 ∈ pWW := pw7 (List.mem_of_getElem? (i := 88) rfl) rfl
theorem fl12_575 : Cond.fieldLink RX12 575 (TX12 84).1 (TX12 84).2.1 (TX12 84).2.2.1 ∈ pWW := pw7 (List.mem_of_getElem? (i := 89) rfl) rfl
theorem dX12_isFrame_39 : decode cX12_isFrame 39 = .ok (.iload 5, 2) := by decide +kernel
theorem dX12_isFrame_41 : decode cX12_isFrame 41 = .ok (.iconst (-1), 1) := by decide +kernel
theorem dX12_isFrame_42 : decode cX12_isFrame 42 = .ok (.if_icmp .eq 56, 3) := by decide +kernel
theorem dX12_isFrame_45 : decode cX12_isFrame 45 = .ok (.iload_n 3, 1) := by decide +kernel
theorem dX12_isFrame_46 : decode cX12_isFrame 46 = .ok (.ifCond .ne 17, 3) := by decide +kernel
theorem dX12_isFrame_63 : decode cX12_isFrame 63 = .ok (.iinc 3 (-1), 3) := by decide +kernel
theorem dX12_isFrame_66 : decode cX12_isFrame 66 = .ok (.iload_n 1, 1) := by decide +kernel
theorem dX12_isFrame_67 : decode cX12_isFrame 67 = .ok (.iconst 2, 1) := by decide +kernel
theorem dX12_isFrame_68 : decode cX12_isFrame 68 = .ok (.if_icmp .ne 7, 3) := by decide +kernel
theorem dX12_isFrame_75 : decode cX12_isFrame 75 = .ok (.aload_n 0, 1) := by decide +kernel
theorem dX12_isFrame_76 : decode cX12_isFrame 76 = .ok (.getfield 50, 3) := by decide +kernel
theorem dX12_isFrame_79 : decode cX12_isFrame 79 = .ok (.bipush 12, 2) := by decide +kernel
theorem dX12_isFrame_81 : decode cX12_isFrame 81 = .ok (.aload_n 0, 1) := by decide +kernel
theorem dX12_isFrame_82 : decode cX12_isFrame 82 = .ok (.getfield 167, 3) := by decide +kernel
theorem dX12_isFrame_85 : decode cX12_isFrame 85 = .ok (.iload 4, 2) := by decide +kernel
theorem dX12_isFrame_87 : decode cX12_isFrame 87 = .ok (.iaload, 1) := by decide +kernel
theorem dX12_isFrame_88 : decode cX12_isFrame 88 = .ok (.imul, 1) := by decide +kernel
theorem dX12_isFrame_89 : decode cX12_isFrame 89 = .ok (.iload 5, 2) := by decide +kernel
theorem dX12_isFrame_91 : decode cX12_isFrame 91 = .ok (.iadd, 1) := by decide +kernel
theorem dX12_isFrame_92 : decode cX12_isFrame 92 = .ok (.iaload, 1) := by decide +kernel
theorem dX12_isFrame_93 : decode cX12_isFrame 93 = .ok (.istore 5, 2) := by decide +kernel
theorem dX12_isFrame_95 : decode cX12_isFrame 95 = .ok (.goto (-56), 3) := by decide +kernel
theorem dX12_isFrame_71 : decode cX12_isFrame 71 = .ok (.iconst (-1), 1) := by decide +kernel
theorem dX12_isFrame_72 : decode cX12_isFrame 72 = .ok (.goto 21, 3) := by decide +kernel
theorem dX12_isFrame_49 : decode cX12_isFrame 49 = .ok (.aload_n 0, 1) := by decide +kernel
theorem dX12_isFrame_50 : decode cX12_isFrame 50 = .ok (.iload 4, 2) := by decide +kernel
theorem dX12_isFrame_52 : decode cX12_isFrame 52 = .ok (.putfield 572, 3) := by decide +kernel
theorem dX12_isFrame_55 : decode cX12_isFrame 55 = .ok (.aload_n 0, 1) := by decide +kernel
theorem dX12_isFrame_56 : decode cX12_isFrame 56 = .ok (.iload 5, 2) := by decide +kernel
theorem dX12_isFrame_58 : decode cX12_isFrame 58 = .ok (.putfield 575, 3) := by decide +kernel
theorem dX12_isFrame_61 : decode cX12_isFrame 61 = .ok (.iconst 1, 1) := by decide +kernel
theorem dX12_isFrame_62 : decode cX12_isFrame 62 = .ok (.ireturn, 1) := by decide +kernel
set_option maxHeartbeats 4000000 in
set_option maxRecDepth 20000 in
theorem l_isFr2 (d : Nat) {b : Nat} {σ : MS} {m : Int} {k : Int} {c : Int} {post : Option Value → MS → Prop} (hR : RG σ) (hm2 : 0 ≤ m ∧ m ≤ 2) (hmc : 0 ≤ σ.2.1 73 m ∧ σ.2.1 73 m ≤ 9) (hde : ∀ c, 9 * m ≤ c → c < 9 * m + σ.2.1 73 m → DEC σ m c (fn σ m c)) (hc : 9 * m ≤ c ∧ c < 9 * m + σ.2.1 73 m) (hx_98 : ∀ (w : Int) (f : Int) , (0 ≤ w ∧ w ≤ 2147483647) → Tm (d + 1) m_X12_isFrame 98 b σ [(5, .int (iI f)), (4, .int (iI c)), (3, .int (iI w)), (0, .ref b), (1, .int (iI m)), (2, .int (iI k))] [] post) (hr1 : ∀ c f, 9 * m ≤ c → c < 9 * m + σ.2.1 73 m → 0 ≤ f → f < fn σ m c → post (some (.int (iI 1))) (sS 84 f (sS 83 c σ))) : ∀ (n : Nat) (w : Int) (f : Int) , (-1 ≤ f ∧ f < fn σ m c ∧ 0 ≤ w ∧ w ≤ 2147483647) → (f + 1).toNat = n → Tm (d + 1) m_X12_isFrame 39 b σ [(5, .int (iI f)), (4, .int (iI c)), (3, .int (iI w)), (0, .ref b), (1, .int (iI m)), (2, .int (iI k))] [] post := by
  intro n
  induction n using Nat.strongRecOn with
  | _ n ih =>
    intro w f h0 hm
    have hd := hde c hc.1 hc.2
    have hd1 := hd.1
    have hd2 := hd.2.1
    refine tm_iload dX12_isFrame_39 0 rfl ?_
    refine tm_iconst dX12_isFrame_41 ?_
    refine tm_icmp_eq (tgt := 98) dX12_isFrame_42 (by decide) ⟨by omega, by omega⟩ ⟨by decide, by decide⟩ (fun h1 => ?_) (fun h1 => ?_)
    · exact tm_sub [0, 1, 2, 3, 4, 5] rfl (hx_98 (w) (f) (by omega))
    · refine tm_iload_n dX12_isFrame_45 rfl 2 rfl ?_
      refine tm_if_ne (tgt := 63) dX12_isFrame_46 (by decide) ⟨by omega, by omega⟩ (fun h2 => ?_) (fun h2 => ?_)
      · have hdd := hd.2.2 f (by omega) (by omega)
        refine tm_iinc (q0 := 2) (L' := [(3, .int (iI (w + (-1)))), (5, .int (iI f)), (4, .int (iI c)), (0, .ref b), (1, .int (iI m)), (2, .int (iI k))]) dX12_isFrame_63 rfl (by decide) rfl ?_
        refine tm_iload_n dX12_isFrame_66 rfl 4 rfl ?_
        refine tm_iconst dX12_isFrame_67 ?_
        refine tm_icmp_ne (tgt := 75) dX12_isFrame_68 (by decide) ⟨by omega, by omega⟩ ⟨by decide, by decide⟩ (fun h3 => ?_) (fun h3 => ?_)
        · have hpr : pr σ m c f = σ.2.1 16 (12 * σ.2.1 78 c + f) := if_neg (by omega)
          rw [hpr] at hdd
          refine tm_aload_n dX12_isFrame_75 rfl 3 rfl ?_
          refine tm_get (k := 16) (v := .ref (b + 1 + 13)) lay_12 dX12_isFrame_76 (by decide) fl12_50 rfl ?_
          refine tm_bipush dX12_isFrame_79 (by decide) ?_
          refine tm_aload_n dX12_isFrame_81 rfl 3 rfl ?_
          refine tm_get (k := 78) (v := .ref (b + 1 + 49)) lay_12 dX12_isFrame_82 (by decide) fl12_167 rfl ?_
          refine tm_iload dX12_isFrame_85 2 rfl ?_
          refine tm_iald (z := c) (v := σ.2.1 78 c) dX12_isFrame_87 (show mT[49]? = some (78, 0, 27) from rfl) (by omega) (by omega) (by decide) (rfl) ?_
          have g4 := RG.a hR 78 (c)
          refine tm_imul dX12_isFrame_88 ?_
          refine tm_iload dX12_isFrame_89 1 rfl ?_
          refine tm_iadd dX12_isFrame_91 ?_
          refine tm_iald (z := (12 * (σ.2.1 78 c)) + f) (v := σ.2.1 16 ((12 * (σ.2.1 78 c)) + f)) dX12_isFrame_92 (show mT[13]? = some (16, 0, 72) from rfl) (by omega) (by omega) (by decide) (rfl) ?_
          have g5 := RG.a hR 16 ((12 * (σ.2.1 78 c)) + f)
          refine tm_istore (L' := [(5, .int (iI (σ.2.1 16 ((12 * (σ.2.1 78 c)) + f)))), (3, .int (iI (w + (-1)))), (4, .int (iI c)), (0, .ref b), (1, .int (iI m)), (2, .int (iI k))]) dX12_isFrame_93 (by decide) rfl ?_
          refine tm_goto (tgt := 39) dX12_isFrame_95 (by decide) ?_
          exact tm_sub [0, 2, 1, 3, 4, 5] rfl (ih _ (by omega) (w + (-1)) (σ.2.1 16 ((12 * (σ.2.1 78 c)) + f)) (by omega) rfl)
        · have hpr : pr σ m c f = -1 := if_pos (by omega)
          rw [hpr] at hdd
          refine tm_iconst dX12_isFrame_71 ?_
          refine tm_goto (tgt := 93) dX12_isFrame_72 (by decide) ?_
          refine tm_istore (L' := [(5, .int (iI (-1))), (3, .int (iI (w + (-1)))), (4, .int (iI c)), (0, .ref b), (1, .int (iI m)), (2, .int (iI k))]) dX12_isFrame_93 (by decide) rfl ?_
          refine tm_goto (tgt := 39) dX12_isFrame_95 (by decide) ?_
          exact tm_sub [0, 2, 1, 3, 4, 5] rfl (ih _ (by omega) (w + (-1)) (-1) (by omega) rfl)
      · refine tm_aload_n dX12_isFrame_49 rfl 3 rfl ?_
        refine tm_iload dX12_isFrame_50 1 rfl ?_
        refine tm_putS (k := 83) (v := c) lay_12 dX12_isFrame_52 (by decide) fl12_572 rfl (tyX12_ok 83 (by decide)) rfl rfl rfl ?_
        refine tm_aload_n dX12_isFrame_55 rfl 3 rfl ?_
        refine tm_iload dX12_isFrame_56 0 rfl ?_
        refine tm_putS (k := 84) (v := f) lay_12 dX12_isFrame_58 (by decide) fl12_575 rfl (tyX12_ok 84 (by decide)) rfl rfl rfl ?_
        refine tm_iconst dX12_isFrame_61 ?_
        exact tm_zret (v := 1) rfl (by decide) dX12_isFrame_62 (hr1 c f hc.1 hc.2 (by omega) (by omega))
theorem dX12_isFrame_17 : decode cX12_isFrame 17 = .ok (.iload 4, 2) := by decide +kernel
theorem dX12_isFrame_19 : decode cX12_isFrame 19 = .ok (.bipush 9, 2) := by decide +kernel
theorem dX12_isFrame_21 : decode cX12_isFrame 21 = .ok (.iload_n 1, 1) := by decide +kernel
theorem dX12_isFrame_22 : decode cX12_isFrame 22 = .ok (.imul, 1) := by decide +kernel
theorem dX12_isFrame_23 : decode cX12_isFrame 23 = .ok (.if_icmp .lt 81, 3) := by decide +kernel
theorem dX12_isFrame_26 : decode cX12_isFrame 26 = .ok (.iload_n 3, 1) := by decide +kernel
theorem dX12_isFrame_27 : decode cX12_isFrame 27 = .ok (.ifCond .lt 77, 3) := by decide +kernel
theorem dX12_isFrame_30 : decode cX12_isFrame 30 = .ok (.aload_n 0, 1) := by decide +kernel
theorem dX12_isFrame_31 : decode cX12_isFrame 31 = .ok (.getfield 173, 3) := by decide +kernel
theorem dX12_isFrame_34 : decode cX12_isFrame 34 = .ok (.iload 4, 2) := by decide +kernel
theorem dX12_isFrame_36 : decode cX12_isFrame 36 = .ok (.iaload, 1) := by decide +kernel
theorem dX12_isFrame_37 : decode cX12_isFrame 37 = .ok (.istore 5, 2) := by decide +kernel
theorem dX12_isFrame_98 : decode cX12_isFrame 98 = .ok (.iinc 4 (-1), 3) := by decide +kernel
theorem dX12_isFrame_101 : decode cX12_isFrame 101 = .ok (.goto (-84), 3) := by decide +kernel
set_option maxHeartbeats 4000000 in
set_option maxRecDepth 20000 in
theorem l_isFr1 (d : Nat) {b : Nat} {σ : MS} {m : Int} {k : Int} {post : Option Value → MS → Prop} (hR : RG σ) (hm2 : 0 ≤ m ∧ m ≤ 2) (hmc : 0 ≤ σ.2.1 73 m ∧ σ.2.1 73 m ≤ 9) (hde : ∀ c, 9 * m ≤ c → c < 9 * m + σ.2.1 73 m → DEC σ m c (fn σ m c)) (hx_104 : ∀ (w : Int) (c : Int) , Tm (d + 1) m_X12_isFrame 104 b σ [(4, .int (iI c)), (3, .int (iI w)), (0, .ref b), (1, .int (iI m)), (2, .int (iI k))] [] post) (hr1 : ∀ c f, 9 * m ≤ c → c < 9 * m + σ.2.1 73 m → 0 ≤ f → f < fn σ m c → post (some (.int (iI 1))) (sS 84 f (sS 83 c σ))) : ∀ (n : Nat) (w : Int) (c : Int) , (9 * m - 1 ≤ c ∧ c < 9 * m + σ.2.1 73 m ∧ -2147483648 ≤ w ∧ w ≤ 2147483647) → (c + 1 - 9 * m).toNat = n → Tm (d + 1) m_X12_isFrame 17 b σ [(4, .int (iI c)), (3, .int (iI w)), (0, .ref b), (1, .int (iI m)), (2, .int (iI k))] [] post := by
  intro n
  induction n using Nat.strongRecOn with
  | _ n ih =>
    intro w c h0 hm
    refine tm_iload dX12_isFrame_17 0 rfl ?_
    refine tm_bipush dX12_isFrame_19 (by decide) ?_
    refine tm_iload_n dX12_isFrame_21 rfl 3 rfl ?_
    refine tm_imul dX12_isFrame_22 ?_
    refine tm_icmp_lt (tgt := 104) dX12_isFrame_23 (by decide) ⟨by omega, by omega⟩ ⟨by omega, by omega⟩ (fun h1 => ?_) (fun h1 => ?_)
    · exact tm_sub [0, 1, 2, 3, 4] rfl (hx_104 (w) (c) )
    · refine tm_iload_n dX12_isFrame_26 rfl 1 rfl ?_
      refine tm_if_lt (tgt := 104) dX12_isFrame_27 (by decide) ⟨by omega, by omega⟩ (fun h2 => ?_) (fun h2 => ?_)
      · exact tm_sub [0, 1, 2, 3, 4] rfl (hx_104 (w) (c) )
      · have hd := hde c (by omega) (by omega)
        have hd2 := hd.2.1
        refine tm_aload_n dX12_isFrame_30 rfl 2 rfl ?_
        refine tm_get (k := 80) (v := .ref (b + 1 + 51)) lay_12 dX12_isFrame_31 (by decide) fl12_173 rfl ?_
        refine tm_iload dX12_isFrame_34 0 rfl ?_
        refine tm_iald (z := c) (v := σ.2.1 80 c) dX12_isFrame_36 (show mT[51]? = some (80, 0, 27) from rfl) (by omega) (by omega) (by decide) (rfl) ?_
        have g3 := RG.a hR 80 (c)
        refine tm_istore (L' := [(5, .int (iI (σ.2.1 80 c))), (4, .int (iI c)), (3, .int (iI w)), (0, .ref b), (1, .int (iI m)), (2, .int (iI k))]) dX12_isFrame_37 (by decide) rfl ?_
        refine tm_sub [0, 1, 2, 3, 4, 5] rfl (l_isFr2 (d) (σ := σ) (m := m) (k := k) (c := c) hR hm2 hmc hde ⟨by omega, by omega⟩ (fun w9 f10 f8 => ?_) hr1 _ (w) (σ.2.1 80 c) (by omega) rfl)
        show Tm _ _ 98 b σ [(5, .int (iI f10)), (4, .int (iI c)), (3, .int (iI w9)), (0, .ref b), (1, .int (iI m)), (2, .int (iI k))] [] _
        refine tm_iinc (q0 := 1) (L' := [(4, .int (iI (c + (-1)))), (5, .int (iI f10)), (3, .int (iI w9)), (0, .ref b), (1, .int (iI m)), (2, .int (iI k))]) dX12_isFrame_98 rfl (by decide) rfl ?_
        refine tm_goto (tgt := 17) dX12_isFrame_101 (by decide) ?_
        exact tm_sub [0, 2, 3, 4, 5] rfl (ih _ (by omega) (w9) (c + (-1)) (by omega) rfl)
theorem dX12_isFrame_0 : decode cX12_isFrame 0 = .ok (.iload_n 2, 1) := by decide +kernel
theorem dX12_isFrame_1 : decode cX12_isFrame 1 = .ok (.istore_n 3, 1) := by decide +kernel
theorem dX12_isFrame_2 : decode cX12_isFrame 2 = .ok (.bipush 9, 2) := by decide +kernel
theorem dX12_isFrame_4 : decode cX12_isFrame 4 = .ok (.iload_n 1, 1) := by decide +kernel
theorem dX12_isFrame_5 : decode cX12_isFrame 5 = .ok (.imul, 1) := by decide +kernel
theorem dX12_isFrame_6 : decode cX12_isFrame 6 = .ok (.aload_n 0, 1) := by decide +kernel
theorem dX12_isFrame_7 : decode cX12_isFrame 7 = .ok (.getfield 152, 3) := by decide +kernel
theorem dX12_isFrame_10 : decode cX12_isFrame 10 = .ok (.iload_n 1, 1) := by decide +kernel
theorem dX12_isFrame_11 : decode cX12_isFrame 11 = .ok (.iaload, 1) := by decide +kernel
theorem dX12_isFrame_12 : decode cX12_isFrame 12 = .ok (.iadd, 1) := by decide +kernel
theorem dX12_isFrame_13 : decode cX12_isFrame 13 = .ok (.iconst 1, 1) := by decide +kernel
theorem dX12_isFrame_14 : decode cX12_isFrame 14 = .ok (.isub, 1) := by decide +kernel
theorem dX12_isFrame_15 : decode cX12_isFrame 15 = .ok (.istore 4, 2) := by decide +kernel
theorem dX12_isFrame_104 : decode cX12_isFrame 104 = .ok (.iconst 0, 1) := by decide +kernel
theorem dX12_isFrame_105 : decode cX12_isFrame 105 = .ok (.ireturn, 1) := by decide +kernel
set_option maxHeartbeats 4000000 in
set_option maxRecDepth 20000 in
theorem c_X12_isFrame (d : Nat) {b : Nat} {σ : MS} {m : Int} {k : Int} (hR : RG σ) (hm2 : 0 ≤ m ∧ m ≤ 2) (hmc : 0 ≤ σ.2.1 73 m ∧ σ.2.1 73 m ≤ 9) (hde : ∀ c, 9 * m ≤ c → c < 9 * m + σ.2.1 73 m → DEC σ m c (fn σ m c)) (h_k : -2147483648 ≤ k ∧ k ≤ 2147483647) : Tm (d + 1) m_X12_isFrame 0 b σ [(0, .ref b), (1, .int (iI m)), (2, .int (iI k))] [] (fun ro σ2 => ∃ v : Int, ro = some (.int (iI v)) ∧ ((v = 0 ∨ v = 1)) ∧ (Fr [83, 84] [] [] σ σ2) ∧ (RG σ2) ∧ (v = 1 → 9 * m ≤ σ2.1 83 ∧ σ2.1 83 < 9 * m + σ.2.1 73 m ∧ 0 ≤ σ2.1 84 ∧ σ2.1 84 < fn σ m (σ2.1 83))) := by
  refine tm_iload_n dX12_isFrame_0 rfl 2 rfl ?_
  refine tm_istore_n (L' := [(3, .int (iI k)), (0, .ref b), (1, .int (iI m)), (2, .int (iI k))]) dX12_isFrame_1 rfl (by decide) rfl ?_
  refine tm_bipush dX12_isFrame_2 (by decide) ?_
  refine tm_iload_n dX12_isFrame_4 rfl 2 rfl ?_
  refine tm_imul dX12_isFrame_5 ?_
  refine tm_aload_n dX12_isFrame_6 rfl 1 rfl ?_
  refine tm_get (k := 73) (v := .ref (b + 1 + 44)) lay_12 dX12_isFrame_7 (by decide) fl12_152 rfl ?_
  refine tm_iload_n dX12_isFrame_10 rfl 2 rfl ?_
  refine tm_iald (z := m) (v := σ.2.1 73 m) dX12_isFrame_11 (show mT[44]? = some (73, 0, 3) from rfl) (by omega) (by omega) (by decide) (rfl) ?_
  have g1 := RG.a hR 73 (m)
  refine tm_iadd dX12_isFrame_12 ?_
  refine tm_iconst dX12_isFrame_13 ?_
  refine tm_isub dX12_isFrame_14 ?_
  refine tm_istore (L' := [(4, .int (iI (((9 * m) + (σ.2.1 73 m)) - 1))), (3, .int (iI k)), (0, .ref b), (1, .int (iI m)), (2, .int (iI k))]) dX12_isFrame_15 (by decide) rfl ?_
  refine tm_sub [0, 1, 2, 3, 4] rfl (l_isFr1 (d) (σ := σ) (m := m) (k := k) hR hm2 hmc hde (fun w6 c7 => ?_) (fun c f a e g i => ⟨_, rfl, by omega, (Fr.rfl.S (by decide)).S (by decide), (hR.S (by omega)).S (by have := (hde c a e).2.1; omega), fun _ => ⟨a, e, g, i⟩⟩) _ (k) (((9 * m) + (σ.2.1 73 m)) - 1) (by omega) rfl)
  show Tm _ _ 104 b σ [(4, .int (iI c7)), (3, .int (iI w6)), (0, .ref b), (1, .int (iI m)), (2, .int (iI k))] [] _
  refine tm_iconst dX12_isFrame_104 ?_
  exact tm_zret (v := 0) rfl (by decide) dX12_isFrame_105 (⟨_, rfl, by omega, Fr.rfl, hR, fun q => absurd q (by decide)⟩)
end
section
def RUD (σ : MS) (m : Int) : Prop := (0 ≤ σ.2.1 73 m ∧ σ.2.1 73 m ≤ 9) ∧ ∀ c, 9 * m ≤ c → c < 9 * m + σ.2.1 73 m → DEC σ m c (fn σ m c)

theorem fl12_560 : Cond.fieldLink RX12 560 (TX12 68).1 (TX12 68).2.1 (TX12 68).2.2.1 ∈ pWW := pw7 (List.mem_of_getElem? (i := 75) rfl) rfl
theorem ml12_578 : Cond.methodLink RX12 578 yX12_isFrame ∈ pWW := pw10 (List.mem_of_getElem? (i := 45) rfl) rfl
theorem dX12_isStack_0 : decode cX12_isStack 0 = .ok (.aload_n 0, 1) := by decide +kernel
theorem dX12_isStack_1 : decode cX12_isStack 1 = .ok (.getfield 397, 3) := by decide +kernel
theorem dX12_isStack_4 : decode cX12_isStack 4 = .ok (.ifCond .eq 27, 3) := by decide +kernel
theorem dX12_isStack_31 : decode cX12_isStack 31 = .ok (.iconst 0, 1) := by decide +kernel
theorem dX12_isStack_32 : decode cX12_isStack 32 = .ok (.ireturn, 1) := by decide +kernel
theorem dX12_isStack_7 : decode cX12_isStack 7 = .ok (.aload_n 0, 1) := by decide +kernel
theorem dX12_isStack_8 : decode cX12_isStack 8 = .ok (.getfield 560, 3) := by decide +kernel
theorem dX12_isStack_11 : decode cX12_isStack 11 = .ok (.ifCond .ne 20, 3) := by decide +kernel
theorem dX12_isStack_14 : decode cX12_isStack 14 = .ok (.iload_n 1, 1) := by decide +kernel
theorem dX12_isStack_15 : decode cX12_isStack 15 = .ok (.ifCond .lt 16, 3) := by decide +kernel
theorem dX12_isStack_18 : decode cX12_isStack 18 = .ok (.aload_n 0, 1) := by decide +kernel
theorem dX12_isStack_19 : decode cX12_isStack 19 = .ok (.iconst 0, 1) := by decide +kernel
theorem dX12_isStack_20 : decode cX12_isStack 20 = .ok (.iload_n 1, 1) := by decide +kernel
theorem dX12_isStack_21 : decode cX12_isStack 21 = .ok (.invokevirtual 578, 3) := by decide +kernel
theorem dX12_isStack_24 : decode cX12_isStack 24 = .ok (.ifCond .eq 7, 3) := by decide +kernel
theorem dX12_isStack_27 : decode cX12_isStack 27 = .ok (.iconst 1, 1) := by decide +kernel
theorem dX12_isStack_28 : decode cX12_isStack 28 = .ok (.goto 4, 3) := by decide +kernel
set_option maxHeartbeats 4000000 in
set_option maxRecDepth 20000 in
theorem c_X12_isStack (d : Nat) {b : Nat} {σ : MS} {k : Int} (hR : RG σ) (hru : σ.1 67 ≠ 0 → σ.1 68 = 0 → RUD σ 0) (h_k : -2147483648 ≤ k ∧ k ≤ 2147483647) : Tm (d + 2) m_X12_isStack 0 b σ [(0, .ref b), (1, .int (iI k))] [] (fun ro σ2 => ∃ v : Int, ro = some (.int (iI v)) ∧ ((v = 0 ∨ v = 1)) ∧ (Fr [83, 84] [] [] σ σ2) ∧ (RG σ2) ∧ (v = 1 → σ.1 67 ≠ 0 ∧ σ.1 68 = 0 ∧ 9 * 0 ≤ σ2.1 83 ∧ σ2.1 83 < 9 * 0 + σ.2.1 73 0 ∧ 0 ≤ σ2.1 84 ∧ σ2.1 84 < fn σ 0 (σ2.1 83))) := by
  refine tm_aload_n dX12_isStack_0 rfl 0 rfl ?_
  refine tm_getS (k := 67) (t := σ.1 67) dX12_isStack_1 (by decide) fl12_397 rfl (rfl) ?_
  have g1 := RG.s hR 67
  refine tm_if_eq (tgt := 31) dX12_isStack_4 (by decide) ⟨by omega, by omega⟩ (fun h2 => ?_) (fun h2 => ?_)
  · refine tm_iconst dX12_isStack_31 ?_
    exact tm_zret (v := 0) rfl (by decide) dX12_isStack_32 (⟨_, rfl, by omega, Fr.rfl, hR, fun q => absurd q (by decide)⟩)
  · refine tm_aload_n dX12_isStack_7 rfl 0 rfl ?_
    refine tm_getS (k := 68) (t := σ.1 68) dX12_isStack_8 (by decide) fl12_560 rfl (rfl) ?_
    have g3 := RG.s hR 68
    refine tm_if_ne (tgt := 31) dX12_isStack_11 (by decide) ⟨by omega, by omega⟩ (fun h4 => ?_) (fun h4 => ?_)
    · refine tm_iconst dX12_isStack_31 ?_
      exact tm_zret (v := 0) rfl (by decide) dX12_isStack_32 (⟨_, rfl, by omega, Fr.rfl, hR, fun q => absurd q (by decide)⟩)
    · refine tm_iload_n dX12_isStack_14 rfl 1 rfl ?_
      refine tm_if_lt (tgt := 31) dX12_isStack_15 (by decide) ⟨by omega, by omega⟩ (fun h5 => ?_) (fun h5 => ?_)
      · refine tm_iconst dX12_isStack_31 ?_
        exact tm_zret (v := 0) rfl (by decide) dX12_isStack_32 (⟨_, rfl, by omega, Fr.rfl, hR, fun q => absurd q (by decide)⟩)
      · have hr0 := hru (by omega) (by omega)
        refine tm_aload_n dX12_isStack_18 rfl 0 rfl ?_
        refine tm_iconst dX12_isStack_19 ?_
        refine tm_iload_n dX12_isStack_20 rfl 1 rfl ?_
        refine tm_callV (M := m_X12_isStack) (pc := 21) (ix := 578) (M' := m_X12_isFrame) (As := [.int (iI 0), .int (iI k)]) (rest := []) dX12_isStack_21 ok_X12_isFrame im_X12_isFrame se_X12_isFrame ml12_578 np_X12_isFrame rfl rfl (Nat.le_of_ble_eq_true rfl) (Nat.le_of_ble_eq_true rfl) rfl (c_X12_isFrame (d) (σ := σ) (m := 0) (k := k) hR (by decide) hr0.1 hr0.2 (by omega)) (fun r6 σ7 hp => ?_)
        obtain ⟨v8, rfl, f9, f10, f11, f12⟩ := hp
        show Tm _ _ 24 b σ7 [(0, .ref b), (1, .int (iI k))] [.int (iI v8)] _
        refine tm_if_eq (tgt := 31) dX12_isStack_24 (by decide) ⟨by omega, by omega⟩ (fun h13 => ?_) (fun h13 => ?_)
        · refine tm_iconst dX12_isStack_31 ?_
          exact tm_zret (v := 0) rfl (by decide) dX12_isStack_32 (⟨_, rfl, by omega, (Fr.rfl.trans (Fr.sub f10 (by decide) (by decide) (by decide))), f11, fun q => absurd q (by decide)⟩)
        · refine tm_iconst dX12_isStack_27 ?_
          refine tm_goto (tgt := 32) dX12_isStack_28 (by decide) ?_
          exact tm_zret (v := 1) rfl (by decide) dX12_isStack_32 (⟨_, rfl, by omega, (Fr.rfl.trans (Fr.sub f10 (by decide) (by decide) (by decide))), f11, fun _ => ⟨by omega, by omega, f12 (by omega)⟩⟩)
theorem dX12_routineIn_0 : decode cX12_routineIn 0 = .ok (.iload_n 1, 1) := by decide +kernel
theorem dX12_routineIn_1 : decode cX12_routineIn 1 = .ok (.iconst 2, 1) := by decide +kernel
theorem dX12_routineIn_2 : decode cX12_routineIn 2 = .ok (.if_icmp .ne 15, 3) := by decide +kernel
theorem dX12_routineIn_17 : decode cX12_routineIn 17 = .ok (.aload_n 0, 1) := by decide +kernel
theorem dX12_routineIn_18 : decode cX12_routineIn 18 = .ok (.getfield 47, 3) := by decide +kernel
theorem dX12_routineIn_21 : decode cX12_routineIn 21 = .ok (.bipush 12, 2) := by decide +kernel
theorem dX12_routineIn_23 : decode cX12_routineIn 23 = .ok (.aload_n 0, 1) := by decide +kernel
theorem dX12_routineIn_24 : decode cX12_routineIn 24 = .ok (.getfield 167, 3) := by decide +kernel
theorem dX12_routineIn_27 : decode cX12_routineIn 27 = .ok (.aload_n 0, 1) := by decide +kernel
theorem dX12_routineIn_28 : decode cX12_routineIn 28 = .ok (.getfield 572, 3) := by decide +kernel
theorem dX12_routineIn_31 : decode cX12_routineIn 31 = .ok (.iaload, 1) := by decide +kernel
theorem dX12_routineIn_32 : decode cX12_routineIn 32 = .ok (.imul, 1) := by decide +kernel
theorem dX12_routineIn_33 : decode cX12_routineIn 33 = .ok (.aload_n 0, 1) := by decide +kernel
theorem dX12_routineIn_34 : decode cX12_routineIn 34 = .ok (.getfield 575, 3) := by decide +kernel
theorem dX12_routineIn_37 : decode cX12_routineIn 37 = .ok (.iadd, 1) := by decide +kernel
theorem dX12_routineIn_38 : decode cX12_routineIn 38 = .ok (.iaload, 1) := by decide +kernel
theorem dX12_routineIn_39 : decode cX12_routineIn 39 = .ok (.ireturn, 1) := by decide +kernel
theorem dX12_routineIn_5 : decode cX12_routineIn 5 = .ok (.aload_n 0, 1) := by decide +kernel
theorem dX12_routineIn_6 : decode cX12_routineIn 6 = .ok (.getfield 167, 3) := by decide +kernel
theorem dX12_routineIn_9 : decode cX12_routineIn 9 = .ok (.aload_n 0, 1) := by decide +kernel
theorem dX12_routineIn_10 : decode cX12_routineIn 10 = .ok (.getfield 572, 3) := by decide +kernel
theorem dX12_routineIn_13 : decode cX12_routineIn 13 = .ok (.iaload, 1) := by decide +kernel
theorem dX12_routineIn_14 : decode cX12_routineIn 14 = .ok (.goto 25, 3) := by decide +kernel
set_option maxHeartbeats 4000000 in
set_option maxRecDepth 20000 in
theorem c_X12_routineIn (d : Nat) {b : Nat} {σ : MS} {m : Int} (hR : RG σ) (hgc : 0 ≤ σ.1 83 ∧ σ.1 83 < 27) (hgf : m ≠ 2 → 0 ≤ 12 * σ.2.1 78 (σ.1 83) + σ.1 84 ∧ 12 * σ.2.1 78 (σ.1 83) + σ.1 84 < 72) (h_m : -2147483648 ≤ m ∧ m ≤ 2147483647) : Tm (d + 1) m_X12_routineIn 0 b σ [(0, .ref b), (1, .int (iI m))] [] (fun ro σ2 => ∃ v : Int, ro = some (.int (iI v)) ∧ σ = σ2 ∧ ((m = 2 → v = σ.2.1 78 (σ.1 83))) ∧ ((m ≠ 2 → v = σ.2.1 15 (12 * σ.2.1 78 (σ.1 83) + σ.1 84)))) := by
  refine tm_iload_n dX12_routineIn_0 rfl 1 rfl ?_
  refine tm_iconst dX12_routineIn_1 ?_
  refine tm_icmp_ne (tgt := 17) dX12_routineIn_2 (by decide) ⟨by omega, by omega⟩ ⟨by decide, by decide⟩ (fun h1 => ?_) (fun h1 => ?_)
  · refine tm_aload_n dX12_routineIn_17 rfl 0 rfl ?_
    refine tm_get (k := 15) (v := .ref (b + 1 + 12)) lay_12 dX12_routineIn_18 (by decide) fl12_47 rfl ?_
    refine tm_bipush dX12_routineIn_21 (by decide) ?_
    refine tm_aload_n dX12_routineIn_23 rfl 0 rfl ?_
    refine tm_get (k := 78) (v := .ref (b + 1 + 49)) lay_12 dX12_routineIn_24 (by decide) fl12_167 rfl ?_
    refine tm_aload_n dX12_routineIn_27 rfl 0 rfl ?_
    refine tm_getS (k := 83) (t := σ.1 83) dX12_routineIn_28 (by decide) fl12_572 rfl (rfl) ?_
    have g2 := RG.s hR 83
    refine tm_iald (z := σ.1 83) (v := σ.2.1 78 (σ.1 83)) dX12_routineIn_31 (show mT[49]? = some (78, 0, 27) from rfl) (by omega) (by omega) (by decide) (rfl) ?_
    have g3 := RG.a hR 78 (σ.1 83)
    refine tm_imul dX12_routineIn_32 ?_
    refine tm_aload_n dX12_routineIn_33 rfl 0 rfl ?_
    refine tm_getS (k := 84) (t := σ.1 84) dX12_routineIn_34 (by decide) fl12_575 rfl (rfl) ?_
    have g4 := RG.s hR 84
    refine tm_iadd dX12_routineIn_37 ?_
    refine tm_iald (z := (12 * (σ.2.1 78 (σ.1 83))) + (σ.1 84)) (v := σ.2.1 15 ((12 * (σ.2.1 78 (σ.1 83))) + (σ.1 84))) dX12_routineIn_38 (show mT[12]? = some (15, 0, 72) from rfl) (by omega) (by omega) (by decide) (rfl) ?_
    have g5 := RG.a hR 15 ((12 * (σ.2.1 78 (σ.1 83))) + (σ.1 84))
    exact tm_iret rfl dX12_routineIn_39 (⟨_, rfl, rfl, by omega, by omega⟩)
  · refine tm_aload_n dX12_routineIn_5 rfl 0 rfl ?_
    refine tm_get (k := 78) (v := .ref (b + 1 + 49)) lay_12 dX12_routineIn_6 (by decide) fl12_167 rfl ?_
    refine tm_aload_n dX12_routineIn_9 rfl 0 rfl ?_
    refine tm_getS (k := 83) (t := σ.1 83) dX12_routineIn_10 (by decide) fl12_572 rfl (rfl) ?_
    have g6 := RG.s hR 83
    refine tm_iald (z := σ.1 83) (v := σ.2.1 78 (σ.1 83)) dX12_routineIn_13 (show mT[49]? = some (78, 0, 27) from rfl) (by omega) (by omega) (by decide) (rfl) ?_
    have g7 := RG.a hR 78 (σ.1 83)
    refine tm_goto (tgt := 39) dX12_routineIn_14 (by decide) ?_
    exact tm_iret rfl dX12_routineIn_39 (⟨_, rfl, rfl, by omega, by omega⟩)
theorem ml12_545 : Cond.methodLink RX12 545 yX12_worth ∈ pWW := pw10 (List.mem_of_getElem? (i := 25) rfl) rfl
theorem ml12_466 : Cond.methodLink RX12 466 yX12_worked ∈ pWW := pw9 (List.mem_of_getElem? (i := 114) rfl) rfl
theorem dX12_stateWorth_0 : decode cX12_stateWorth 0 = .ok (.aload_n 0, 1) := by decide +kernel
theorem dX12_stateWorth_1 : decode cX12_stateWorth 1 = .ok (.aload_n 0, 1) := by decide +kernel
theorem dX12_stateWorth_2 : decode cX12_stateWorth 2 = .ok (.getfield 572, 3) := by decide +kernel
theorem dX12_stateWorth_5 : decode cX12_stateWorth 5 = .ok (.aload_n 0, 1) := by decide +kernel
theorem dX12_stateWorth_6 : decode cX12_stateWorth 6 = .ok (.getfield 102, 3) := by decide +kernel
theorem dX12_stateWorth_9 : decode cX12_stateWorth 9 = .ok (.iload_n 1, 1) := by decide +kernel
theorem dX12_stateWorth_10 : decode cX12_stateWorth 10 = .ok (.iaload, 1) := by decide +kernel
theorem dX12_stateWorth_11 : decode cX12_stateWorth 11 = .ok (.aload_n 0, 1) := by decide +kernel
theorem dX12_stateWorth_12 : decode cX12_stateWorth 12 = .ok (.getfield 105, 3) := by decide +kernel
theorem dX12_stateWorth_15 : decode cX12_stateWorth 15 = .ok (.iload_n 1, 1) := by decide +kernel
theorem dX12_stateWorth_16 : decode cX12_stateWorth 16 = .ok (.iaload, 1) := by decide +kernel
theorem dX12_stateWorth_17 : decode cX12_stateWorth 17 = .ok (.invokevirtual 545, 3) := by decide +kernel
theorem dX12_stateWorth_20 : decode cX12_stateWorth 20 = .ok (.istore_n 2, 1) := by decide +kernel
theorem dX12_stateWorth_21 : decode cX12_stateWorth 21 = .ok (.aload_n 0, 1) := by decide +kernel
theorem dX12_stateWorth_22 : decode cX12_stateWorth 22 = .ok (.getfield 99, 3) := by decide +kernel
theorem dX12_stateWorth_25 : decode cX12_stateWorth 25 = .ok (.iload_n 1, 1) := by decide +kernel
theorem dX12_stateWorth_26 : decode cX12_stateWorth 26 = .ok (.iaload, 1) := by decide +kernel
theorem dX12_stateWorth_27 : decode cX12_stateWorth 27 = .ok (.iconst 2, 1) := by decide +kernel
theorem dX12_stateWorth_28 : decode cX12_stateWorth 28 = .ok (.if_icmp .le 38, 3) := by decide +kernel
theorem dX12_stateWorth_66 : decode cX12_stateWorth 66 = .ok (.iload_n 2, 1) := by decide +kernel
theorem dX12_stateWorth_67 : decode cX12_stateWorth 67 = .ok (.ireturn, 1) := by decide +kernel
theorem dX12_stateWorth_31 : decode cX12_stateWorth 31 = .ok (.aload_n 0, 1) := by decide +kernel
theorem dX12_stateWorth_32 : decode cX12_stateWorth 32 = .ok (.getfield 99, 3) := by decide +kernel
theorem dX12_stateWorth_35 : decode cX12_stateWorth 35 = .ok (.iload_n 1, 1) := by decide +kernel
theorem dX12_stateWorth_36 : decode cX12_stateWorth 36 = .ok (.iaload, 1) := by decide +kernel
theorem dX12_stateWorth_37 : decode cX12_stateWorth 37 = .ok (.iconst 2, 1) := by decide +kernel
theorem dX12_stateWorth_38 : decode cX12_stateWorth 38 = .ok (.isub, 1) := by decide +kernel
theorem dX12_stateWorth_39 : decode cX12_stateWorth 39 = .ok (.iload_n 2, 1) := by decide +kernel
theorem dX12_stateWorth_40 : decode cX12_stateWorth 40 = .ok (.aload_n 0, 1) := by decide +kernel
theorem dX12_stateWorth_41 : decode cX12_stateWorth 41 = .ok (.aload_n 0, 1) := by decide +kernel
theorem dX12_stateWorth_42 : decode cX12_stateWorth 42 = .ok (.getfield 572, 3) := by decide +kernel
theorem dX12_stateWorth_45 : decode cX12_stateWorth 45 = .ok (.aload_n 0, 1) := by decide +kernel
theorem dX12_stateWorth_46 : decode cX12_stateWorth 46 = .ok (.getfield 108, 3) := by decide +kernel
theorem dX12_stateWorth_49 : decode cX12_stateWorth 49 = .ok (.iload_n 1, 1) := by decide +kernel
theorem dX12_stateWorth_50 : decode cX12_stateWorth 50 = .ok (.iaload, 1) := by decide +kernel
theorem dX12_stateWorth_51 : decode cX12_stateWorth 51 = .ok (.aload_n 0, 1) := by decide +kernel
theorem dX12_stateWorth_52 : decode cX12_stateWorth 52 = .ok (.getfield 111, 3) := by decide +kernel
theorem dX12_stateWorth_55 : decode cX12_stateWorth 55 = .ok (.iload_n 1, 1) := by decide +kernel
theorem dX12_stateWorth_56 : decode cX12_stateWorth 56 = .ok (.iaload, 1) := by decide +kernel
theorem dX12_stateWorth_57 : decode cX12_stateWorth 57 = .ok (.invokevirtual 545, 3) := by decide +kernel
theorem dX12_stateWorth_60 : decode cX12_stateWorth 60 = .ok (.invokestatic 466, 3) := by decide +kernel
theorem dX12_stateWorth_63 : decode cX12_stateWorth 63 = .ok (.goto 4, 3) := by decide +kernel
set_option maxHeartbeats 4000000 in
set_option maxRecDepth 20000 in
theorem c_X12_stateWorth (d : Nat) {b : Nat} {σ : MS} {y : Int} (hR : RG σ) (hgc : 0 ≤ σ.1 83 ∧ σ.1 83 < 27) (hy : 0 ≤ y ∧ y < 190944) (hss : SSA σ) : Tm (d + 2) m_X12_stateWorth 0 b σ [(0, .ref b), (1, .int (iI y))] [] (fun ro σ2 => ∃ v : Int, ro = some (.int (iI v)) ∧ σ = σ2 ∧ (-2147483648 ≤ v ∧ v ≤ 2147483647)) := by
  have q1 := hss y
  refine tm_aload_n dX12_stateWorth_0 rfl 0 rfl ?_
  refine tm_aload_n dX12_stateWorth_1 rfl 0 rfl ?_
  refine tm_getS (k := 83) (t := σ.1 83) dX12_stateWorth_2 (by decide) fl12_572 rfl (rfl) ?_
  have g1 := RG.s hR 83
  refine tm_aload_n dX12_stateWorth_5 rfl 0 rfl ?_
  refine tm_get (k := 50) (v := .ref (b + 1 + 28)) lay_12 dX12_stateWorth_6 (by decide) fl12_102 rfl ?_
  refine tm_iload_n dX12_stateWorth_9 rfl 1 rfl ?_
  refine tm_iald (z := y) (v := σ.2.1 50 y) dX12_stateWorth_10 (show mT[28]? = some (50, 0, 190944) from rfl) (by omega) (by omega) (by decide) (rfl) ?_
  have g2 := RG.a hR 50 (y)
  refine tm_aload_n dX12_stateWorth_11 rfl 0 rfl ?_
  refine tm_get (k := 51) (v := .ref (b + 1 + 29)) lay_12 dX12_stateWorth_12 (by decide) fl12_105 rfl ?_
  refine tm_iload_n dX12_stateWorth_15 rfl 1 rfl ?_
  refine tm_iald (z := y) (v := σ.2.1 51 y) dX12_stateWorth_16 (show mT[29]? = some (51, 0, 190944) from rfl) (by omega) (by omega) (by decide) (rfl) ?_
  have g3 := RG.a hR 51 (y)
  refine tm_callV (M := m_X12_stateWorth) (pc := 17) (ix := 545) (M' := m_X12_worth) (As := [.int (iI (σ.1 83)), .int (iI (σ.2.1 50 y)), .int (iI (σ.2.1 51 y))]) (rest := []) dX12_stateWorth_17 ok_X12_worth im_X12_worth se_X12_worth ml12_545 np_X12_worth rfl rfl (Nat.le_of_ble_eq_true rfl) (Nat.le_of_ble_eq_true rfl) rfl (c_X12_worth (d) (σ := σ) (c := σ.1 83) (k := σ.2.1 50 y) (w := σ.2.1 51 y) (fun q => by omega) hR (by omega) (by omega)) (fun r4 σ5 hp => ?_)
  obtain ⟨v6, rfl, rfl, f7⟩ := hp
  show Tm _ _ 20 b σ [(0, .ref b), (1, .int (iI y))] [.int (iI v6)] _
  refine tm_istore_n (L' := [(2, .int (iI v6)), (0, .ref b), (1, .int (iI y))]) dX12_stateWorth_20 rfl (by decide) rfl ?_
  refine tm_aload_n dX12_stateWorth_21 rfl 1 rfl ?_
  refine tm_get (k := 49) (v := .ref (b + 1 + 27)) lay_12 dX12_stateWorth_22 (by decide) fl12_99 rfl ?_
  refine tm_iload_n dX12_stateWorth_25 rfl 2 rfl ?_
  refine tm_iald (z := y) (v := σ.2.1 49 y) dX12_stateWorth_26 (show mT[27]? = some (49, 0, 190944) from rfl) (by omega) (by omega) (by decide) (rfl) ?_
  have g8 := RG.a hR 49 (y)
  refine tm_iconst dX12_stateWorth_27 ?_
  refine tm_icmp_le (tgt := 66) dX12_stateWorth_28 (by decide) ⟨by omega, by omega⟩ ⟨by decide, by decide⟩ (fun h9 => ?_) (fun h9 => ?_)
  · refine tm_iload_n dX12_stateWorth_66 rfl 0 rfl ?_
    exact tm_iret rfl dX12_stateWorth_67 (⟨_, rfl, rfl, by omega⟩)
  · refine tm_aload_n dX12_stateWorth_31 rfl 1 rfl ?_
    refine tm_get (k := 49) (v := .ref (b + 1 + 27)) lay_12 dX12_stateWorth_32 (by decide) fl12_99 rfl ?_
    refine tm_iload_n dX12_stateWorth_35 rfl 2 rfl ?_
    refine tm_iald (z := y) (v := σ.2.1 49 y) dX12_stateWorth_36 (show mT[27]? = some (49, 0, 190944) from rfl) (by omega) (by omega) (by decide) (rfl) ?_
    have g10 := RG.a hR 49 (y)
    refine tm_iconst dX12_stateWorth_37 ?_
    refine tm_isub dX12_stateWorth_38 ?_
    refine tm_iload_n dX12_stateWorth_39 rfl 0 rfl ?_
    refine tm_aload_n dX12_stateWorth_40 rfl 1 rfl ?_
    refine tm_aload_n dX12_stateWorth_41 rfl 1 rfl ?_
    refine tm_getS (k := 83) (t := σ.1 83) dX12_stateWorth_42 (by decide) fl12_572 rfl (rfl) ?_
    have g11 := RG.s hR 83
    refine tm_aload_n dX12_stateWorth_45 rfl 1 rfl ?_
    refine tm_get (k := 52) (v := .ref (b + 1 + 30)) lay_12 dX12_stateWorth_46 (by decide) fl12_108 rfl ?_
    refine tm_iload_n dX12_stateWorth_49 rfl 2 rfl ?_
    refine tm_iald (z := y) (v := σ.2.1 52 y) dX12_stateWorth_50 (show mT[30]? = some (52, 0, 190944) from rfl) (by omega) (by omega) (by decide) (rfl) ?_
    have g12 := RG.a hR 52 (y)
    refine tm_aload_n dX12_stateWorth_51 rfl 1 rfl ?_
    refine tm_get (k := 53) (v := .ref (b + 1 + 31)) lay_12 dX12_stateWorth_52 (by decide) fl12_111 rfl ?_
    refine tm_iload_n dX12_stateWorth_55 rfl 2 rfl ?_
    refine tm_iald (z := y) (v := σ.2.1 53 y) dX12_stateWorth_56 (show mT[31]? = some (53, 0, 190944) from rfl) (by omega) (by omega) (by decide) (rfl) ?_
    have g13 := RG.a hR 53 (y)
    refine tm_callV (M := m_X12_stateWorth) (pc := 57) (ix := 545) (M' := m_X12_worth) (As := [.int (iI (σ.1 83)), .int (iI (σ.2.1 52 y)), .int (iI (σ.2.1 53 y))]) (rest := [.int (iI v6), .int (iI ((σ.2.1 49 y) - 2))]) dX12_stateWorth_57 ok_X12_worth im_X12_worth se_X12_worth ml12_545 np_X12_worth rfl rfl (Nat.le_of_ble_eq_true rfl) (Nat.le_of_ble_eq_true rfl) rfl (c_X12_worth (d) (σ := σ) (c := σ.1 83) (k := σ.2.1 52 y) (w := σ.2.1 53 y) (fun q => by omega) hR (by omega) (by omega)) (fun r14 σ15 hp => ?_)
    obtain ⟨v16, rfl, rfl, f17⟩ := hp
    show Tm _ _ 60 b σ [(2, .int (iI v6)), (0, .ref b), (1, .int (iI y))] [.int (iI v16), .int (iI v6), .int (iI ((σ.2.1 49 y) - 2))] _
    refine tm_callS (M := m_X12_stateWorth) (pc := 60) (ix := 466) (M' := m_X12_worked) (As := [.int (iI ((σ.2.1 49 y) - 2)), .int (iI v6), .int (iI v16)]) (rest := []) dX12_stateWorth_60 ok_X12_worked stt_X12_worked ml12_466 np_X12_worked rfl (Nat.le_of_ble_eq_true rfl) (Nat.le_of_ble_eq_true rfl) rfl (c_X12_worked (d) (σ := σ) (k := (σ.2.1 49 y) - 2) (x := v6) (y := v16) (by omega) (by omega) (by omega)) (fun r18 σ19 hp => ?_)
    obtain ⟨v20, rfl, rfl, f21⟩ := hp
    show Tm _ _ 63 b σ [(2, .int (iI v6)), (0, .ref b), (1, .int (iI y))] [.int (iI v20)] _
    refine tm_goto (tgt := 67) dX12_stateWorth_63 (by decide) ?_
    exact tm_iret rfl dX12_stateWorth_67 (⟨_, rfl, rfl, by omega⟩)
end
section
theorem ml12_539 : Cond.methodLink RX12 539 yX12_paramAt ∈ pWW := pw10 (List.mem_of_getElem? (i := 5) rfl) rfl
theorem dX12_startMachine_37 : decode cX12_startMachine 37 = .ok (.iload 7, 2) := by decide +kernel
theorem dX12_startMachine_39 : decode cX12_startMachine 39 = .ok (.aload_n 0, 1) := by decide +kernel
theorem dX12_startMachine_40 : decode cX12_startMachine 40 = .ok (.getfield 35, 3) := by decide +kernel
theorem dX12_startMachine_43 : decode cX12_startMachine 43 = .ok (.iload_n 2, 1) := by decide +kernel
theorem dX12_startMachine_44 : decode cX12_startMachine 44 = .ok (.iaload, 1) := by decide +kernel
theorem dX12_startMachine_45 : decode cX12_startMachine 45 = .ok (.if_icmp .ge 61, 3) := by decide +kernel
theorem dX12_startMachine_48 : decode cX12_startMachine 48 = .ok (.aload_n 0, 1) := by decide +kernel
theorem dX12_startMachine_49 : decode cX12_startMachine 49 = .ok (.getfield 179, 3) := by decide +kernel
theorem dX12_startMachine_52 : decode cX12_startMachine 52 = .ok (.sipush 1728, 3) := by decide +kernel
theorem dX12_startMachine_55 : decode cX12_startMachine 55 = .ok (.iload_n 1, 1) := by decide +kernel
theorem dX12_startMachine_56 : decode cX12_startMachine 56 = .ok (.imul, 1) := by decide +kernel
theorem dX12_startMachine_57 : decode cX12_startMachine 57 = .ok (.aload_n 0, 1) := by decide +kernel
theorem dX12_startMachine_58 : decode cX12_startMachine 58 = .ok (.iload_n 1, 1) := by decide +kernel
theorem dX12_startMachine_59 : decode cX12_startMachine 59 = .ok (.iload_n 2, 1) := by decide +kernel
theorem dX12_startMachine_60 : decode cX12_startMachine 60 = .ok (.iload 7, 2) := by decide +kernel
theorem dX12_startMachine_62 : decode cX12_startMachine 62 = .ok (.invokevirtual 539, 3) := by decide +kernel
theorem dX12_startMachine_65 : decode cX12_startMachine 65 = .ok (.iadd, 1) := by decide +kernel
theorem dX12_startMachine_66 : decode cX12_startMachine 66 = .ok (.iload 7, 2) := by decide +kernel
theorem dX12_startMachine_68 : decode cX12_startMachine 68 = .ok (.ifCond .ne 7, 3) := by decide +kernel
theorem dX12_startMachine_75 : decode cX12_startMachine 75 = .ok (.iload 7, 2) := by decide +kernel
theorem dX12_startMachine_77 : decode cX12_startMachine 77 = .ok (.iconst 1, 1) := by decide +kernel
theorem dX12_startMachine_78 : decode cX12_startMachine 78 = .ok (.if_icmp .ne 8, 3) := by decide +kernel
theorem dX12_startMachine_86 : decode cX12_startMachine 86 = .ok (.iload 7, 2) := by decide +kernel
theorem dX12_startMachine_88 : decode cX12_startMachine 88 = .ok (.iconst 2, 1) := by decide +kernel
theorem dX12_startMachine_89 : decode cX12_startMachine 89 = .ok (.if_icmp .ne 8, 3) := by decide +kernel
theorem dX12_startMachine_97 : decode cX12_startMachine 97 = .ok (.iload 6, 2) := by decide +kernel
theorem dX12_startMachine_99 : decode cX12_startMachine 99 = .ok (.iastore, 1) := by decide +kernel
theorem dX12_startMachine_100 : decode cX12_startMachine 100 = .ok (.iinc 7 1, 3) := by decide +kernel
theorem dX12_startMachine_103 : decode cX12_startMachine 103 = .ok (.goto (-66), 3) := by decide +kernel
theorem dX12_startMachine_92 : decode cX12_startMachine 92 = .ok (.iload 5, 2) := by decide +kernel
theorem dX12_startMachine_94 : decode cX12_startMachine 94 = .ok (.goto 5, 3) := by decide +kernel
theorem dX12_startMachine_81 : decode cX12_startMachine 81 = .ok (.iload 4, 2) := by decide +kernel
theorem dX12_startMachine_83 : decode cX12_startMachine 83 = .ok (.goto 16, 3) := by decide +kernel
theorem dX12_startMachine_71 : decode cX12_startMachine 71 = .ok (.iload_n 3, 1) := by decide +kernel
theorem dX12_startMachine_72 : decode cX12_startMachine 72 = .ok (.goto 27, 3) := by decide +kernel
set_option maxHeartbeats 4000000 in
set_option maxRecDepth 20000 in
theorem l_startM (d : Nat) {b : Nat} {σ0 : MS} {m : Int} {x : Int} {a1 : Int} {a2 : Int} {a3 : Int} {a4 : Int} {post : Option Value → MS → Prop} (hm2 : 0 ≤ m ∧ m ≤ 2) (hx : 0 ≤ x ∧ x < 6) (hR0 : RG σ0) (hpm : 0 ≤ σ0.2.1 11 x ∧ σ0.2.1 11 x ≤ 4) (hnm : ∀ n, 0 ≤ n → n < σ0.2.1 11 x → 0 ≤ σ0.2.1 18 (144 * x + n) ∧ σ0.2.1 18 (144 * x + n) < 192) (h_a1 : -2147483648 ≤ a1 ∧ a1 ≤ 2147483647) (h_a2 : -2147483648 ≤ a2 ∧ a2 ≤ 2147483647) (h_a3 : -2147483648 ≤ a3 ∧ a3 ≤ 2147483647) (h_a4 : -2147483648 ≤ a4 ∧ a4 ≤ 2147483647) (hx_106 : ∀ (n1 : Int) (σ : MS) , (Fr [] [82] [] σ0 σ) → (RG σ) → Tm (d + 2) m_X12_startMachine 106 b σ [(7, .int (iI n1)), (0, .ref b), (1, .int (iI m)), (2, .int (iI x)), (3, .int (iI a1)), (4, .int (iI a2)), (5, .int (iI a3)), (6, .int (iI a4))] [] post) : ∀ (n : Nat) (n1 : Int) (σ : MS) , (Fr [] [82] [] σ0 σ) → (RG σ) → (0 ≤ n1 ∧ n1 ≤ 4) → (4 - n1).toNat = n → Tm (d + 2) m_X12_startMachine 37 b σ [(7, .int (iI n1)), (0, .ref b), (1, .int (iI m)), (2, .int (iI x)), (3, .int (iI a1)), (4, .int (iI a2)), (5, .int (iI a3)), (6, .int (iI a4))] [] post := by
  intro n
  induction n using Nat.strongRecOn with
  | _ n ih =>
    intro n1 σ hF hR h0 hm
    refine tm_iload dX12_startMachine_37 0 rfl ?_
    refine tm_aload_n dX12_startMachine_39 rfl 1 rfl ?_
    refine tm_get (k := 11) (v := .ref (b + 1 + 8)) lay_12 dX12_startMachine_40 (by decide) fl12_35 rfl ?_
    refine tm_iload_n dX12_startMachine_43 rfl 3 rfl ?_
    refine tm_iald (z := x) (v := σ0.2.1 11 x) dX12_startMachine_44 (show mT[8]? = some (11, 0, 6) from rfl) (by omega) (by omega) (by decide) (ra_F hF (by decide) (rfl)) ?_
    have g1 := RG.a hR0 11 (x)
    refine tm_icmp_ge (tgt := 106) dX12_startMachine_45 (by decide) ⟨by omega, by omega⟩ ⟨by omega, by omega⟩ (fun h2 => ?_) (fun h2 => ?_)
    · exact tm_sub [0, 1, 2, 3, 4, 5, 6, 7] rfl (hx_106 (n1) σ (Fr.rfl.trans (Fr.sub hF (by decide) (by decide) (by decide))) hR)
    · have hq := hnm n1 (by omega) (by omega)
      have e18 : σ.2.1 18 (144 * x + n1) = σ0.2.1 18 (144 * x + n1) := by rw [hF.2.1 18 (by decide)]
      refine tm_aload_n dX12_startMachine_48 rfl 1 rfl ?_
      refine tm_get (k := 82) (v := .ref (b + 1 + 53)) lay_12 dX12_startMachine_49 (by decide) fl12_179 rfl ?_
      refine tm_sipush dX12_startMachine_52 (by decide) ?_
      refine tm_iload_n dX12_startMachine_55 rfl 2 rfl ?_
      refine tm_imul dX12_startMachine_56 ?_
      refine tm_aload_n dX12_startMachine_57 rfl 1 rfl ?_
      refine tm_iload_n dX12_startMachine_58 rfl 2 rfl ?_
      refine tm_iload_n dX12_startMachine_59 rfl 3 rfl ?_
      refine tm_iload dX12_startMachine_60 0 rfl ?_
      refine tm_callV (M := m_X12_startMachine) (pc := 62) (ix := 539) (M' := m_X12_paramAt) (As := [.int (iI m), .int (iI x), .int (iI n1)]) (rest := [.int (iI (1728 * m)), .ref (b + 1 + 53)]) dX12_startMachine_62 ok_X12_paramAt im_X12_paramAt se_X12_paramAt ml12_539 np_X12_paramAt rfl rfl (Nat.le_of_ble_eq_true rfl) (Nat.le_of_ble_eq_true rfl) rfl (c_X12_paramAt (d) (σ := σ) (m := m) (x := x) (n := n1) (by omega) (by omega)) (fun r3 σ4 hp => ?_)
      obtain ⟨v5, rfl, rfl, f6, f7⟩ := hp
      show Tm _ _ 65 b σ [(7, .int (iI n1)), (0, .ref b), (1, .int (iI m)), (2, .int (iI x)), (3, .int (iI a1)), (4, .int (iI a2)), (5, .int (iI a3)), (6, .int (iI a4))] [.int (iI v5), .int (iI (1728 * m)), .ref (b + 1 + 53)] _
      refine tm_iadd dX12_startMachine_65 ?_
      refine tm_iload dX12_startMachine_66 0 rfl ?_
      refine tm_if_ne (tgt := 75) dX12_startMachine_68 (by decide) ⟨by omega, by omega⟩ (fun h8 => ?_) (fun h8 => ?_)
      · refine tm_iload dX12_startMachine_75 0 rfl ?_
        refine tm_iconst dX12_startMachine_77 ?_
        refine tm_icmp_ne (tgt := 86) dX12_startMachine_78 (by decide) ⟨by omega, by omega⟩ ⟨by decide, by decide⟩ (fun h9 => ?_) (fun h9 => ?_)
        · refine tm_iload dX12_startMachine_86 0 rfl ?_
          refine tm_iconst dX12_startMachine_88 ?_
          refine tm_icmp_ne (tgt := 97) dX12_startMachine_89 (by decide) ⟨by omega, by omega⟩ ⟨by decide, by decide⟩ (fun h10 => ?_) (fun h10 => ?_)
          · refine tm_iload dX12_startMachine_97 7 rfl ?_
            refine tm_iast (z := (1728 * m) + v5) (v := a4) dX12_startMachine_99 (show mT[53]? = some (82, 0, 5184) from rfl) (by omega) (by omega) (by decide) ?_
            refine tm_iinc (q0 := 0) (L' := [(7, .int (iI (n1 + 1))), (0, .ref b), (1, .int (iI m)), (2, .int (iI x)), (3, .int (iI a1)), (4, .int (iI a2)), (5, .int (iI a3)), (6, .int (iI a4))]) dX12_startMachine_100 rfl (by decide) rfl ?_
            refine tm_goto (tgt := 37) dX12_startMachine_103 (by decide) ?_
            exact tm_sub [0, 1, 2, 3, 4, 5, 6, 7] rfl (ih _ (by omega) (n1 + 1) (sA 82 ((1728 * m) + v5) (a4) σ) ((Fr.rfl.trans (Fr.sub hF (by decide) (by decide) (by decide))).A (by decide)) (hR.A (by omega)) (by omega) rfl)
          · refine tm_iload dX12_startMachine_92 6 rfl ?_
            refine tm_goto (tgt := 99) dX12_startMachine_94 (by decide) ?_
            refine tm_iast (z := (1728 * m) + v5) (v := a3) dX12_startMachine_99 (show mT[53]? = some (82, 0, 5184) from rfl) (by omega) (by omega) (by decide) ?_
            refine tm_iinc (q0 := 0) (L' := [(7, .int (iI (n1 + 1))), (0, .ref b), (1, .int (iI m)), (2, .int (iI x)), (3, .int (iI a1)), (4, .int (iI a2)), (5, .int (iI a3)), (6, .int (iI a4))]) dX12_startMachine_100 rfl (by decide) rfl ?_
            refine tm_goto (tgt := 37) dX12_startMachine_103 (by decide) ?_
            exact tm_sub [0, 1, 2, 3, 4, 5, 6, 7] rfl (ih _ (by omega) (n1 + 1) (sA 82 ((1728 * m) + v5) (a3) σ) ((Fr.rfl.trans (Fr.sub hF (by decide) (by decide) (by decide))).A (by decide)) (hR.A (by omega)) (by omega) rfl)
        · refine tm_iload dX12_startMachine_81 5 rfl ?_
          refine tm_goto (tgt := 99) dX12_startMachine_83 (by decide) ?_
          refine tm_iast (z := (1728 * m) + v5) (v := a2) dX12_startMachine_99 (show mT[53]? = some (82, 0, 5184) from rfl) (by omega) (by omega) (by decide) ?_
          refine tm_iinc (q0 := 0) (L' := [(7, .int (iI (n1 + 1))), (0, .ref b), (1, .int (iI m)), (2, .int (iI x)), (3, .int (iI a1)), (4, .int (iI a2)), (5, .int (iI a3)), (6, .int (iI a4))]) dX12_startMachine_100 rfl (by decide) rfl ?_
          refine tm_goto (tgt := 37) dX12_startMachine_103 (by decide) ?_
          exact tm_sub [0, 1, 2, 3, 4, 5, 6, 7] rfl (ih _ (by omega) (n1 + 1) (sA 82 ((1728 * m) + v5) (a2) σ) ((Fr.rfl.trans (Fr.sub hF (by decide) (by decide) (by decide))).A (by decide)) (hR.A (by omega)) (by omega) rfl)
      · refine tm_iload_n dX12_startMachine_71 rfl 4 rfl ?_
        refine tm_goto (tgt := 99) dX12_startMachine_72 (by decide) ?_
        refine tm_iast (z := (1728 * m) + v5) (v := a1) dX12_startMachine_99 (show mT[53]? = some (82, 0, 5184) from rfl) (by omega) (by omega) (by decide) ?_
        refine tm_iinc (q0 := 0) (L' := [(7, .int (iI (n1 + 1))), (0, .ref b), (1, .int (iI m)), (2, .int (iI x)), (3, .int (iI a1)), (4, .int (iI a2)), (5, .int (iI a3)), (6, .int (iI a4))]) dX12_startMachine_100 rfl (by decide) rfl ?_
        refine tm_goto (tgt := 37) dX12_startMachine_103 (by decide) ?_
        exact tm_sub [0, 1, 2, 3, 4, 5, 6, 7] rfl (ih _ (by omega) (n1 + 1) (sA 82 ((1728 * m) + v5) (a1) σ) ((Fr.rfl.trans (Fr.sub hF (by decide) (by decide) (by decide))).A (by decide)) (hR.A (by omega)) (by omega) rfl)
theorem fl12_155 : Cond.fieldLink RX12 155 (TX12 74).1 (TX12 74).2.1 (TX12 74).2.2.1 ∈ pWW := pw7 (List.mem_of_getElem? (i := 79) rfl) rfl
theorem fl12_158 : Cond.fieldLink RX12 158 (TX12 75).1 (TX12 75).2.1 (TX12 75).2.2.1 ∈ pWW := pw7 (List.mem_of_getElem? (i := 80) rfl) rfl
theorem ml12_536 : Cond.methodLink RX12 536 yX12_enterCall ∈ pWW := pw10 (List.mem_of_getElem? (i := 1) rfl) rfl
theorem dX12_startMachine_0 : decode cX12_startMachine 0 = .ok (.aload_n 0, 1) := by decide +kernel
theorem dX12_startMachine_1 : decode cX12_startMachine 1 = .ok (.getfield 152, 3) := by decide +kernel
theorem dX12_startMachine_4 : decode cX12_startMachine 4 = .ok (.iload_n 1, 1) := by decide +kernel
theorem dX12_startMachine_5 : decode cX12_startMachine 5 = .ok (.iconst 0, 1) := by decide +kernel
theorem dX12_startMachine_6 : decode cX12_startMachine 6 = .ok (.iastore, 1) := by decide +kernel
theorem dX12_startMachine_7 : decode cX12_startMachine 7 = .ok (.aload_n 0, 1) := by decide +kernel
theorem dX12_startMachine_8 : decode cX12_startMachine 8 = .ok (.getfield 155, 3) := by decide +kernel
theorem dX12_startMachine_11 : decode cX12_startMachine 11 = .ok (.iload_n 1, 1) := by decide +kernel
theorem dX12_startMachine_12 : decode cX12_startMachine 12 = .ok (.iconst 0, 1) := by decide +kernel
theorem dX12_startMachine_13 : decode cX12_startMachine 13 = .ok (.iastore, 1) := by decide +kernel
theorem dX12_startMachine_14 : decode cX12_startMachine 14 = .ok (.aload_n 0, 1) := by decide +kernel
theorem dX12_startMachine_15 : decode cX12_startMachine 15 = .ok (.getfield 158, 3) := by decide +kernel
theorem dX12_startMachine_18 : decode cX12_startMachine 18 = .ok (.iload_n 1, 1) := by decide +kernel
theorem dX12_startMachine_19 : decode cX12_startMachine 19 = .ok (.iconst 0, 1) := by decide +kernel
theorem dX12_startMachine_20 : decode cX12_startMachine 20 = .ok (.iastore, 1) := by decide +kernel
theorem dX12_startMachine_21 : decode cX12_startMachine 21 = .ok (.aload_n 0, 1) := by decide +kernel
theorem dX12_startMachine_22 : decode cX12_startMachine 22 = .ok (.getfield 161, 3) := by decide +kernel
theorem dX12_startMachine_25 : decode cX12_startMachine 25 = .ok (.iload_n 1, 1) := by decide +kernel
theorem dX12_startMachine_26 : decode cX12_startMachine 26 = .ok (.iconst 0, 1) := by decide +kernel
theorem dX12_startMachine_27 : decode cX12_startMachine 27 = .ok (.iastore, 1) := by decide +kernel
theorem dX12_startMachine_28 : decode cX12_startMachine 28 = .ok (.aload_n 0, 1) := by decide +kernel
theorem dX12_startMachine_29 : decode cX12_startMachine 29 = .ok (.iload_n 1, 1) := by decide +kernel
theorem dX12_startMachine_30 : decode cX12_startMachine 30 = .ok (.iload_n 2, 1) := by decide +kernel
theorem dX12_startMachine_31 : decode cX12_startMachine 31 = .ok (.invokevirtual 536, 3) := by decide +kernel
theorem dX12_startMachine_34 : decode cX12_startMachine 34 = .ok (.iconst 0, 1) := by decide +kernel
theorem dX12_startMachine_35 : decode cX12_startMachine 35 = .ok (.istore 7, 2) := by decide +kernel
theorem dX12_startMachine_106 : decode cX12_startMachine 106 = .ok (.return_, 1) := by decide +kernel
end
section
theorem dX12_stateAt_0 : decode cX12_stateAt 0 = .ok (.aload_n 0, 1) := by decide +kernel
theorem dX12_stateAt_1 : decode cX12_stateAt 1 = .ok (.aload_n 0, 1) := by decide +kernel
theorem dX12_stateAt_2 : decode cX12_stateAt 2 = .ok (.getfield 167, 3) := by decide +kernel
theorem dX12_stateAt_5 : decode cX12_stateAt 5 = .ok (.aload_n 0, 1) := by decide +kernel
theorem dX12_stateAt_6 : decode cX12_stateAt 6 = .ok (.getfield 572, 3) := by decide +kernel
theorem dX12_stateAt_9 : decode cX12_stateAt 9 = .ok (.iaload, 1) := by decide +kernel
theorem dX12_stateAt_10 : decode cX12_stateAt 10 = .ok (.invokevirtual 430, 3) := by decide +kernel
theorem dX12_stateAt_13 : decode cX12_stateAt 13 = .ok (.sipush 31824, 3) := by decide +kernel
theorem dX12_stateAt_16 : decode cX12_stateAt 16 = .ok (.aload_n 0, 1) := by decide +kernel
theorem dX12_stateAt_17 : decode cX12_stateAt 17 = .ok (.getfield 167, 3) := by decide +kernel
theorem dX12_stateAt_20 : decode cX12_stateAt 20 = .ok (.aload_n 0, 1) := by decide +kernel
theorem dX12_stateAt_21 : decode cX12_stateAt 21 = .ok (.getfield 572, 3) := by decide +kernel
theorem dX12_stateAt_24 : decode cX12_stateAt 24 = .ok (.iaload, 1) := by decide +kernel
theorem dX12_stateAt_25 : decode cX12_stateAt 25 = .ok (.imul, 1) := by decide +kernel
theorem dX12_stateAt_26 : decode cX12_stateAt 26 = .ok (.sipush 144, 3) := by decide +kernel
theorem dX12_stateAt_29 : decode cX12_stateAt 29 = .ok (.aload_n 0, 1) := by decide +kernel
theorem dX12_stateAt_30 : decode cX12_stateAt 30 = .ok (.getfield 170, 3) := by decide +kernel
theorem dX12_stateAt_33 : decode cX12_stateAt 33 = .ok (.aload_n 0, 1) := by decide +kernel
theorem dX12_stateAt_34 : decode cX12_stateAt 34 = .ok (.getfield 572, 3) := by decide +kernel
theorem dX12_stateAt_37 : decode cX12_stateAt 37 = .ok (.iaload, 1) := by decide +kernel
theorem dX12_stateAt_38 : decode cX12_stateAt 38 = .ok (.imul, 1) := by decide +kernel
theorem dX12_stateAt_39 : decode cX12_stateAt 39 = .ok (.iadd, 1) := by decide +kernel
theorem dX12_stateAt_40 : decode cX12_stateAt 40 = .ok (.bipush 12, 2) := by decide +kernel
theorem dX12_stateAt_42 : decode cX12_stateAt 42 = .ok (.aload_n 0, 1) := by decide +kernel
theorem dX12_stateAt_43 : decode cX12_stateAt 43 = .ok (.getfield 575, 3) := by decide +kernel
theorem dX12_stateAt_46 : decode cX12_stateAt 46 = .ok (.imul, 1) := by decide +kernel
theorem dX12_stateAt_47 : decode cX12_stateAt 47 = .ok (.iadd, 1) := by decide +kernel
theorem dX12_stateAt_48 : decode cX12_stateAt 48 = .ok (.iload_n 1, 1) := by decide +kernel
theorem dX12_stateAt_49 : decode cX12_stateAt 49 = .ok (.iadd, 1) := by decide +kernel
theorem dX12_stateAt_50 : decode cX12_stateAt 50 = .ok (.ireturn, 1) := by decide +kernel
set_option maxHeartbeats 4000000 in
set_option maxRecDepth 20000 in
theorem c_X12_stateAt (d : Nat) {b : Nat} {σ : MS} {n : Int} (hR : RG σ) (hit : ITM σ) (hpar : PAR σ) (hnam : NAM σ) (hrt : RTN σ) (hl : LAB σ) (hbo : BO 47 σ) (hbh : BO 48 σ) (hss : SSA σ) (hsc : SCA σ) (hgg : (0 ≤ σ.1 83 ∧ σ.1 83 < 27) ∧ (0 ≤ σ.2.1 78 (σ.1 83) ∧ σ.2.1 78 (σ.1 83) < σ.1 10) ∧ (0 ≤ σ.2.1 79 (σ.1 83) ∧ σ.2.1 79 (σ.1 83) ≤ 219) ∧ (0 ≤ σ.1 84 ∧ σ.1 84 < 12)) (hn : 0 ≤ n ∧ n < 12) : Tm (d + 6) m_X12_stateAt 0 b σ [(0, .ref b), (1, .int (iI n))] [] (fun ro σ2 => ∃ v : Int, ro = some (.int (iI v)) ∧ (Fr [] [46, 47, 48, 49, 50, 51, 52, 53, 54, 55, 56, 57, 58] [] σ σ2) ∧ (RG σ2) ∧ (LAB σ2) ∧ (BO 47 σ2) ∧ (BO 48 σ2) ∧ (SSA σ2) ∧ (SCA σ2) ∧ (0 ≤ v ∧ v < 190944)) := by
  have hrt1 := hrt.1
  have hri := hrt.2 (σ.2.1 78 (σ.1 83)) (by omega) (by omega)
  have hof := hri.2.1
  have q1 := hof.1
  refine tm_aload_n dX12_stateAt_0 rfl 0 rfl ?_
  refine tm_aload_n dX12_stateAt_1 rfl 0 rfl ?_
  refine tm_get (k := 78) (v := .ref (b + 1 + 49)) lay_12 dX12_stateAt_2 (by decide) fl12_167 rfl ?_
  refine tm_aload_n dX12_stateAt_5 rfl 0 rfl ?_
  refine tm_getS (k := 83) (t := σ.1 83) dX12_stateAt_6 (by decide) fl12_572 rfl (rfl) ?_
  have g1 := RG.s hR 83
  refine tm_iald (z := σ.1 83) (v := σ.2.1 78 (σ.1 83)) dX12_stateAt_9 (show mT[49]? = some (78, 0, 27) from rfl) (by omega) (by omega) (by decide) (rfl) ?_
  have g2 := RG.a hR 78 (σ.1 83)
  refine tm_callV (M := m_X12_stateAt) (pc := 10) (ix := 430) (M' := m_X12_findStates) (As := [.int (iI (σ.2.1 78 (σ.1 83)))]) (rest := []) dX12_stateAt_10 ok_X12_findStates im_X12_findStates se_X12_findStates ml12_430 np_X12_findStates rfl rfl (Nat.le_of_ble_eq_true rfl) (Nat.le_of_ble_eq_true rfl) rfl (c_X12_findStates (d) (σ := σ) (r := σ.2.1 78 (σ.1 83)) (F := σ.2.1 14 (σ.2.1 78 (σ.1 83))) (by omega) hR hit hpar hnam hri.2.2.1 (by omega) hof hri.2.2.2.1 hl hbo hbh hss hsc hri.2.2.2.2) (fun r3 σ4 hp => ?_)
  obtain ⟨rfl, f6, f7, f8, f9, f10, f11, f12⟩ := hp
  show Tm _ _ 13 b σ4 [(0, .ref b), (1, .int (iI n))] [] _
  have k2 := f8
  have k3 := f9
  have k4 := f10
  have k5 := f11
  have k6 := f12
  refine tm_sipush dX12_stateAt_13 (by decide) ?_
  refine tm_aload_n dX12_stateAt_16 rfl 0 rfl ?_
  refine tm_get (k := 78) (v := .ref (b + 1 + 49)) lay_12 dX12_stateAt_17 (by decide) fl12_167 rfl ?_
  refine tm_aload_n dX12_stateAt_20 rfl 0 rfl ?_
  refine tm_getS (k := 83) (t := σ.1 83) dX12_stateAt_21 (by decide) fl12_572 rfl (rs_F f6 (by decide) (rfl)) ?_
  have g13 := RG.s hR 83
  refine tm_iald (z := σ.1 83) (v := σ.2.1 78 (σ.1 83)) dX12_stateAt_24 (show mT[49]? = some (78, 0, 27) from rfl) (by omega) (by omega) (by decide) (ra_F f6 (by decide) (rfl)) ?_
  have g14 := RG.a hR 78 (σ.1 83)
  refine tm_imul dX12_stateAt_25 ?_
  refine tm_sipush dX12_stateAt_26 (by decide) ?_
  refine tm_aload_n dX12_stateAt_29 rfl 0 rfl ?_
  refine tm_get (k := 79) (v := .ref (b + 1 + 50)) lay_12 dX12_stateAt_30 (by decide) fl12_170 rfl ?_
  refine tm_aload_n dX12_stateAt_33 rfl 0 rfl ?_
  refine tm_getS (k := 83) (t := σ.1 83) dX12_stateAt_34 (by decide) fl12_572 rfl (rs_F f6 (by decide) (rfl)) ?_
  have g15 := RG.s hR 83
  refine tm_iald (z := σ.1 83) (v := σ.2.1 79 (σ.1 83)) dX12_stateAt_37 (show mT[50]? = some (79, 0, 27) from rfl) (by omega) (by omega) (by decide) (ra_F f6 (by decide) (rfl)) ?_
  have g16 := RG.a hR 79 (σ.1 83)
  refine tm_imul dX12_stateAt_38 ?_
  refine tm_iadd dX12_stateAt_39 ?_
  refine tm_bipush dX12_stateAt_40 (by decide) ?_
  refine tm_aload_n dX12_stateAt_42 rfl 0 rfl ?_
  refine tm_getS (k := 84) (t := σ.1 84) dX12_stateAt_43 (by decide) fl12_575 rfl (rs_F f6 (by decide) (rfl)) ?_
  have g17 := RG.s hR 84
  refine tm_imul dX12_stateAt_46 ?_
  refine tm_iadd dX12_stateAt_47 ?_
  refine tm_iload_n dX12_stateAt_48 rfl 1 rfl ?_
  refine tm_iadd dX12_stateAt_49 ?_
  exact tm_iret rfl dX12_stateAt_50 (⟨_, rfl, (Fr.rfl.trans (Fr.sub f6 (by decide) (by decide) (by decide))), f7, k2, k3, k4, k5, k6, by omega⟩)
end
section
theorem ml12_581 : Cond.methodLink RX12 581 yX12_isStack ∈ pWW := pw10 (List.mem_of_getElem? (i := 41) rfl) rfl
theorem ml12_584 : Cond.methodLink RX12 584 yX12_routineIn ∈ pWW := pw10 (List.mem_of_getElem? (i := 49) rfl) rfl
theorem dX12_stack_0 : decode cX12_stack 0 = .ok (.aload_n 0, 1) := by decide +kernel
theorem dX12_stack_1 : decode cX12_stack 1 = .ok (.iconst 0, 1) := by decide +kernel
theorem dX12_stack_2 : decode cX12_stack 2 = .ok (.putfield 185, 3) := by decide +kernel
theorem dX12_stack_5 : decode cX12_stack 5 = .ok (.aload_n 0, 1) := by decide +kernel
theorem dX12_stack_6 : decode cX12_stack 6 = .ok (.iload_n 1, 1) := by decide +kernel
theorem dX12_stack_7 : decode cX12_stack 7 = .ok (.invokevirtual 581, 3) := by decide +kernel
theorem dX12_stack_10 : decode cX12_stack 10 = .ok (.ifCond .ne 5, 3) := by decide +kernel
theorem dX12_stack_15 : decode cX12_stack 15 = .ok (.aload_n 0, 1) := by decide +kernel
theorem dX12_stack_16 : decode cX12_stack 16 = .ok (.iconst 0, 1) := by decide +kernel
theorem dX12_stack_17 : decode cX12_stack 17 = .ok (.invokevirtual 584, 3) := by decide +kernel
theorem dX12_stack_20 : decode cX12_stack 20 = .ok (.istore_n 3, 1) := by decide +kernel
theorem dX12_stack_21 : decode cX12_stack 21 = .ok (.iload_n 2, 1) := by decide +kernel
theorem dX12_stack_22 : decode cX12_stack 22 = .ok (.ifCond .ne 7, 3) := by decide +kernel
theorem dX12_stack_29 : decode cX12_stack 29 = .ok (.iload_n 2, 1) := by decide +kernel
theorem dX12_stack_30 : decode cX12_stack 30 = .ok (.iconst 1, 1) := by decide +kernel
theorem dX12_stack_31 : decode cX12_stack 31 = .ok (.if_icmp .ne 23, 3) := by decide +kernel
theorem dX12_stack_54 : decode cX12_stack 54 = .ok (.iload_n 2, 1) := by decide +kernel
theorem dX12_stack_55 : decode cX12_stack 55 = .ok (.iconst 2, 1) := by decide +kernel
theorem dX12_stack_56 : decode cX12_stack 56 = .ok (.if_icmp .ne 12, 3) := by decide +kernel
theorem dX12_stack_68 : decode cX12_stack 68 = .ok (.iconst (-1), 1) := by decide +kernel
theorem dX12_stack_69 : decode cX12_stack 69 = .ok (.ireturn, 1) := by decide +kernel
theorem dX12_stack_59 : decode cX12_stack 59 = .ok (.aload_n 0, 1) := by decide +kernel
theorem dX12_stack_60 : decode cX12_stack 60 = .ok (.getfield 38, 3) := by decide +kernel
theorem dX12_stack_63 : decode cX12_stack 63 = .ok (.iload_n 3, 1) := by decide +kernel
theorem dX12_stack_64 : decode cX12_stack 64 = .ok (.iaload, 1) := by decide +kernel
theorem dX12_stack_65 : decode cX12_stack 65 = .ok (.goto 4, 3) := by decide +kernel
theorem dX12_stack_34 : decode cX12_stack 34 = .ok (.aload_n 0, 1) := by decide +kernel
theorem dX12_stack_35 : decode cX12_stack 35 = .ok (.getfield 176, 3) := by decide +kernel
theorem dX12_stack_38 : decode cX12_stack 38 = .ok (.bipush 12, 2) := by decide +kernel
theorem dX12_stack_40 : decode cX12_stack 40 = .ok (.aload_n 0, 1) := by decide +kernel
theorem dX12_stack_41 : decode cX12_stack 41 = .ok (.getfield 572, 3) := by decide +kernel
theorem dX12_stack_44 : decode cX12_stack 44 = .ok (.imul, 1) := by decide +kernel
theorem dX12_stack_45 : decode cX12_stack 45 = .ok (.aload_n 0, 1) := by decide +kernel
theorem dX12_stack_46 : decode cX12_stack 46 = .ok (.getfield 575, 3) := by decide +kernel
theorem dX12_stack_49 : decode cX12_stack 49 = .ok (.iadd, 1) := by decide +kernel
theorem dX12_stack_50 : decode cX12_stack 50 = .ok (.iaload, 1) := by decide +kernel
theorem dX12_stack_51 : decode cX12_stack 51 = .ok (.goto 18, 3) := by decide +kernel
theorem dX12_stack_25 : decode cX12_stack 25 = .ok (.iload_n 3, 1) := by decide +kernel
theorem dX12_stack_26 : decode cX12_stack 26 = .ok (.goto 43, 3) := by decide +kernel
theorem dX12_stack_13 : decode cX12_stack 13 = .ok (.iconst (-1), 1) := by decide +kernel
theorem dX12_stack_14 : decode cX12_stack 14 = .ok (.ireturn, 1) := by decide +kernel
set_option maxHeartbeats 4000000 in
set_option maxRecDepth 20000 in
theorem c_X12_stack (d : Nat) {b : Nat} {σ : MS} {k : Int} {w : Int} (hR : RG σ) (hit : ITM σ) (hpar : PAR σ) (hnam : NAM σ) (hrt : RTN σ) (hrn : σ.1 67 ≠ 0 → σ.1 68 = 0 → RUD σ 0 ∧ ∀ c, 0 ≤ c → c < σ.2.1 73 0 → (0 ≤ σ.2.1 78 c ∧ σ.2.1 78 c < σ.1 10) ∧ (0 ≤ σ.2.1 79 c ∧ σ.2.1 79 c ≤ 219)) (h_k : -2147483648 ≤ k ∧ k ≤ 2147483647) (h_w : -2147483648 ≤ w ∧ w ≤ 2147483647) : Tm (d + 3) m_X12_stack 0 b σ [(0, .ref b), (1, .int (iI k)), (2, .int (iI w))] [] (fun ro σ2 => ∃ v : Int, ro = some (.int (iI v)) ∧ (Fr [0, 83, 84] [] [] σ σ2) ∧ (RG σ2)) := by
  refine tm_aload_n dX12_stack_0 rfl 0 rfl ?_
  refine tm_iconst dX12_stack_1 ?_
  refine tm_putS (k := 0) (v := 0) lay_12 dX12_stack_2 (by decide) fl12_185 rfl (tyX12_ok 0 (by decide)) rfl rfl rfl ?_
  refine tm_aload_n dX12_stack_5 rfl 0 rfl ?_
  refine tm_iload_n dX12_stack_6 rfl 1 rfl ?_
  refine tm_callV (M := m_X12_stack) (pc := 7) (ix := 581) (M' := m_X12_isStack) (As := [.int (iI k)]) (rest := []) dX12_stack_7 ok_X12_isStack im_X12_isStack se_X12_isStack ml12_581 np_X12_isStack rfl rfl (Nat.le_of_ble_eq_true rfl) (Nat.le_of_ble_eq_true rfl) rfl (c_X12_isStack (d) (σ := (sS 0 0 σ)) (k := k) (hR.S (by omega)) (fun a c => (hrn a c).1) (by omega)) (fun r1 σ2 hp => ?_)
  obtain ⟨v3, rfl, f4, f5, f6, f7⟩ := hp
  show Tm _ _ 10 b σ2 [(0, .ref b), (1, .int (iI k)), (2, .int (iI w))] [.int (iI v3)] _
  refine tm_if_ne (tgt := 15) dX12_stack_10 (by decide) ⟨by omega, by omega⟩ (fun h8 => ?_) (fun h8 => ?_)
  · have hq := f7 (by omega)
    have hrr := hrn hq.1 hq.2.1
    have e73 : (sS 0 0 σ).2.1 73 0 = σ.2.1 73 0 := rfl
    have hmc := hrr.1.1
    have hfn : fn (sS 0 0 σ) 0 (σ2.1 83) = σ.2.1 14 (σ.2.1 78 (σ2.1 83)) := if_neg (by decide)
    have hc := hrr.2 (σ2.1 83) (by omega) (by omega)
    have hrt1 := hrt.1
    have hri := hrt.2 (σ.2.1 78 (σ2.1 83)) (by omega) (by omega)
    have hof := hri.2.1
    have q1 := hof.1
    have q2 := (hof.2 (σ2.1 84) (by omega) (by omega)).1
    have q3 := hnam _ q2.1 q2.2
    have f78 : σ2.2.1 78 = σ.2.1 78 := f5.2.1 78 (by decide)
    have f15 : σ2.2.1 15 = σ.2.1 15 := f5.2.1 15 (by decide)
    have f79 : σ2.2.1 79 = σ.2.1 79 := f5.2.1 79 (by decide)
    have f10 : σ2.1 10 = σ.1 10 := f5.1 10 (by decide)
    refine tm_aload_n dX12_stack_15 rfl 0 rfl ?_
    refine tm_iconst dX12_stack_16 ?_
    refine tm_callV (M := m_X12_stack) (pc := 17) (ix := 584) (M' := m_X12_routineIn) (As := [.int (iI 0)]) (rest := []) dX12_stack_17 ok_X12_routineIn im_X12_routineIn se_X12_routineIn ml12_584 np_X12_routineIn rfl rfl (Nat.le_of_ble_eq_true rfl) (Nat.le_of_ble_eq_true rfl) rfl (c_X12_routineIn (d + 1) (σ := σ2) (m := 0) f6 (by omega) (fun _ => by rw [f78]; omega) (by omega)) (fun r9 σ10 hp => ?_)
    obtain ⟨v11, rfl, rfl, f12, f13⟩ := hp
    show Tm _ _ 20 b σ2 [(0, .ref b), (1, .int (iI k)), (2, .int (iI w))] [.int (iI v11)] _
    have hv := f13 (by decide)
    rw [f78, f15] at hv
    refine tm_istore_n (L' := [(3, .int (iI v11)), (0, .ref b), (1, .int (iI k)), (2, .int (iI w))]) dX12_stack_20 rfl (by decide) rfl ?_
    refine tm_iload_n dX12_stack_21 rfl 3 rfl ?_
    refine tm_if_ne (tgt := 29) dX12_stack_22 (by decide) ⟨by omega, by omega⟩ (fun h14 => ?_) (fun h14 => ?_)
    · refine tm_iload_n dX12_stack_29 rfl 3 rfl ?_
      refine tm_iconst dX12_stack_30 ?_
      refine tm_icmp_ne (tgt := 54) dX12_stack_31 (by decide) ⟨by omega, by omega⟩ ⟨by decide, by decide⟩ (fun h15 => ?_) (fun h15 => ?_)
      · refine tm_iload_n dX12_stack_54 rfl 3 rfl ?_
        refine tm_iconst dX12_stack_55 ?_
        refine tm_icmp_ne (tgt := 68) dX12_stack_56 (by decide) ⟨by omega, by omega⟩ ⟨by decide, by decide⟩ (fun h16 => ?_) (fun h16 => ?_)
        · refine tm_iconst dX12_stack_68 ?_
          exact tm_iret rfl dX12_stack_69 (⟨_, rfl, ((Fr.rfl.S (by decide)).trans (Fr.sub f5 (by decide) (by decide) (by decide))), f6⟩)
        · refine tm_aload_n dX12_stack_59 rfl 1 rfl ?_
          refine tm_get (k := 12) (v := .ref (b + 1 + 9)) lay_12 dX12_stack_60 (by decide) fl12_38 rfl ?_
          refine tm_iload_n dX12_stack_63 rfl 0 rfl ?_
          refine tm_iald (z := v11) (v := σ.2.1 12 v11) dX12_stack_64 (show mT[9]? = some (12, 0, 6) from rfl) (by omega) (by omega) (by decide) (ra_F f5 (by decide) (ra_S (rfl))) ?_
          have g17 := RG.a hR 12 (v11)
          refine tm_goto (tgt := 69) dX12_stack_65 (by decide) ?_
          exact tm_iret rfl dX12_stack_69 (⟨_, rfl, ((Fr.rfl.S (by decide)).trans (Fr.sub f5 (by decide) (by decide) (by decide))), f6⟩)
      · refine tm_aload_n dX12_stack_34 rfl 1 rfl ?_
        refine tm_get (k := 81) (v := .ref (b + 1 + 52)) lay_12 dX12_stack_35 (by decide) fl12_176 rfl ?_
        refine tm_bipush dX12_stack_38 (by decide) ?_
        refine tm_aload_n dX12_stack_40 rfl 1 rfl ?_
        refine tm_getS (k := 83) (t := σ2.1 83) dX12_stack_41 (by decide) fl12_572 rfl (rfl) ?_
        have g18 := RG.s f6 83
        refine tm_imul dX12_stack_44 ?_
        refine tm_aload_n dX12_stack_45 rfl 1 rfl ?_
        refine tm_getS (k := 84) (t := σ2.1 84) dX12_stack_46 (by decide) fl12_575 rfl (rfl) ?_
        have g19 := RG.s f6 84
        refine tm_iadd dX12_stack_49 ?_
        refine tm_iald (z := (12 * (σ2.1 83)) + (σ2.1 84)) (v := σ.2.1 81 ((12 * (σ2.1 83)) + (σ2.1 84))) dX12_stack_50 (show mT[52]? = some (81, 0, 324) from rfl) (by omega) (by omega) (by decide) (ra_F f5 (by decide) (ra_S (rfl))) ?_
        have g20 := RG.a hR 81 ((12 * (σ2.1 83)) + (σ2.1 84))
        refine tm_goto (tgt := 69) dX12_stack_51 (by decide) ?_
        exact tm_iret rfl dX12_stack_69 (⟨_, rfl, ((Fr.rfl.S (by decide)).trans (Fr.sub f5 (by decide) (by decide) (by decide))), f6⟩)
    · refine tm_iload_n dX12_stack_25 rfl 0 rfl ?_
      refine tm_goto (tgt := 69) dX12_stack_26 (by decide) ?_
      exact tm_iret rfl dX12_stack_69 (⟨_, rfl, ((Fr.rfl.S (by decide)).trans (Fr.sub f5 (by decide) (by decide) (by decide))), f6⟩)
  · refine tm_iconst dX12_stack_13 ?_
    exact tm_iret rfl dX12_stack_14 (⟨_, rfl, ((Fr.rfl.S (by decide)).trans (Fr.sub f5 (by decide) (by decide) (by decide))), f6⟩)
end
section
theorem RTN.fr {ss ks js : List Nat} {σ τ : MS} (h : RTN σ) (f : Fr ss ks js σ τ) (hs : 10 ∉ ss) (hk : ∀ k ∈ [3, 4, 5, 6, 7, 8, 9, 11, 12, 14, 15, 18], k ∉ ks) : RTN τ := by
  have sub : ∀ l : List Nat, (∀ k ∈ l, k ∈ [3, 4, 5, 6, 7, 8, 9, 11, 12, 14, 15, 18]) → ∀ k ∈ l, k ∉ ks := fun l hl k q => hk k (hl k q)
  refine ⟨by rw [f.1 10 hs]; exact h.1, fun r a b => ?_⟩
  rw [f.1 10 hs] at b
  obtain ⟨h1, h2, h3, h4, h5⟩ := h.2 r a b
  refine ⟨by rw [f.2.1 9 (hk 9 (by decide))]; exact h1, h2.fr f (sub _ (by decide)), ?_, ?_, h5.fr f (sub _ (by decide))⟩
  · rw [f.2.1 14 (hk 14 (by decide))]; exact h3.fr f (sub _ (by decide))
  · unfold FR0; rw [f.2.1 15 (hk 15 (by decide))]; exact h4

theorem ml12_587 : Cond.methodLink RX12 587 yX12_stateAt ∈ pWW := pw10 (List.mem_of_getElem? (i := 57) rfl) rfl
theorem dX12_known_0 : decode cX12_known 0 = .ok (.aload_n 0, 1) := by decide +kernel
theorem dX12_known_1 : decode cX12_known 1 = .ok (.iconst 0, 1) := by decide +kernel
theorem dX12_known_2 : decode cX12_known 2 = .ok (.putfield 185, 3) := by decide +kernel
theorem dX12_known_5 : decode cX12_known 5 = .ok (.aload_n 0, 1) := by decide +kernel
theorem dX12_known_6 : decode cX12_known 6 = .ok (.iload_n 1, 1) := by decide +kernel
theorem dX12_known_7 : decode cX12_known 7 = .ok (.invokevirtual 581, 3) := by decide +kernel
theorem dX12_known_10 : decode cX12_known 10 = .ok (.ifCond .eq 23, 3) := by decide +kernel
theorem dX12_known_33 : decode cX12_known 33 = .ok (.iconst (-1), 1) := by decide +kernel
theorem dX12_known_34 : decode cX12_known 34 = .ok (.ireturn, 1) := by decide +kernel
theorem dX12_known_13 : decode cX12_known 13 = .ok (.iload_n 2, 1) := by decide +kernel
theorem dX12_known_14 : decode cX12_known 14 = .ok (.iconst 0, 1) := by decide +kernel
theorem dX12_known_15 : decode cX12_known 15 = .ok (.aload_n 0, 1) := by decide +kernel
theorem dX12_known_16 : decode cX12_known 16 = .ok (.getfield 38, 3) := by decide +kernel
theorem dX12_known_19 : decode cX12_known 19 = .ok (.aload_n 0, 1) := by decide +kernel
theorem dX12_known_20 : decode cX12_known 20 = .ok (.iconst 0, 1) := by decide +kernel
theorem dX12_known_21 : decode cX12_known 21 = .ok (.invokevirtual 584, 3) := by decide +kernel
theorem dX12_known_24 : decode cX12_known 24 = .ok (.iaload, 1) := by decide +kernel
theorem dX12_known_25 : decode cX12_known 25 = .ok (.iconst 1, 1) := by decide +kernel
theorem dX12_known_26 : decode cX12_known 26 = .ok (.isub, 1) := by decide +kernel
theorem dX12_known_27 : decode cX12_known 27 = .ok (.invokestatic 188, 3) := by decide +kernel
theorem dX12_known_30 : decode cX12_known 30 = .ok (.ifCond .ne 5, 3) := by decide +kernel
theorem dX12_known_35 : decode cX12_known 35 = .ok (.aload_n 0, 1) := by decide +kernel
theorem dX12_known_36 : decode cX12_known 36 = .ok (.iload_n 2, 1) := by decide +kernel
theorem dX12_known_37 : decode cX12_known 37 = .ok (.invokevirtual 587, 3) := by decide +kernel
theorem dX12_known_40 : decode cX12_known 40 = .ok (.istore_n 3, 1) := by decide +kernel
theorem dX12_known_41 : decode cX12_known 41 = .ok (.aload_n 0, 1) := by decide +kernel
theorem dX12_known_42 : decode cX12_known 42 = .ok (.getfield 99, 3) := by decide +kernel
theorem dX12_known_45 : decode cX12_known 45 = .ok (.iload_n 3, 1) := by decide +kernel
theorem dX12_known_46 : decode cX12_known 46 = .ok (.iaload, 1) := by decide +kernel
theorem dX12_known_47 : decode cX12_known 47 = .ok (.bipush 10, 2) := by decide +kernel
theorem dX12_known_49 : decode cX12_known 49 = .ok (.if_icmp .ge 7, 3) := by decide +kernel
theorem dX12_known_56 : decode cX12_known 56 = .ok (.aload_n 0, 1) := by decide +kernel
theorem dX12_known_57 : decode cX12_known 57 = .ok (.getfield 99, 3) := by decide +kernel
theorem dX12_known_60 : decode cX12_known 60 = .ok (.iload_n 3, 1) := by decide +kernel
theorem dX12_known_61 : decode cX12_known 61 = .ok (.iaload, 1) := by decide +kernel
theorem dX12_known_62 : decode cX12_known 62 = .ok (.ireturn, 1) := by decide +kernel
theorem dX12_known_52 : decode cX12_known 52 = .ok (.iconst 1, 1) := by decide +kernel
theorem dX12_known_53 : decode cX12_known 53 = .ok (.goto 9, 3) := by decide +kernel
set_option maxHeartbeats 4000000 in
set_option maxRecDepth 20000 in
theorem c_X12_known (d : Nat) {b : Nat} {σ : MS} {k : Int} {n : Int} (hR : RG σ) (hit : ITM σ) (hpar : PAR σ) (hnam : NAM σ) (hrt : RTN σ) (hrn : σ.1 67 ≠ 0 → σ.1 68 = 0 → RUD σ 0 ∧ ∀ c, 0 ≤ c → c < σ.2.1 73 0 → (0 ≤ σ.2.1 78 c ∧ σ.2.1 78 c < σ.1 10) ∧ (0 ≤ σ.2.1 79 c ∧ σ.2.1 79 c ≤ 219)) (hl : LAB σ) (hbo : BO 47 σ) (hbh : BO 48 σ) (hss : SSA σ) (hsc : SCA σ) (h_k : -2147483648 ≤ k ∧ k ≤ 2147483647) (h_n : -2147483648 ≤ n ∧ n ≤ 2147483647) : Tm (d + 7) m_X12_known 0 b σ [(0, .ref b), (1, .int (iI k)), (2, .int (iI n))] [] (fun ro σ2 => ∃ v : Int, ro = some (.int (iI v)) ∧ (Fr [0, 83, 84] [46, 47, 48, 49, 50, 51, 52, 53, 54, 55, 56, 57, 58] [] σ σ2) ∧ (RG σ2) ∧ (LAB σ2) ∧ (BO 47 σ2) ∧ (BO 48 σ2) ∧ (SSA σ2) ∧ (SCA σ2)) := by
  refine tm_aload_n dX12_known_0 rfl 0 rfl ?_
  refine tm_iconst dX12_known_1 ?_
  refine tm_putS (k := 0) (v := 0) lay_12 dX12_known_2 (by decide) fl12_185 rfl (tyX12_ok 0 (by decide)) rfl rfl rfl ?_
  refine tm_aload_n dX12_known_5 rfl 0 rfl ?_
  refine tm_iload_n dX12_known_6 rfl 1 rfl ?_
  refine tm_callV (M := m_X12_known) (pc := 7) (ix := 581) (M' := m_X12_isStack) (As := [.int (iI k)]) (rest := []) dX12_known_7 ok_X12_isStack im_X12_isStack se_X12_isStack ml12_581 np_X12_isStack rfl rfl (Nat.le_of_ble_eq_true rfl) (Nat.le_of_ble_eq_true rfl) rfl (c_X12_isStack (d + 4) (σ := (sS 0 0 σ)) (k := k) (hR.S (by omega)) (fun a c => (hrn a c).1) (by omega)) (fun r1 σ2 hp => ?_)
  obtain ⟨v3, rfl, f4, f5, f6, f7⟩ := hp
  show Tm _ _ 10 b σ2 [(0, .ref b), (1, .int (iI k)), (2, .int (iI n))] [.int (iI v3)] _
  refine tm_if_eq (tgt := 33) dX12_known_10 (by decide) ⟨by omega, by omega⟩ (fun h8 => ?_) (fun h8 => ?_)
  · refine tm_iconst dX12_known_33 ?_
    exact tm_iret rfl dX12_known_34 (⟨_, rfl, ((Fr.rfl.S (by decide)).trans (Fr.sub f5 (by decide) (by decide) (by decide))), f6, hl.fr (show Fr [0, 83, 84] [] [] σ σ2 from ((Fr.rfl.S (by decide)).trans (Fr.sub f5 (by decide) (by decide) (by decide)))) (by decide), hbo.fr (show Fr [0, 83, 84] [] [] σ σ2 from ((Fr.rfl.S (by decide)).trans (Fr.sub f5 (by decide) (by decide) (by decide)))) (by decide), hbh.fr (show Fr [0, 83, 84] [] [] σ σ2 from ((Fr.rfl.S (by decide)).trans (Fr.sub f5 (by decide) (by decide) (by decide)))) (by decide), hss.fr (show Fr [0, 83, 84] [] [] σ σ2 from ((Fr.rfl.S (by decide)).trans (Fr.sub f5 (by decide) (by decide) (by decide)))) (by decide), hsc.fr (show Fr [0, 83, 84] [] [] σ σ2 from ((Fr.rfl.S (by decide)).trans (Fr.sub f5 (by decide) (by decide) (by decide)))) (by decide)⟩)
  · have hq := f7 (by omega)
    have hrr := hrn hq.1 hq.2.1
    have e73 : (sS 0 0 σ).2.1 73 0 = σ.2.1 73 0 := rfl
    have hmc := hrr.1.1
    have hfn : fn (sS 0 0 σ) 0 (σ2.1 83) = σ.2.1 14 (σ.2.1 78 (σ2.1 83)) := if_neg (by decide)
    have hc := hrr.2 (σ2.1 83) (by omega) (by omega)
    have hrt1 := hrt.1
    have hri := hrt.2 (σ.2.1 78 (σ2.1 83)) (by omega) (by omega)
    have hof := hri.2.1
    have q1 := hof.1
    have q2 := (hof.2 (σ2.1 84) (by omega) (by omega)).1
    have q3 := hnam _ q2.1 q2.2
    have f78 : σ2.2.1 78 = σ.2.1 78 := f5.2.1 78 (by decide)
    have f15 : σ2.2.1 15 = σ.2.1 15 := f5.2.1 15 (by decide)
    have f79 : σ2.2.1 79 = σ.2.1 79 := f5.2.1 79 (by decide)
    have f10 : σ2.1 10 = σ.1 10 := f5.1 10 (by decide)
    refine tm_iload_n dX12_known_13 rfl 2 rfl ?_
    refine tm_iconst dX12_known_14 ?_
    refine tm_aload_n dX12_known_15 rfl 0 rfl ?_
    refine tm_get (k := 12) (v := .ref (b + 1 + 9)) lay_12 dX12_known_16 (by decide) fl12_38 rfl ?_
    refine tm_aload_n dX12_known_19 rfl 0 rfl ?_
    refine tm_iconst dX12_known_20 ?_
    refine tm_callV (M := m_X12_known) (pc := 21) (ix := 584) (M' := m_X12_routineIn) (As := [.int (iI 0)]) (rest := [.ref (b + 1 + 9), .int (iI 0), .int (iI n)]) dX12_known_21 ok_X12_routineIn im_X12_routineIn se_X12_routineIn ml12_584 np_X12_routineIn rfl rfl (Nat.le_of_ble_eq_true rfl) (Nat.le_of_ble_eq_true rfl) rfl (c_X12_routineIn (d + 5) (σ := σ2) (m := 0) f6 (by omega) (fun _ => by rw [f78]; omega) (by omega)) (fun r9 σ10 hp => ?_)
    obtain ⟨v11, rfl, rfl, f12, f13⟩ := hp
    show Tm _ _ 24 b σ2 [(0, .ref b), (1, .int (iI k)), (2, .int (iI n))] [.int (iI v11), .ref (b + 1 + 9), .int (iI 0), .int (iI n)] _
    have hv := f13 (by decide)
    rw [f78, f15] at hv
    have q5 := hnam v11 (by omega) (by omega)
    refine tm_iald (z := v11) (v := σ.2.1 12 v11) dX12_known_24 (show mT[9]? = some (12, 0, 6) from rfl) (by omega) (by omega) (by decide) (ra_F f5 (by decide) (ra_S (rfl))) ?_
    have g14 := RG.a hR 12 (v11)
    refine tm_iconst dX12_known_25 ?_
    refine tm_isub dX12_known_26 ?_
    refine tm_callS (M := m_X12_known) (pc := 27) (ix := 188) (M' := m_X12_in) (As := [.int (iI n), .int (iI 0), .int (iI ((σ.2.1 12 v11) - 1))]) (rest := []) dX12_known_27 ok_X12_in stt_X12_in ml12_188 np_X12_in rfl (Nat.le_of_ble_eq_true rfl) (Nat.le_of_ble_eq_true rfl) rfl (c_X12_in (d + 5) (σ := σ2) (x := n) (lo := 0) (hi := (σ.2.1 12 v11) - 1) (by omega) (by omega) (by omega)) (fun r15 σ16 hp => ?_)
    obtain ⟨v17, rfl, rfl, f18, f19⟩ := hp
    show Tm _ _ 30 b σ2 [(0, .ref b), (1, .int (iI k)), (2, .int (iI n))] [.int (iI v17)] _
    refine tm_if_ne (tgt := 35) dX12_known_30 (by decide) ⟨by omega, by omega⟩ (fun h20 => ?_) (fun h20 => ?_)
    · refine tm_aload_n dX12_known_35 rfl 0 rfl ?_
      refine tm_iload_n dX12_known_36 rfl 2 rfl ?_
      refine tm_callV (M := m_X12_known) (pc := 37) (ix := 587) (M' := m_X12_stateAt) (As := [.int (iI n)]) (rest := []) dX12_known_37 ok_X12_stateAt im_X12_stateAt se_X12_stateAt ml12_587 np_X12_stateAt rfl rfl (Nat.le_of_ble_eq_true rfl) (Nat.le_of_ble_eq_true rfl) rfl (c_X12_stateAt (d) (σ := σ2) (n := n) f6 (hit.fr (show Fr [0, 83, 84] [] [] σ σ2 from ((Fr.rfl.S (by decide)).trans (Fr.sub f5 (by decide) (by decide) (by decide)))) (by decide)) (hpar.fr (show Fr [0, 83, 84] [] [] σ σ2 from ((Fr.rfl.S (by decide)).trans (Fr.sub f5 (by decide) (by decide) (by decide)))) (by decide)) (hnam.fr (show Fr [0, 83, 84] [] [] σ σ2 from ((Fr.rfl.S (by decide)).trans (Fr.sub f5 (by decide) (by decide) (by decide)))) (by decide)) (RTN.fr hrt (show Fr [0, 83, 84] [] [] σ σ2 from ((Fr.rfl.S (by decide)).trans (Fr.sub f5 (by decide) (by decide) (by decide)))) (by decide) (by decide)) (hl.fr (show Fr [0, 83, 84] [] [] σ σ2 from ((Fr.rfl.S (by decide)).trans (Fr.sub f5 (by decide) (by decide) (by decide)))) (by decide)) (hbo.fr (show Fr [0, 83, 84] [] [] σ σ2 from ((Fr.rfl.S (by decide)).trans (Fr.sub f5 (by decide) (by decide) (by decide)))) (by decide)) (hbh.fr (show Fr [0, 83, 84] [] [] σ σ2 from ((Fr.rfl.S (by decide)).trans (Fr.sub f5 (by decide) (by decide) (by decide)))) (by decide)) (hss.fr (show Fr [0, 83, 84] [] [] σ σ2 from ((Fr.rfl.S (by decide)).trans (Fr.sub f5 (by decide) (by decide) (by decide)))) (by decide)) (hsc.fr (show Fr [0, 83, 84] [] [] σ σ2 from ((Fr.rfl.S (by decide)).trans (Fr.sub f5 (by decide) (by decide) (by decide)))) (by decide)) (by rw [f78, f79, f10]; omega) (by omega)) (fun r21 σ22 hp => ?_)
      obtain ⟨v23, rfl, f24, f25, f26, f27, f28, f29, f30, f31⟩ := hp
      show Tm _ _ 40 b σ22 [(0, .ref b), (1, .int (iI k)), (2, .int (iI n))] [.int (iI v23)] _
      have k2 := f26
      have k3 := f27
      have k4 := f28
      have k5 := f29
      have k6 := f30
      have k7 := f31
      have g83 : σ22.1 83 = σ2.1 83 := f24.1 83 (by decide)
      refine tm_istore_n (L' := [(3, .int (iI v23)), (0, .ref b), (1, .int (iI k)), (2, .int (iI n))]) dX12_known_40 rfl (by decide) rfl ?_
      refine tm_aload_n dX12_known_41 rfl 1 rfl ?_
      refine tm_get (k := 49) (v := .ref (b + 1 + 27)) lay_12 dX12_known_42 (by decide) fl12_99 rfl ?_
      refine tm_iload_n dX12_known_45 rfl 0 rfl ?_
      refine tm_iald (z := v23) (v := σ22.2.1 49 v23) dX12_known_46 (show mT[27]? = some (49, 0, 190944) from rfl) (by omega) (by omega) (by decide) (rfl) ?_
      have g32 := RG.a f25 49 (v23)
      refine tm_bipush dX12_known_47 (by decide) ?_
      refine tm_icmp_ge (tgt := 56) dX12_known_49 (by decide) ⟨by omega, by omega⟩ ⟨by decide, by decide⟩ (fun h33 => ?_) (fun h33 => ?_)
      · refine tm_aload_n dX12_known_56 rfl 1 rfl ?_
        refine tm_get (k := 49) (v := .ref (b + 1 + 27)) lay_12 dX12_known_57 (by decide) fl12_99 rfl ?_
        refine tm_iload_n dX12_known_60 rfl 0 rfl ?_
        refine tm_iald (z := v23) (v := σ22.2.1 49 v23) dX12_known_61 (show mT[27]? = some (49, 0, 190944) from rfl) (by omega) (by omega) (by decide) (rfl) ?_
        have g34 := RG.a f25 49 (v23)
        exact tm_iret rfl dX12_known_62 (⟨_, rfl, (((Fr.rfl.S (by decide)).trans (Fr.sub f5 (by decide) (by decide) (by decide))).trans (Fr.sub f24 (by decide) (by decide) (by decide))), f25, k2, k3, k4, k5, k6⟩)
      · refine tm_iconst dX12_known_52 ?_
        refine tm_goto (tgt := 62) dX12_known_53 (by decide) ?_
        exact tm_iret rfl dX12_known_62 (⟨_, rfl, (((Fr.rfl.S (by decide)).trans (Fr.sub f5 (by decide) (by decide) (by decide))).trans (Fr.sub f24 (by decide) (by decide) (by decide))), f25, k2, k3, k4, k5, k6⟩)
    · refine tm_iconst dX12_known_33 ?_
      exact tm_iret rfl dX12_known_34 (⟨_, rfl, ((Fr.rfl.S (by decide)).trans (Fr.sub f5 (by decide) (by decide) (by decide))), f6, hl.fr (show Fr [0, 83, 84] [] [] σ σ2 from ((Fr.rfl.S (by decide)).trans (Fr.sub f5 (by decide) (by decide) (by decide)))) (by decide), hbo.fr (show Fr [0, 83, 84] [] [] σ σ2 from ((Fr.rfl.S (by decide)).trans (Fr.sub f5 (by decide) (by decide) (by decide)))) (by decide), hbh.fr (show Fr [0, 83, 84] [] [] σ σ2 from ((Fr.rfl.S (by decide)).trans (Fr.sub f5 (by decide) (by decide) (by decide)))) (by decide), hss.fr (show Fr [0, 83, 84] [] [] σ σ2 from ((Fr.rfl.S (by decide)).trans (Fr.sub f5 (by decide) (by decide) (by decide)))) (by decide), hsc.fr (show Fr [0, 83, 84] [] [] σ σ2 from ((Fr.rfl.S (by decide)).trans (Fr.sub f5 (by decide) (by decide) (by decide)))) (by decide)⟩)
theorem ml12_590 : Cond.methodLink RX12 590 yX12_stateWorth ∈ pWW := pw10 (List.mem_of_getElem? (i := 65) rfl) rfl
theorem dX12_value_0 : decode cX12_value 0 = .ok (.aload_n 0, 1) := by decide +kernel
theorem dX12_value_1 : decode cX12_value 1 = .ok (.iconst 0, 1) := by decide +kernel
theorem dX12_value_2 : decode cX12_value 2 = .ok (.putfield 185, 3) := by decide +kernel
theorem dX12_value_5 : decode cX12_value 5 = .ok (.aload_n 0, 1) := by decide +kernel
theorem dX12_value_6 : decode cX12_value 6 = .ok (.iload_n 1, 1) := by decide +kernel
theorem dX12_value_7 : decode cX12_value 7 = .ok (.invokevirtual 581, 3) := by decide +kernel
theorem dX12_value_10 : decode cX12_value 10 = .ok (.ifCond .eq 23, 3) := by decide +kernel
theorem dX12_value_33 : decode cX12_value 33 = .ok (.iconst 0, 1) := by decide +kernel
theorem dX12_value_34 : decode cX12_value 34 = .ok (.ireturn, 1) := by decide +kernel
theorem dX12_value_13 : decode cX12_value 13 = .ok (.iload_n 2, 1) := by decide +kernel
theorem dX12_value_14 : decode cX12_value 14 = .ok (.iconst 0, 1) := by decide +kernel
theorem dX12_value_15 : decode cX12_value 15 = .ok (.aload_n 0, 1) := by decide +kernel
theorem dX12_value_16 : decode cX12_value 16 = .ok (.getfield 38, 3) := by decide +kernel
theorem dX12_value_19 : decode cX12_value 19 = .ok (.aload_n 0, 1) := by decide +kernel
theorem dX12_value_20 : decode cX12_value 20 = .ok (.iconst 0, 1) := by decide +kernel
theorem dX12_value_21 : decode cX12_value 21 = .ok (.invokevirtual 584, 3) := by decide +kernel
theorem dX12_value_24 : decode cX12_value 24 = .ok (.iaload, 1) := by decide +kernel
theorem dX12_value_25 : decode cX12_value 25 = .ok (.iconst 1, 1) := by decide +kernel
theorem dX12_value_26 : decode cX12_value 26 = .ok (.isub, 1) := by decide +kernel
theorem dX12_value_27 : decode cX12_value 27 = .ok (.invokestatic 188, 3) := by decide +kernel
theorem dX12_value_30 : decode cX12_value 30 = .ok (.ifCond .ne 5, 3) := by decide +kernel
theorem dX12_value_35 : decode cX12_value 35 = .ok (.aload_n 0, 1) := by decide +kernel
theorem dX12_value_36 : decode cX12_value 36 = .ok (.iload_n 2, 1) := by decide +kernel
theorem dX12_value_37 : decode cX12_value 37 = .ok (.invokevirtual 587, 3) := by decide +kernel
theorem dX12_value_40 : decode cX12_value 40 = .ok (.istore_n 3, 1) := by decide +kernel
theorem dX12_value_41 : decode cX12_value 41 = .ok (.aload_n 0, 1) := by decide +kernel
theorem dX12_value_42 : decode cX12_value 42 = .ok (.getfield 99, 3) := by decide +kernel
theorem dX12_value_45 : decode cX12_value 45 = .ok (.iload_n 3, 1) := by decide +kernel
theorem dX12_value_46 : decode cX12_value 46 = .ok (.iaload, 1) := by decide +kernel
theorem dX12_value_47 : decode cX12_value 47 = .ok (.bipush 10, 2) := by decide +kernel
theorem dX12_value_49 : decode cX12_value 49 = .ok (.if_icmp .ge 11, 3) := by decide +kernel
theorem dX12_value_60 : decode cX12_value 60 = .ok (.iconst 0, 1) := by decide +kernel
theorem dX12_value_61 : decode cX12_value 61 = .ok (.ireturn, 1) := by decide +kernel
theorem dX12_value_52 : decode cX12_value 52 = .ok (.aload_n 0, 1) := by decide +kernel
theorem dX12_value_53 : decode cX12_value 53 = .ok (.iload_n 3, 1) := by decide +kernel
theorem dX12_value_54 : decode cX12_value 54 = .ok (.invokevirtual 590, 3) := by decide +kernel
theorem dX12_value_57 : decode cX12_value 57 = .ok (.goto 4, 3) := by decide +kernel
set_option maxHeartbeats 4000000 in
set_option maxRecDepth 20000 in
theorem c_X12_value (d : Nat) {b : Nat} {σ : MS} {k : Int} {n : Int} (hR : RG σ) (hit : ITM σ) (hpar : PAR σ) (hnam : NAM σ) (hrt : RTN σ) (hrn : σ.1 67 ≠ 0 → σ.1 68 = 0 → RUD σ 0 ∧ ∀ c, 0 ≤ c → c < σ.2.1 73 0 → (0 ≤ σ.2.1 78 c ∧ σ.2.1 78 c < σ.1 10) ∧ (0 ≤ σ.2.1 79 c ∧ σ.2.1 79 c ≤ 219)) (hl : LAB σ) (hbo : BO 47 σ) (hbh : BO 48 σ) (hss : SSA σ) (hsc : SCA σ) (h_k : -2147483648 ≤ k ∧ k ≤ 2147483647) (h_n : -2147483648 ≤ n ∧ n ≤ 2147483647) : Tm (d + 7) m_X12_value 0 b σ [(0, .ref b), (1, .int (iI k)), (2, .int (iI n))] [] (fun ro σ2 => ∃ v : Int, ro = some (.int (iI v)) ∧ (Fr [0, 83, 84] [46, 47, 48, 49, 50, 51, 52, 53, 54, 55, 56, 57, 58] [] σ σ2) ∧ (RG σ2) ∧ (LAB σ2) ∧ (BO 47 σ2) ∧ (BO 48 σ2) ∧ (SSA σ2) ∧ (SCA σ2)) := by
  refine tm_aload_n dX12_value_0 rfl 0 rfl ?_
  refine tm_iconst dX12_value_1 ?_
  refine tm_putS (k := 0) (v := 0) lay_12 dX12_value_2 (by decide) fl12_185 rfl (tyX12_ok 0 (by decide)) rfl rfl rfl ?_
  refine tm_aload_n dX12_value_5 rfl 0 rfl ?_
  refine tm_iload_n dX12_value_6 rfl 1 rfl ?_
  refine tm_callV (M := m_X12_value) (pc := 7) (ix := 581) (M' := m_X12_isStack) (As := [.int (iI k)]) (rest := []) dX12_value_7 ok_X12_isStack im_X12_isStack se_X12_isStack ml12_581 np_X12_isStack rfl rfl (Nat.le_of_ble_eq_true rfl) (Nat.le_of_ble_eq_true rfl) rfl (c_X12_isStack (d + 4) (σ := (sS 0 0 σ)) (k := k) (hR.S (by omega)) (fun a c => (hrn a c).1) (by omega)) (fun r1 σ2 hp => ?_)
  obtain ⟨v3, rfl, f4, f5, f6, f7⟩ := hp
  show Tm _ _ 10 b σ2 [(0, .ref b), (1, .int (iI k)), (2, .int (iI n))] [.int (iI v3)] _
  refine tm_if_eq (tgt := 33) dX12_value_10 (by decide) ⟨by omega, by omega⟩ (fun h8 => ?_) (fun h8 => ?_)
  · refine tm_iconst dX12_value_33 ?_
    exact tm_iret rfl dX12_value_34 (⟨_, rfl, ((Fr.rfl.S (by decide)).trans (Fr.sub f5 (by decide) (by decide) (by decide))), f6, hl.fr (show Fr [0, 83, 84] [] [] σ σ2 from ((Fr.rfl.S (by decide)).trans (Fr.sub f5 (by decide) (by decide) (by decide)))) (by decide), hbo.fr (show Fr [0, 83, 84] [] [] σ σ2 from ((Fr.rfl.S (by decide)).trans (Fr.sub f5 (by decide) (by decide) (by decide)))) (by decide), hbh.fr (show Fr [0, 83, 84] [] [] σ σ2 from ((Fr.rfl.S (by decide)).trans (Fr.sub f5 (by decide) (by decide) (by decide)))) (by decide), hss.fr (show Fr [0, 83, 84] [] [] σ σ2 from ((Fr.rfl.S (by decide)).trans (Fr.sub f5 (by decide) (by decide) (by decide)))) (by decide), hsc.fr (show Fr [0, 83, 84] [] [] σ σ2 from ((Fr.rfl.S (by decide)).trans (Fr.sub f5 (by decide) (by decide) (by decide)))) (by decide)⟩)
  · have hq := f7 (by omega)
    have hrr := hrn hq.1 hq.2.1
    have e73 : (sS 0 0 σ).2.1 73 0 = σ.2.1 73 0 := rfl
    have hmc := hrr.1.1
    have hfn : fn (sS 0 0 σ) 0 (σ2.1 83) = σ.2.1 14 (σ.2.1 78 (σ2.1 83)) := if_neg (by decide)
    have hc := hrr.2 (σ2.1 83) (by omega) (by omega)
    have hrt1 := hrt.1
    have hri := hrt.2 (σ.2.1 78 (σ2.1 83)) (by omega) (by omega)
    have hof := hri.2.1
    have q1 := hof.1
    have q2 := (hof.2 (σ2.1 84) (by omega) (by omega)).1
    have q3 := hnam _ q2.1 q2.2
    have f78 : σ2.2.1 78 = σ.2.1 78 := f5.2.1 78 (by decide)
    have f15 : σ2.2.1 15 = σ.2.1 15 := f5.2.1 15 (by decide)
    have f79 : σ2.2.1 79 = σ.2.1 79 := f5.2.1 79 (by decide)
    have f10 : σ2.1 10 = σ.1 10 := f5.1 10 (by decide)
    refine tm_iload_n dX12_value_13 rfl 2 rfl ?_
    refine tm_iconst dX12_value_14 ?_
    refine tm_aload_n dX12_value_15 rfl 0 rfl ?_
    refine tm_get (k := 12) (v := .ref (b + 1 + 9)) lay_12 dX12_value_16 (by decide) fl12_38 rfl ?_
    refine tm_aload_n dX12_value_19 rfl 0 rfl ?_
    refine tm_iconst dX12_value_20 ?_
    refine tm_callV (M := m_X12_value) (pc := 21) (ix := 584) (M' := m_X12_routineIn) (As := [.int (iI 0)]) (rest := [.ref (b + 1 + 9), .int (iI 0), .int (iI n)]) dX12_value_21 ok_X12_routineIn im_X12_routineIn se_X12_routineIn ml12_584 np_X12_routineIn rfl rfl (Nat.le_of_ble_eq_true rfl) (Nat.le_of_ble_eq_true rfl) rfl (c_X12_routineIn (d + 5) (σ := σ2) (m := 0) f6 (by omega) (fun _ => by rw [f78]; omega) (by omega)) (fun r9 σ10 hp => ?_)
    obtain ⟨v11, rfl, rfl, f12, f13⟩ := hp
    show Tm _ _ 24 b σ2 [(0, .ref b), (1, .int (iI k)), (2, .int (iI n))] [.int (iI v11), .ref (b + 1 + 9), .int (iI 0), .int (iI n)] _
    have hv := f13 (by decide)
    rw [f78, f15] at hv
    have q5 := hnam v11 (by omega) (by omega)
    refine tm_iald (z := v11) (v := σ.2.1 12 v11) dX12_value_24 (show mT[9]? = some (12, 0, 6) from rfl) (by omega) (by omega) (by decide) (ra_F f5 (by decide) (ra_S (rfl))) ?_
    have g14 := RG.a hR 12 (v11)
    refine tm_iconst dX12_value_25 ?_
    refine tm_isub dX12_value_26 ?_
    refine tm_callS (M := m_X12_value) (pc := 27) (ix := 188) (M' := m_X12_in) (As := [.int (iI n), .int (iI 0), .int (iI ((σ.2.1 12 v11) - 1))]) (rest := []) dX12_value_27 ok_X12_in stt_X12_in ml12_188 np_X12_in rfl (Nat.le_of_ble_eq_true rfl) (Nat.le_of_ble_eq_true rfl) rfl (c_X12_in (d + 5) (σ := σ2) (x := n) (lo := 0) (hi := (σ.2.1 12 v11) - 1) (by omega) (by omega) (by omega)) (fun r15 σ16 hp => ?_)
    obtain ⟨v17, rfl, rfl, f18, f19⟩ := hp
    show Tm _ _ 30 b σ2 [(0, .ref b), (1, .int (iI k)), (2, .int (iI n))] [.int (iI v17)] _
    refine tm_if_ne (tgt := 35) dX12_value_30 (by decide) ⟨by omega, by omega⟩ (fun h20 => ?_) (fun h20 => ?_)
    · refine tm_aload_n dX12_value_35 rfl 0 rfl ?_
      refine tm_iload_n dX12_value_36 rfl 2 rfl ?_
      refine tm_callV (M := m_X12_value) (pc := 37) (ix := 587) (M' := m_X12_stateAt) (As := [.int (iI n)]) (rest := []) dX12_value_37 ok_X12_stateAt im_X12_stateAt se_X12_stateAt ml12_587 np_X12_stateAt rfl rfl (Nat.le_of_ble_eq_true rfl) (Nat.le_of_ble_eq_true rfl) rfl (c_X12_stateAt (d) (σ := σ2) (n := n) f6 (hit.fr (show Fr [0, 83, 84] [] [] σ σ2 from ((Fr.rfl.S (by decide)).trans (Fr.sub f5 (by decide) (by decide) (by decide)))) (by decide)) (hpar.fr (show Fr [0, 83, 84] [] [] σ σ2 from ((Fr.rfl.S (by decide)).trans (Fr.sub f5 (by decide) (by decide) (by decide)))) (by decide)) (hnam.fr (show Fr [0, 83, 84] [] [] σ σ2 from ((Fr.rfl.S (by decide)).trans (Fr.sub f5 (by decide) (by decide) (by decide)))) (by decide)) (RTN.fr hrt (show Fr [0, 83, 84] [] [] σ σ2 from ((Fr.rfl.S (by decide)).trans (Fr.sub f5 (by decide) (by decide) (by decide)))) (by decide) (by decide)) (hl.fr (show Fr [0, 83, 84] [] [] σ σ2 from ((Fr.rfl.S (by decide)).trans (Fr.sub f5 (by decide) (by decide) (by decide)))) (by decide)) (hbo.fr (show Fr [0, 83, 84] [] [] σ σ2 from ((Fr.rfl.S (by decide)).trans (Fr.sub f5 (by decide) (by decide) (by decide)))) (by decide)) (hbh.fr (show Fr [0, 83, 84] [] [] σ σ2 from ((Fr.rfl.S (by decide)).trans (Fr.sub f5 (by decide) (by decide) (by decide)))) (by decide)) (hss.fr (show Fr [0, 83, 84] [] [] σ σ2 from ((Fr.rfl.S (by decide)).trans (Fr.sub f5 (by decide) (by decide) (by decide)))) (by decide)) (hsc.fr (show Fr [0, 83, 84] [] [] σ σ2 from ((Fr.rfl.S (by decide)).trans (Fr.sub f5 (by decide) (by decide) (by decide)))) (by decide)) (by rw [f78, f79, f10]; omega) (by omega)) (fun r21 σ22 hp => ?_)
      obtain ⟨v23, rfl, f24, f25, f26, f27, f28, f29, f30, f31⟩ := hp
      show Tm _ _ 40 b σ22 [(0, .ref b), (1, .int (iI k)), (2, .int (iI n))] [.int (iI v23)] _
      have k2 := f26
      have k3 := f27
      have k4 := f28
      have k5 := f29
      have k6 := f30
      have k7 := f31
      have g83 : σ22.1 83 = σ2.1 83 := f24.1 83 (by decide)
      refine tm_istore_n (L' := [(3, .int (iI v23)), (0, .ref b), (1, .int (iI k)), (2, .int (iI n))]) dX12_value_40 rfl (by decide) rfl ?_
      refine tm_aload_n dX12_value_41 rfl 1 rfl ?_
      refine tm_get (k := 49) (v := .ref (b + 1 + 27)) lay_12 dX12_value_42 (by decide) fl12_99 rfl ?_
      refine tm_iload_n dX12_value_45 rfl 0 rfl ?_
      refine tm_iald (z := v23) (v := σ22.2.1 49 v23) dX12_value_46 (show mT[27]? = some (49, 0, 190944) from rfl) (by omega) (by omega) (by decide) (rfl) ?_
      have g32 := RG.a f25 49 (v23)
      refine tm_bipush dX12_value_47 (by decide) ?_
      refine tm_icmp_ge (tgt := 60) dX12_value_49 (by decide) ⟨by omega, by omega⟩ ⟨by decide, by decide⟩ (fun h33 => ?_) (fun h33 => ?_)
      · refine tm_iconst dX12_value_60 ?_
        exact tm_iret rfl dX12_value_61 (⟨_, rfl, (((Fr.rfl.S (by decide)).trans (Fr.sub f5 (by decide) (by decide) (by decide))).trans (Fr.sub f24 (by decide) (by decide) (by decide))), f25, k2, k3, k4, k5, k6⟩)
      · refine tm_aload_n dX12_value_52 rfl 1 rfl ?_
        refine tm_iload_n dX12_value_53 rfl 0 rfl ?_
        refine tm_callV (M := m_X12_value) (pc := 54) (ix := 590) (M' := m_X12_stateWorth) (As := [.int (iI v23)]) (rest := []) dX12_value_54 ok_X12_stateWorth im_X12_stateWorth se_X12_stateWorth ml12_590 np_X12_stateWorth rfl rfl (Nat.le_of_ble_eq_true rfl) (Nat.le_of_ble_eq_true rfl) rfl (c_X12_stateWorth (d + 4) (σ := σ22) (y := v23) f25 (by rw [g83]; omega) (by omega) k5) (fun r34 σ35 hp => ?_)
        obtain ⟨v36, rfl, rfl, f37⟩ := hp
        show Tm _ _ 57 b σ22 [(3, .int (iI v23)), (0, .ref b), (1, .int (iI k)), (2, .int (iI n))] [.int (iI v36)] _
        refine tm_goto (tgt := 61) dX12_value_57 (by decide) ?_
        exact tm_iret rfl dX12_value_61 (⟨_, rfl, (((Fr.rfl.S (by decide)).trans (Fr.sub f5 (by decide) (by decide) (by decide))).trans (Fr.sub f24 (by decide) (by decide) (by decide))), f25, k2, k3, k4, k5, k6⟩)
    · refine tm_iconst dX12_value_33 ?_
      exact tm_iret rfl dX12_value_34 (⟨_, rfl, ((Fr.rfl.S (by decide)).trans (Fr.sub f5 (by decide) (by decide) (by decide))), f6, hl.fr (show Fr [0, 83, 84] [] [] σ σ2 from ((Fr.rfl.S (by decide)).trans (Fr.sub f5 (by decide) (by decide) (by decide)))) (by decide), hbo.fr (show Fr [0, 83, 84] [] [] σ σ2 from ((Fr.rfl.S (by decide)).trans (Fr.sub f5 (by decide) (by decide) (by decide)))) (by decide), hbh.fr (show Fr [0, 83, 84] [] [] σ σ2 from ((Fr.rfl.S (by decide)).trans (Fr.sub f5 (by decide) (by decide) (by decide)))) (by decide), hss.fr (show Fr [0, 83, 84] [] [] σ σ2 from ((Fr.rfl.S (by decide)).trans (Fr.sub f5 (by decide) (by decide) (by decide)))) (by decide), hsc.fr (show Fr [0, 83, 84] [] [] σ σ2 from ((Fr.rfl.S (by decide)).trans (Fr.sub f5 (by decide) (by decide) (by decide)))) (by decide)⟩)
end
section
theorem fl12_566 : Cond.fieldLink RX12 566 (TX12 70).1 (TX12 70).2.1 (TX12 70).2.2.1 ∈ pWW := pw7 (List.mem_of_getElem? (i := 77) rfl) rfl
theorem ml12_554 : Cond.methodLink RX12 554 yX12_depth ∈ pWW := pw10 (List.mem_of_getElem? (i := 13) rfl) rfl
theorem fl12_563 : Cond.fieldLink RX12 563 (TX12 69).1 (TX12 69).2.1 (TX12 69).2.2.1 ∈ pWW := pw7 (List.mem_of_getElem? (i := 76) rfl) rfl
theorem dX12_run_0 : decode cX12_run 0 = .ok (.aload_n 0, 1) := by decide +kernel
theorem dX12_run_1 : decode cX12_run 1 = .ok (.iconst 0, 1) := by decide +kernel
theorem dX12_run_2 : decode cX12_run 2 = .ok (.putfield 185, 3) := by decide +kernel
theorem dX12_run_5 : decode cX12_run 5 = .ok (.aload_n 0, 1) := by decide +kernel
theorem dX12_run_6 : decode cX12_run 6 = .ok (.getfield 397, 3) := by decide +kernel
theorem dX12_run_9 : decode cX12_run 9 = .ok (.ifCond .ne 5, 3) := by decide +kernel
theorem dX12_run_14 : decode cX12_run 14 = .ok (.iload_n 1, 1) := by decide +kernel
theorem dX12_run_15 : decode cX12_run 15 = .ok (.tableswitch 111 0 5 #[37, 62, 69, 74, 81, 98], 37) := by decide +kernel
theorem dX12_run_126 : decode cX12_run 126 = .ok (.iconst (-1), 1) := by decide +kernel
theorem dX12_run_127 : decode cX12_run 127 = .ok (.ireturn, 1) := by decide +kernel
theorem dX12_run_52 : decode cX12_run 52 = .ok (.aload_n 0, 1) := by decide +kernel
theorem dX12_run_53 : decode cX12_run 53 = .ok (.getfield 560, 3) := by decide +kernel
theorem dX12_run_56 : decode cX12_run 56 = .ok (.ifCond .eq 7, 3) := by decide +kernel
theorem dX12_run_63 : decode cX12_run 63 = .ok (.aload_n 0, 1) := by decide +kernel
theorem dX12_run_64 : decode cX12_run 64 = .ok (.getfield 170, 3) := by decide +kernel
theorem dX12_run_67 : decode cX12_run 67 = .ok (.aload_n 0, 1) := by decide +kernel
theorem dX12_run_68 : decode cX12_run 68 = .ok (.getfield 152, 3) := by decide +kernel
theorem dX12_run_71 : decode cX12_run 71 = .ok (.iconst 0, 1) := by decide +kernel
theorem dX12_run_72 : decode cX12_run 72 = .ok (.iaload, 1) := by decide +kernel
theorem dX12_run_73 : decode cX12_run 73 = .ok (.iconst 1, 1) := by decide +kernel
theorem dX12_run_74 : decode cX12_run 74 = .ok (.isub, 1) := by decide +kernel
theorem dX12_run_75 : decode cX12_run 75 = .ok (.iaload, 1) := by decide +kernel
theorem dX12_run_76 : decode cX12_run 76 = .ok (.ireturn, 1) := by decide +kernel
theorem dX12_run_59 : decode cX12_run 59 = .ok (.iconst (-1), 1) := by decide +kernel
theorem dX12_run_60 : decode cX12_run 60 = .ok (.goto 16, 3) := by decide +kernel
theorem dX12_run_77 : decode cX12_run 77 = .ok (.aload_n 0, 1) := by decide +kernel
theorem dX12_run_78 : decode cX12_run 78 = .ok (.getfield 161, 3) := by decide +kernel
theorem dX12_run_81 : decode cX12_run 81 = .ok (.iconst 0, 1) := by decide +kernel
theorem dX12_run_82 : decode cX12_run 82 = .ok (.iaload, 1) := by decide +kernel
theorem dX12_run_83 : decode cX12_run 83 = .ok (.ireturn, 1) := by decide +kernel
theorem dX12_run_84 : decode cX12_run 84 = .ok (.aload_n 0, 1) := by decide +kernel
theorem dX12_run_85 : decode cX12_run 85 = .ok (.getfield 566, 3) := by decide +kernel
theorem dX12_run_88 : decode cX12_run 88 = .ok (.ireturn, 1) := by decide +kernel
theorem dX12_run_89 : decode cX12_run 89 = .ok (.aload_n 0, 1) := by decide +kernel
theorem dX12_run_90 : decode cX12_run 90 = .ok (.getfield 158, 3) := by decide +kernel
theorem dX12_run_93 : decode cX12_run 93 = .ok (.iconst 0, 1) := by decide +kernel
theorem dX12_run_94 : decode cX12_run 94 = .ok (.iaload, 1) := by decide +kernel
theorem dX12_run_95 : decode cX12_run 95 = .ok (.ireturn, 1) := by decide +kernel
theorem dX12_run_96 : decode cX12_run 96 = .ok (.aload_n 0, 1) := by decide +kernel
theorem dX12_run_97 : decode cX12_run 97 = .ok (.getfield 560, 3) := by decide +kernel
theorem dX12_run_100 : decode cX12_run 100 = .ok (.ifCond .eq 7, 3) := by decide +kernel
theorem dX12_run_107 : decode cX12_run 107 = .ok (.aload_n 0, 1) := by decide +kernel
theorem dX12_run_108 : decode cX12_run 108 = .ok (.iconst 0, 1) := by decide +kernel
theorem dX12_run_109 : decode cX12_run 109 = .ok (.invokevirtual 554, 3) := by decide +kernel
theorem dX12_run_112 : decode cX12_run 112 = .ok (.ireturn, 1) := by decide +kernel
theorem dX12_run_103 : decode cX12_run 103 = .ok (.iconst 0, 1) := by decide +kernel
theorem dX12_run_104 : decode cX12_run 104 = .ok (.goto 8, 3) := by decide +kernel
theorem dX12_run_113 : decode cX12_run 113 = .ok (.aload_n 0, 1) := by decide +kernel
theorem dX12_run_114 : decode cX12_run 114 = .ok (.getfield 563, 3) := by decide +kernel
theorem dX12_run_117 : decode cX12_run 117 = .ok (.ifCond .eq 7, 3) := by decide +kernel
theorem dX12_run_124 : decode cX12_run 124 = .ok (.iconst 0, 1) := by decide +kernel
theorem dX12_run_125 : decode cX12_run 125 = .ok (.ireturn, 1) := by decide +kernel
theorem dX12_run_120 : decode cX12_run 120 = .ok (.iconst 1, 1) := by decide +kernel
theorem dX12_run_121 : decode cX12_run 121 = .ok (.goto 4, 3) := by decide +kernel
theorem dX12_run_12 : decode cX12_run 12 = .ok (.iconst (-1), 1) := by decide +kernel
theorem dX12_run_13 : decode cX12_run 13 = .ok (.ireturn, 1) := by decide +kernel
set_option maxHeartbeats 4000000 in
set_option maxRecDepth 20000 in
theorem c_X12_run (d : Nat) {b : Nat} {σ : MS} {w : Int} (hR : RG σ) (hr7 : σ.1 67 ≠ 0 → σ.1 68 = 0 → RUD σ 0 ∧ 1 ≤ σ.2.1 73 0) (h_w : -2147483648 ≤ w ∧ w ≤ 2147483647) : Tm (d + 2) m_X12_run 0 b σ [(0, .ref b), (1, .int (iI w))] [] (fun ro σ2 => ∃ v : Int, ro = some (.int (iI v)) ∧ (Fr [0] [] [] σ σ2) ∧ (RG σ2)) := by
  refine tm_aload_n dX12_run_0 rfl 0 rfl ?_
  refine tm_iconst dX12_run_1 ?_
  refine tm_putS (k := 0) (v := 0) lay_12 dX12_run_2 (by decide) fl12_185 rfl (tyX12_ok 0 (by decide)) rfl rfl rfl ?_
  refine tm_aload_n dX12_run_5 rfl 0 rfl ?_
  refine tm_getS (k := 67) (t := σ.1 67) dX12_run_6 (by decide) fl12_397 rfl (rs_o (by decide) (rfl)) ?_
  have g1 := RG.s hR 67
  refine tm_if_ne (tgt := 14) dX12_run_9 (by decide) ⟨by omega, by omega⟩ (fun h2 => ?_) (fun h2 => ?_)
  · refine tm_iload_n dX12_run_14 rfl 1 rfl ?_
    by_cases h3 : w < 0 ∨ 5 < w
    · refine tm_tableOut (tgt := 126) dX12_run_15 ⟨by omega, by omega⟩ h3 (by decide) ?_
      refine tm_iconst dX12_run_126 ?_
      exact tm_iret rfl dX12_run_127 (⟨_, rfl, (Fr.rfl.S (by decide)), (hR.S (by omega))⟩)
    · have h3c : w = 0 ∨ w = 1 ∨ w = 2 ∨ w = 3 ∨ w = 4 ∨ w = 5 := by omega
      rcases h3c with h3v | h3v | h3v | h3v | h3v | h3v
      · refine tm_tableIn (tgt := 52) dX12_run_15 ⟨by omega, by omega⟩ (by omega) (by omega) (show _ = some (37) by rw [h3v]; rfl) (by decide) ?_
        refine tm_aload_n dX12_run_52 rfl 0 rfl ?_
        refine tm_getS (k := 68) (t := σ.1 68) dX12_run_53 (by decide) fl12_560 rfl (rs_o (by decide) (rfl)) ?_
        have g4 := RG.s hR 68
        refine tm_if_eq (tgt := 63) dX12_run_56 (by decide) ⟨by omega, by omega⟩ (fun h5 => ?_) (fun h5 => ?_)
        · have hrr := hr7 (by omega) (by omega)
          have hmc := hrr.1.1
          refine tm_aload_n dX12_run_63 rfl 0 rfl ?_
          refine tm_get (k := 79) (v := .ref (b + 1 + 50)) lay_12 dX12_run_64 (by decide) fl12_170 rfl ?_
          refine tm_aload_n dX12_run_67 rfl 0 rfl ?_
          refine tm_get (k := 73) (v := .ref (b + 1 + 44)) lay_12 dX12_run_68 (by decide) fl12_152 rfl ?_
          refine tm_iconst dX12_run_71 ?_
          refine tm_iald (z := 0) (v := σ.2.1 73 0) dX12_run_72 (show mT[44]? = some (73, 0, 3) from rfl) (by omega) (by omega) (by decide) (ra_S (rfl)) ?_
          have g6 := RG.a hR 73 (0)
          refine tm_iconst dX12_run_73 ?_
          refine tm_isub dX12_run_74 ?_
          refine tm_iald (z := (σ.2.1 73 0) - 1) (v := σ.2.1 79 ((σ.2.1 73 0) - 1)) dX12_run_75 (show mT[50]? = some (79, 0, 27) from rfl) (by omega) (by omega) (by decide) (ra_S (rfl)) ?_
          have g7 := RG.a hR 79 ((σ.2.1 73 0) - 1)
          exact tm_iret rfl dX12_run_76 (⟨_, rfl, (Fr.rfl.S (by decide)), (hR.S (by omega))⟩)
        · refine tm_iconst dX12_run_59 ?_
          refine tm_goto (tgt := 76) dX12_run_60 (by decide) ?_
          exact tm_iret rfl dX12_run_76 (⟨_, rfl, (Fr.rfl.S (by decide)), (hR.S (by omega))⟩)
      · refine tm_tableIn (tgt := 77) dX12_run_15 ⟨by omega, by omega⟩ (by omega) (by omega) (show _ = some (62) by rw [h3v]; rfl) (by decide) ?_
        refine tm_aload_n dX12_run_77 rfl 0 rfl ?_
        refine tm_get (k := 76) (v := .ref (b + 1 + 47)) lay_12 dX12_run_78 (by decide) fl12_161 rfl ?_
        refine tm_iconst dX12_run_81 ?_
        refine tm_iald (z := 0) (v := σ.2.1 76 0) dX12_run_82 (show mT[47]? = some (76, 0, 3) from rfl) (by omega) (by omega) (by decide) (ra_S (rfl)) ?_
        have g8 := RG.a hR 76 (0)
        exact tm_iret rfl dX12_run_83 (⟨_, rfl, (Fr.rfl.S (by decide)), (hR.S (by omega))⟩)
      · refine tm_tableIn (tgt := 84) dX12_run_15 ⟨by omega, by omega⟩ (by omega) (by omega) (show _ = some (69) by rw [h3v]; rfl) (by decide) ?_
        refine tm_aload_n dX12_run_84 rfl 0 rfl ?_
        refine tm_getS (k := 70) (t := σ.1 70) dX12_run_85 (by decide) fl12_566 rfl (rs_o (by decide) (rfl)) ?_
        have g9 := RG.s hR 70
        exact tm_iret rfl dX12_run_88 (⟨_, rfl, (Fr.rfl.S (by decide)), (hR.S (by omega))⟩)
      · refine tm_tableIn (tgt := 89) dX12_run_15 ⟨by omega, by omega⟩ (by omega) (by omega) (show _ = some (74) by rw [h3v]; rfl) (by decide) ?_
        refine tm_aload_n dX12_run_89 rfl 0 rfl ?_
        refine tm_get (k := 75) (v := .ref (b + 1 + 46)) lay_12 dX12_run_90 (by decide) fl12_158 rfl ?_
        refine tm_iconst dX12_run_93 ?_
        refine tm_iald (z := 0) (v := σ.2.1 75 0) dX12_run_94 (show mT[46]? = some (75, 0, 3) from rfl) (by omega) (by omega) (by decide) (ra_S (rfl)) ?_
        have g10 := RG.a hR 75 (0)
        exact tm_iret rfl dX12_run_95 (⟨_, rfl, (Fr.rfl.S (by decide)), (hR.S (by omega))⟩)
      · refine tm_tableIn (tgt := 96) dX12_run_15 ⟨by omega, by omega⟩ (by omega) (by omega) (show _ = some (81) by rw [h3v]; rfl) (by decide) ?_
        refine tm_aload_n dX12_run_96 rfl 0 rfl ?_
        refine tm_getS (k := 68) (t := σ.1 68) dX12_run_97 (by decide) fl12_560 rfl (rs_o (by decide) (rfl)) ?_
        have g11 := RG.s hR 68
        refine tm_if_eq (tgt := 107) dX12_run_100 (by decide) ⟨by omega, by omega⟩ (fun h12 => ?_) (fun h12 => ?_)
        · have hrr := hr7 (by omega) (by omega)
          have hmc := hrr.1.1
          refine tm_aload_n dX12_run_107 rfl 0 rfl ?_
          refine tm_iconst dX12_run_108 ?_
          refine tm_callV (M := m_X12_run) (pc := 109) (ix := 554) (M' := m_X12_depth) (As := [.int (iI 0)]) (rest := []) dX12_run_109 ok_X12_depth im_X12_depth se_X12_depth ml12_554 np_X12_depth rfl rfl (Nat.le_of_ble_eq_true rfl) (Nat.le_of_ble_eq_true rfl) rfl (c_X12_depth (d) (σ := (sS 0 0 σ)) (m := 0) (hR.S (by omega)) (by decide) hmc (fun c a e => ⟨_, hrr.1.2 c a e⟩)) (fun r13 σ14 hp => ?_)
          obtain ⟨v15, rfl, rfl, f16, f17⟩ := hp
          show Tm _ _ 112 b (sS 0 0 σ) [(0, .ref b), (1, .int (iI w))] [.int (iI v15)] _
          exact tm_iret rfl dX12_run_112 (⟨_, rfl, (Fr.rfl.S (by decide)), (hR.S (by omega))⟩)
        · refine tm_iconst dX12_run_103 ?_
          refine tm_goto (tgt := 112) dX12_run_104 (by decide) ?_
          exact tm_iret rfl dX12_run_112 (⟨_, rfl, (Fr.rfl.S (by decide)), (hR.S (by omega))⟩)
      · refine tm_tableIn (tgt := 113) dX12_run_15 ⟨by omega, by omega⟩ (by omega) (by omega) (show _ = some (98) by rw [h3v]; rfl) (by decide) ?_
        refine tm_aload_n dX12_run_113 rfl 0 rfl ?_
        refine tm_getS (k := 69) (t := σ.1 69) dX12_run_114 (by decide) fl12_563 rfl (rs_o (by decide) (rfl)) ?_
        have g18 := RG.s hR 69
        refine tm_if_eq (tgt := 124) dX12_run_117 (by decide) ⟨by omega, by omega⟩ (fun h19 => ?_) (fun h19 => ?_)
        · refine tm_iconst dX12_run_124 ?_
          exact tm_iret rfl dX12_run_125 (⟨_, rfl, (Fr.rfl.S (by decide)), (hR.S (by omega))⟩)
        · refine tm_iconst dX12_run_120 ?_
          refine tm_goto (tgt := 125) dX12_run_121 (by decide) ?_
          exact tm_iret rfl dX12_run_125 (⟨_, rfl, (Fr.rfl.S (by decide)), (hR.S (by omega))⟩)
  · refine tm_iconst dX12_run_12 ?_
    exact tm_iret rfl dX12_run_13 (⟨_, rfl, (Fr.rfl.S (by decide)), (hR.S (by omega))⟩)
end
section
theorem ml12_557 : Cond.methodLink RX12 557 yX12_startMachine ∈ pWW := pw9 (List.mem_of_getElem? (i := 237) rfl) rfl
theorem dX12_start_0 : decode cX12_start 0 = .ok (.aload_n 0, 1) := by decide +kernel
theorem dX12_start_1 : decode cX12_start 1 = .ok (.iconst 0, 1) := by decide +kernel
theorem dX12_start_2 : decode cX12_start 2 = .ok (.putfield 185, 3) := by decide +kernel
theorem dX12_start_5 : decode cX12_start 5 = .ok (.aload_n 0, 1) := by decide +kernel
theorem dX12_start_6 : decode cX12_start 6 = .ok (.iload_n 1, 1) := by decide +kernel
theorem dX12_start_7 : decode cX12_start 7 = .ok (.invokevirtual 404, 3) := by decide +kernel
theorem dX12_start_10 : decode cX12_start 10 = .ok (.ifCond .ne 5, 3) := by decide +kernel
theorem dX12_start_15 : decode cX12_start 15 = .ok (.aload_n 0, 1) := by decide +kernel
theorem dX12_start_16 : decode cX12_start 16 = .ok (.iconst 0, 1) := by decide +kernel
theorem dX12_start_17 : decode cX12_start 17 = .ok (.iload_n 1, 1) := by decide +kernel
theorem dX12_start_18 : decode cX12_start 18 = .ok (.iload_n 2, 1) := by decide +kernel
theorem dX12_start_19 : decode cX12_start 19 = .ok (.iload_n 3, 1) := by decide +kernel
theorem dX12_start_20 : decode cX12_start 20 = .ok (.iload 4, 2) := by decide +kernel
theorem dX12_start_22 : decode cX12_start 22 = .ok (.iload 5, 2) := by decide +kernel
theorem dX12_start_24 : decode cX12_start 24 = .ok (.invokevirtual 557, 3) := by decide +kernel
theorem dX12_start_27 : decode cX12_start 27 = .ok (.aload_n 0, 1) := by decide +kernel
theorem dX12_start_28 : decode cX12_start 28 = .ok (.iconst 1, 1) := by decide +kernel
theorem dX12_start_29 : decode cX12_start 29 = .ok (.putfield 397, 3) := by decide +kernel
theorem dX12_start_32 : decode cX12_start 32 = .ok (.aload_n 0, 1) := by decide +kernel
theorem dX12_start_33 : decode cX12_start 33 = .ok (.iconst 0, 1) := by decide +kernel
theorem dX12_start_34 : decode cX12_start 34 = .ok (.putfield 560, 3) := by decide +kernel
theorem dX12_start_37 : decode cX12_start 37 = .ok (.aload_n 0, 1) := by decide +kernel
theorem dX12_start_38 : decode cX12_start 38 = .ok (.iconst 0, 1) := by decide +kernel
theorem dX12_start_39 : decode cX12_start 39 = .ok (.putfield 563, 3) := by decide +kernel
theorem dX12_start_42 : decode cX12_start 42 = .ok (.aload_n 0, 1) := by decide +kernel
theorem dX12_start_43 : decode cX12_start 43 = .ok (.iconst 0, 1) := by decide +kernel
theorem dX12_start_44 : decode cX12_start 44 = .ok (.putfield 566, 3) := by decide +kernel
theorem dX12_start_47 : decode cX12_start 47 = .ok (.iconst 1, 1) := by decide +kernel
theorem dX12_start_48 : decode cX12_start 48 = .ok (.ireturn, 1) := by decide +kernel
theorem dX12_start_13 : decode cX12_start 13 = .ok (.iconst 0, 1) := by decide +kernel
theorem dX12_start_14 : decode cX12_start 14 = .ok (.ireturn, 1) := by decide +kernel
end
section
theorem fl12_216 : Cond.fieldLink RX12 216 (TX12 19).1 (TX12 19).2.1 (TX12 19).2.2.1 ∈ pWW := pw7 (List.mem_of_getElem? (i := 26) rfl) rfl
theorem dX12_wrong_0 : decode cX12_wrong 0 = .ok (.aload_n 0, 1) := by decide +kernel
theorem dX12_wrong_1 : decode cX12_wrong 1 = .ok (.getfield 252, 3) := by decide +kernel
theorem dX12_wrong_4 : decode cX12_wrong 4 = .ok (.ifCond .ne 16, 3) := by decide +kernel
theorem dX12_wrong_20 : decode cX12_wrong 20 = .ok (.iconst 0, 1) := by decide +kernel
theorem dX12_wrong_21 : decode cX12_wrong 21 = .ok (.ireturn, 1) := by decide +kernel
theorem dX12_wrong_7 : decode cX12_wrong 7 = .ok (.aload_n 0, 1) := by decide +kernel
theorem dX12_wrong_8 : decode cX12_wrong 8 = .ok (.iconst 1, 1) := by decide +kernel
theorem dX12_wrong_9 : decode cX12_wrong 9 = .ok (.putfield 252, 3) := by decide +kernel
theorem dX12_wrong_12 : decode cX12_wrong 12 = .ok (.aload_n 0, 1) := by decide +kernel
theorem dX12_wrong_13 : decode cX12_wrong 13 = .ok (.aload_n 0, 1) := by decide +kernel
theorem dX12_wrong_14 : decode cX12_wrong 14 = .ok (.getfield 216, 3) := by decide +kernel
theorem dX12_wrong_17 : decode cX12_wrong 17 = .ok (.putfield 59, 3) := by decide +kernel
set_option maxHeartbeats 4000000 in
set_option maxRecDepth 20000 in
theorem c_X12_wrong (d : Nat) {b : Nat} {σ : MS} (hR : RG σ) : Tm (d + 1) m_X12_wrong 0 b σ [(0, .ref b)] [] (fun ro σ2 => ∃ v : Int, ro = some (.int (iI v)) ∧ (v = 0) ∧ (Fr [26, 27] [] [] σ σ2) ∧ (RG σ2) ∧ (σ2.1 26 ≠ 0) ∧ (σ.1 26 ≠ 0 → σ2 = σ) ∧ (σ.1 26 = 0 → σ2 = sS 27 (σ.1 19) (sS 26 1 σ))) := by
  refine tm_aload_n dX12_wrong_0 rfl 0 rfl ?_
  refine tm_getS (k := 26) (t := σ.1 26) dX12_wrong_1 (by decide) fl12_252 rfl (rfl) ?_
  have g1 := RG.s hR 26
  refine tm_if_ne (tgt := 20) dX12_wrong_4 (by decide) ⟨by omega, by omega⟩ (fun h2 => ?_) (fun h2 => ?_)
  · refine tm_iconst dX12_wrong_20 ?_
    exact tm_zret (v := 0) rfl (by decide) dX12_wrong_21 (⟨_, rfl, by omega, Fr.rfl, hR, by omega, fun _ => rfl, fun q => absurd q (by omega)⟩)
  · refine tm_aload_n dX12_wrong_7 rfl 0 rfl ?_
    refine tm_iconst dX12_wrong_8 ?_
    refine tm_putS (k := 26) (v := 1) lay_12 dX12_wrong_9 (by decide) fl12_252 rfl (tyX12_ok 26 (by decide)) rfl rfl rfl ?_
    refine tm_aload_n dX12_wrong_12 rfl 0 rfl ?_
    refine tm_aload_n dX12_wrong_13 rfl 0 rfl ?_
    refine tm_getS (k := 19) (t := σ.1 19) dX12_wrong_14 (by decide) fl12_216 rfl (rs_o (by decide) (rfl)) ?_
    have g3 := RG.s hR 19
    refine tm_putS (k := 27) (v := σ.1 19) lay_12 dX12_wrong_17 (by decide) fl12_59 rfl (tyX12_ok 27 (by decide)) rfl rfl rfl ?_
    refine tm_iconst dX12_wrong_20 ?_
    exact tm_zret (v := 0) rfl (by decide) dX12_wrong_21 (⟨_, rfl, by omega, ((Fr.rfl.S (by decide)).S (by decide)), ((hR.S (by omega)).S (by omega)), by rw [show (sS 27 (σ.1 19) (sS 26 1 σ)).1 26 = 1 from rfl]; decide, fun q => absurd (by omega) q, fun _ => rfl⟩)
theorem fl12_255 : Cond.fieldLink RX12 255 (TX12 25).1 (TX12 25).2.1 (TX12 25).2.2.1 ∈ pWW := pw7 (List.mem_of_getElem? (i := 32) rfl) rfl
theorem dX12_note_0 : decode cX12_note 0 = .ok (.aload_n 0, 1) := by decide +kernel
theorem dX12_note_1 : decode cX12_note 1 = .ok (.getfield 255, 3) := by decide +kernel
theorem dX12_note_4 : decode cX12_note 4 = .ok (.ifCond .le 44, 3) := by decide +kernel
theorem dX12_note_48 : decode cX12_note 48 = .ok (.return_, 1) := by decide +kernel
theorem dX12_note_7 : decode cX12_note 7 = .ok (.aload_n 0, 1) := by decide +kernel
theorem dX12_note_8 : decode cX12_note 8 = .ok (.getfield 252, 3) := by decide +kernel
theorem dX12_note_11 : decode cX12_note 11 = .ok (.ifCond .eq 27, 3) := by decide +kernel
theorem dX12_note_38 : decode cX12_note 38 = .ok (.aload_n 0, 1) := by decide +kernel
theorem dX12_note_39 : decode cX12_note 39 = .ok (.iload_n 1, 1) := by decide +kernel
theorem dX12_note_40 : decode cX12_note 40 = .ok (.putfield 252, 3) := by decide +kernel
theorem dX12_note_43 : decode cX12_note 43 = .ok (.aload_n 0, 1) := by decide +kernel
theorem dX12_note_44 : decode cX12_note 44 = .ok (.iload_n 2, 1) := by decide +kernel
theorem dX12_note_45 : decode cX12_note 45 = .ok (.putfield 59, 3) := by decide +kernel
theorem dX12_note_14 : decode cX12_note 14 = .ok (.iload_n 2, 1) := by decide +kernel
theorem dX12_note_15 : decode cX12_note 15 = .ok (.aload_n 0, 1) := by decide +kernel
theorem dX12_note_16 : decode cX12_note 16 = .ok (.getfield 59, 3) := by decide +kernel
theorem dX12_note_19 : decode cX12_note 19 = .ok (.if_icmp .lt 19, 3) := by decide +kernel
theorem dX12_note_22 : decode cX12_note 22 = .ok (.iload_n 2, 1) := by decide +kernel
theorem dX12_note_23 : decode cX12_note 23 = .ok (.aload_n 0, 1) := by decide +kernel
theorem dX12_note_24 : decode cX12_note 24 = .ok (.getfield 59, 3) := by decide +kernel
theorem dX12_note_27 : decode cX12_note 27 = .ok (.if_icmp .ne 21, 3) := by decide +kernel
theorem dX12_note_30 : decode cX12_note 30 = .ok (.iload_n 1, 1) := by decide +kernel
theorem dX12_note_31 : decode cX12_note 31 = .ok (.aload_n 0, 1) := by decide +kernel
theorem dX12_note_32 : decode cX12_note 32 = .ok (.getfield 252, 3) := by decide +kernel
theorem dX12_note_35 : decode cX12_note 35 = .ok (.if_icmp .ge 13, 3) := by decide +kernel
end
section
theorem dX12_rebind_80 : decode cX12_rebind 80 = .ok (.iload 7, 2) := by decide +kernel
theorem dX12_rebind_82 : decode cX12_rebind 82 = .ok (.iconst 2, 1) := by decide +kernel
theorem dX12_rebind_83 : decode cX12_rebind 83 = .ok (.if_icmp .ge 73, 3) := by decide +kernel
theorem dX12_rebind_86 : decode cX12_rebind 86 = .ok (.aload_n 0, 1) := by decide +kernel
theorem dX12_rebind_87 : decode cX12_rebind 87 = .ok (.getfield 91, 3) := by decide +kernel
theorem dX12_rebind_90 : decode cX12_rebind 90 = .ok (.iload 6, 2) := by decide +kernel
theorem dX12_rebind_92 : decode cX12_rebind 92 = .ok (.baload, 1) := by decide +kernel
theorem dX12_rebind_93 : decode cX12_rebind 93 = .ok (.ifCond .eq 63, 3) := by decide +kernel
theorem dX12_rebind_96 : decode cX12_rebind 96 = .ok (.aload_n 0, 1) := by decide +kernel
theorem dX12_rebind_97 : decode cX12_rebind 97 = .ok (.aload_n 0, 1) := by decide +kernel
theorem dX12_rebind_98 : decode cX12_rebind 98 = .ok (.iload_n 1, 1) := by decide +kernel
theorem dX12_rebind_99 : decode cX12_rebind 99 = .ok (.iload 6, 2) := by decide +kernel
theorem dX12_rebind_101 : decode cX12_rebind 101 = .ok (.invokevirtual 203, 3) := by decide +kernel
theorem dX12_rebind_104 : decode cX12_rebind 104 = .ok (.iload 4, 2) := by decide +kernel
theorem dX12_rebind_106 : decode cX12_rebind 106 = .ok (.invokevirtual 436, 3) := by decide +kernel
theorem dX12_rebind_109 : decode cX12_rebind 109 = .ok (.ifCond .ne 47, 3) := by decide +kernel
theorem dX12_rebind_112 : decode cX12_rebind 112 = .ok (.aload_n 0, 1) := by decide +kernel
theorem dX12_rebind_113 : decode cX12_rebind 113 = .ok (.iload_n 1, 1) := by decide +kernel
theorem dX12_rebind_114 : decode cX12_rebind 114 = .ok (.iload 6, 2) := by decide +kernel
theorem dX12_rebind_116 : decode cX12_rebind 116 = .ok (.iload 7, 2) := by decide +kernel
theorem dX12_rebind_118 : decode cX12_rebind 118 = .ok (.invokevirtual 413, 3) := by decide +kernel
theorem dX12_rebind_121 : decode cX12_rebind 121 = .ok (.istore 8, 2) := by decide +kernel
theorem dX12_rebind_123 : decode cX12_rebind 123 = .ok (.iload 8, 2) := by decide +kernel
theorem dX12_rebind_125 : decode cX12_rebind 125 = .ok (.iconst (-1), 1) := by decide +kernel
theorem dX12_rebind_126 : decode cX12_rebind 126 = .ok (.if_icmp .eq 24, 3) := by decide +kernel
theorem dX12_rebind_150 : decode cX12_rebind 150 = .ok (.iinc 7 1, 3) := by decide +kernel
theorem dX12_rebind_153 : decode cX12_rebind 153 = .ok (.goto (-73), 3) := by decide +kernel
theorem dX12_rebind_129 : decode cX12_rebind 129 = .ok (.aload_n 0, 1) := by decide +kernel
theorem dX12_rebind_130 : decode cX12_rebind 130 = .ok (.getfield 91, 3) := by decide +kernel
theorem dX12_rebind_133 : decode cX12_rebind 133 = .ok (.iload 8, 2) := by decide +kernel
theorem dX12_rebind_135 : decode cX12_rebind 135 = .ok (.baload, 1) := by decide +kernel
theorem dX12_rebind_136 : decode cX12_rebind 136 = .ok (.ifCond .ne 14, 3) := by decide +kernel
theorem dX12_rebind_139 : decode cX12_rebind 139 = .ok (.aload_n 0, 1) := by decide +kernel
theorem dX12_rebind_140 : decode cX12_rebind 140 = .ok (.getfield 91, 3) := by decide +kernel
theorem dX12_rebind_143 : decode cX12_rebind 143 = .ok (.iload 8, 2) := by decide +kernel
theorem dX12_rebind_145 : decode cX12_rebind 145 = .ok (.iconst 1, 1) := by decide +kernel
theorem dX12_rebind_146 : decode cX12_rebind 146 = .ok (.bastore, 1) := by decide +kernel
theorem dX12_rebind_147 : decode cX12_rebind 147 = .ok (.iconst 1, 1) := by decide +kernel
theorem dX12_rebind_148 : decode cX12_rebind 148 = .ok (.istore 5, 2) := by decide +kernel
set_option maxHeartbeats 4000000 in
set_option maxRecDepth 20000 in
theorem l_reb4 (d : Nat) {b : Nat} {σ0 : MS} {r : Int} {m : Int} {g : Int} {k0 : Int} {x0 : Int} {k : Int} {C0 : Int} {post : Option Value → MS → Prop} (hr : 0 ≤ r ∧ r < 6) (hR0 : RG σ0) (hit : ITM σ0) (hjm : JMP σ0 r) (htg : TGT σ0 r) (hm : m = σ0.2.1 9 r) (h_g : -2147483648 ≤ g ∧ g ≤ 2147483647) (hk : 0 ≤ k ∧ k < m) (hx_156 : ∀ (w : Int) (i : Int) (σ : MS) , (Fr [] [47] [] σ0 σ) → (RG σ) → (w = 0 ∨ w = 1) → (BO 47 σ) → ((cz (σ.2.1 47) 221 : Int) + w ≤ C0) → Tm (d + 3) m_X12_rebind 156 b σ [(7, .int (iI i)), (6, .int (iI k)), (5, .int (iI w)), (3, .int (iI x0)), (4, .int (iI g)), (0, .ref b), (1, .int (iI r)), (2, .int (iI k0))] [] post) : ∀ (n : Nat) (w : Int) (i : Int) (σ : MS) , (Fr [] [47] [] σ0 σ) → (RG σ) → ((w = 0 ∨ w = 1) ∧ 0 ≤ i ∧ i ≤ 2) → (BO 47 σ) → ((cz (σ.2.1 47) 221 : Int) + w ≤ C0) → (2 - i).toNat = n → Tm (d + 3) m_X12_rebind 80 b σ [(7, .int (iI i)), (6, .int (iI k)), (5, .int (iI w)), (3, .int (iI x0)), (4, .int (iI g)), (0, .ref b), (1, .int (iI r)), (2, .int (iI k0))] [] post := by
  intro n
  induction n using Nat.strongRecOn with
  | _ n ih =>
    intro w i σ hF hR h0 hbo hcn hm
    have hit1 := hit.fr hF (by decide)
    have hjm1 := hjm.fr hF (by decide)
    have htg1 := htg.fr hF (by decide)
    have q1 := hit r (by omega) (by omega)
    have q9 : σ.2.1 9 r = σ0.2.1 9 r := by rw [hF.2.1 9 (by decide)]
    have e3 : σ.2.1 3 = σ0.2.1 3 := hF.2.1 3 (by decide)
    have e4 : σ.2.1 4 = σ0.2.1 4 := hF.2.1 4 (by decide)
    have e46 : σ.2.1 46 = σ0.2.1 46 := hF.2.1 46 (by decide)
    have q5 := htg1 k (by omega) (by omega)
    refine tm_iload dX12_rebind_80 0 rfl ?_
    refine tm_iconst dX12_rebind_82 ?_
    refine tm_icmp_ge (tgt := 156) dX12_rebind_83 (by decide) ⟨by omega, by omega⟩ ⟨by decide, by decide⟩ (fun h1 => ?_) (fun h1 => ?_)
    · exact tm_sub [0, 1, 2, 3, 4, 5, 6, 7] rfl (hx_156 (w) (i) σ (Fr.rfl.trans (Fr.sub hF (by decide) (by decide) (by decide))) hR (by omega) hbo hcn)
    · refine tm_aload_n dX12_rebind_86 rfl 5 rfl ?_
      refine tm_get (k := 47) (v := .ref (b + 1 + 25)) lay_12 dX12_rebind_87 (by decide) fl12_91 rfl ?_
      refine tm_iload dX12_rebind_90 1 rfl ?_
      refine tm_zald (z := k) (v := σ.2.1 47 k) dX12_rebind_92 (show mT[25]? = some (47, 2, 221) from rfl) (by omega) (by omega) (by decide) (rfl) ?_
      have g2 := RG.a hR 47 (k)
      have := hbo (k)
      refine tm_if_eq (tgt := 156) dX12_rebind_93 (by decide) ⟨by omega, by omega⟩ (fun h3 => ?_) (fun h3 => ?_)
      · exact tm_sub [0, 1, 2, 3, 4, 5, 6, 7] rfl (hx_156 (w) (i) σ (Fr.rfl.trans (Fr.sub hF (by decide) (by decide) (by decide))) hR (by omega) hbo hcn)
      · refine tm_aload_n dX12_rebind_96 rfl 5 rfl ?_
        refine tm_aload_n dX12_rebind_97 rfl 5 rfl ?_
        refine tm_iload_n dX12_rebind_98 rfl 6 rfl ?_
        refine tm_iload dX12_rebind_99 1 rfl ?_
        refine tm_callV (M := m_X12_rebind) (pc := 101) (ix := 203) (M' := m_X12_at) (As := [.int (iI r), .int (iI k)]) (rest := [.ref b]) dX12_rebind_101 ok_X12_at im_X12_at se_X12_at ml12_203 np_X12_at rfl rfl (Nat.le_of_ble_eq_true rfl) (Nat.le_of_ble_eq_true rfl) rfl (c_X12_at (d + 1) (σ := σ) (x := r) (k := k) ) (fun r4 σ5 hp => ?_)
        obtain ⟨v6, rfl, rfl, f7⟩ := hp
        subst f7
        show Tm _ _ 104 b σ [(7, .int (iI i)), (6, .int (iI k)), (5, .int (iI w)), (3, .int (iI x0)), (4, .int (iI g)), (0, .ref b), (1, .int (iI r)), (2, .int (iI k0))] [.int (iI (220 * r + k)), .ref b] _
        refine tm_iload dX12_rebind_104 4 rfl ?_
        refine tm_callV (M := m_X12_rebind) (pc := 106) (ix := 436) (M' := m_X12_writesTo) (As := [.int (iI (220 * r + k)), .int (iI g)]) (rest := []) dX12_rebind_106 ok_X12_writesTo im_X12_writesTo se_X12_writesTo ml12_436 np_X12_writesTo rfl rfl (Nat.le_of_ble_eq_true rfl) (Nat.le_of_ble_eq_true rfl) rfl (c_X12_writesTo (d) (σ := σ) (x := 220 * r + k) (g := g) (by omega) hR (by omega)) (fun r8 σ9 hp => ?_)
        obtain ⟨v10, rfl, rfl, f11, f12⟩ := hp
        show Tm _ _ 109 b σ [(7, .int (iI i)), (6, .int (iI k)), (5, .int (iI w)), (3, .int (iI x0)), (4, .int (iI g)), (0, .ref b), (1, .int (iI r)), (2, .int (iI k0))] [.int (iI v10)] _
        refine tm_if_ne (tgt := 156) dX12_rebind_109 (by decide) ⟨by omega, by omega⟩ (fun h13 => ?_) (fun h13 => ?_)
        · exact tm_sub [0, 1, 2, 3, 4, 5, 6, 7] rfl (hx_156 (w) (i) σ (Fr.rfl.trans (Fr.sub hF (by decide) (by decide) (by decide))) hR (by omega) hbo hcn)
        · refine tm_aload_n dX12_rebind_112 rfl 5 rfl ?_
          refine tm_iload_n dX12_rebind_113 rfl 6 rfl ?_
          refine tm_iload dX12_rebind_114 1 rfl ?_
          refine tm_iload dX12_rebind_116 0 rfl ?_
          refine tm_callV (M := m_X12_rebind) (pc := 118) (ix := 413) (M' := m_X12_goesOn) (As := [.int (iI r), .int (iI k), .int (iI i)]) (rest := []) dX12_rebind_118 ok_X12_goesOn im_X12_goesOn se_X12_goesOn ml12_413 np_X12_goesOn rfl rfl (Nat.le_of_ble_eq_true rfl) (Nat.le_of_ble_eq_true rfl) rfl (c_X12_goesOn (d) (σ := σ) (r := r) (k := k) (how := i) (by omega) hR (by omega) (fun q => hjm1 _ (by omega) (by omega) (by omega)) (by omega)) (fun r14 σ15 hp => ?_)
          obtain ⟨v16, rfl, rfl, f17, f18, f19, f20⟩ := hp
          show Tm _ _ 121 b σ [(7, .int (iI i)), (6, .int (iI k)), (5, .int (iI w)), (3, .int (iI x0)), (4, .int (iI g)), (0, .ref b), (1, .int (iI r)), (2, .int (iI k0))] [.int (iI v16)] _
          refine tm_istore (L' := [(8, .int (iI v16)), (7, .int (iI i)), (6, .int (iI k)), (5, .int (iI w)), (3, .int (iI x0)), (4, .int (iI g)), (0, .ref b), (1, .int (iI r)), (2, .int (iI k0))]) dX12_rebind_121 (by decide) rfl ?_
          refine tm_iload dX12_rebind_123 0 rfl ?_
          refine tm_iconst dX12_rebind_125 ?_
          refine tm_icmp_eq (tgt := 150) dX12_rebind_126 (by decide) ⟨by omega, by omega⟩ ⟨by decide, by decide⟩ (fun h21 => ?_) (fun h21 => ?_)
          · refine tm_iinc (q0 := 1) (L' := [(7, .int (iI (i + 1))), (8, .int (iI v16)), (6, .int (iI k)), (5, .int (iI w)), (3, .int (iI x0)), (4, .int (iI g)), (0, .ref b), (1, .int (iI r)), (2, .int (iI k0))]) dX12_rebind_150 rfl (by decide) rfl ?_
            refine tm_goto (tgt := 80) dX12_rebind_153 (by decide) ?_
            exact tm_sub [0, 2, 3, 4, 5, 6, 7, 8] rfl (ih _ (by omega) (w) (i + 1) σ (Fr.rfl.trans (Fr.sub hF (by decide) (by decide) (by decide))) hR (by omega) hbo (by omega) rfl)
          · refine tm_aload_n dX12_rebind_129 rfl 6 rfl ?_
            refine tm_get (k := 47) (v := .ref (b + 1 + 25)) lay_12 dX12_rebind_130 (by decide) fl12_91 rfl ?_
            refine tm_iload dX12_rebind_133 0 rfl ?_
            refine tm_zald (z := v16) (v := σ.2.1 47 v16) dX12_rebind_135 (show mT[25]? = some (47, 2, 221) from rfl) (by omega) (by omega) (by decide) (rfl) ?_
            have g22 := RG.a hR 47 (v16)
            have := hbo (v16)
            refine tm_if_ne (tgt := 150) dX12_rebind_136 (by decide) ⟨by omega, by omega⟩ (fun h23 => ?_) (fun h23 => ?_)
            · refine tm_iinc (q0 := 1) (L' := [(7, .int (iI (i + 1))), (8, .int (iI v16)), (6, .int (iI k)), (5, .int (iI w)), (3, .int (iI x0)), (4, .int (iI g)), (0, .ref b), (1, .int (iI r)), (2, .int (iI k0))]) dX12_rebind_150 rfl (by decide) rfl ?_
              refine tm_goto (tgt := 80) dX12_rebind_153 (by decide) ?_
              exact tm_sub [0, 2, 3, 4, 5, 6, 7, 8] rfl (ih _ (by omega) (w) (i + 1) σ (Fr.rfl.trans (Fr.sub hF (by decide) (by decide) (by decide))) hR (by omega) hbo (by omega) rfl)
            · refine tm_aload_n dX12_rebind_139 rfl 6 rfl ?_
              refine tm_get (k := 47) (v := .ref (b + 1 + 25)) lay_12 dX12_rebind_140 (by decide) fl12_91 rfl ?_
              refine tm_iload dX12_rebind_143 0 rfl ?_
              refine tm_iconst dX12_rebind_145 ?_
              refine tm_zast (z := v16) (v := 1) dX12_rebind_146 (show mT[25]? = some (47, 2, 221) from rfl) (by omega) (by omega) (by decide) (by omega) ?_
              refine tm_iconst dX12_rebind_147 ?_
              refine tm_istore (L' := [(5, .int (iI 1)), (8, .int (iI v16)), (7, .int (iI i)), (6, .int (iI k)), (3, .int (iI x0)), (4, .int (iI g)), (0, .ref b), (1, .int (iI r)), (2, .int (iI k0))]) dX12_rebind_148 (by decide) rfl ?_
              refine tm_iinc (q0 := 2) (L' := [(7, .int (iI (i + 1))), (5, .int (iI 1)), (8, .int (iI v16)), (6, .int (iI k)), (3, .int (iI x0)), (4, .int (iI g)), (0, .ref b), (1, .int (iI r)), (2, .int (iI k0))]) dX12_rebind_150 rfl (by decide) rfl ?_
              refine tm_goto (tgt := 80) dX12_rebind_153 (by decide) ?_
              exact tm_sub [0, 3, 1, 4, 5, 6, 7, 8] rfl (ih _ (by omega) (1) (i + 1) (sA 47 (v16) (1) σ) ((Fr.rfl.trans (Fr.sub hF (by decide) (by decide) (by decide))).A (by decide)) (hR.A (by omega)) (by omega) (hbo.A (by omega)) (by have hcz := cz_sA (σ := σ) (k := 47) (n := 221) (z := v16) (v := 1) (by omega) (by omega) (by omega) (by decide); omega) rfl)
theorem dX12_rebind_66 : decode cX12_rebind 66 = .ok (.iload 6, 2) := by decide +kernel
theorem dX12_rebind_68 : decode cX12_rebind 68 = .ok (.aload_n 0, 1) := by decide +kernel
theorem dX12_rebind_69 : decode cX12_rebind 69 = .ok (.getfield 32, 3) := by decide +kernel
theorem dX12_rebind_72 : decode cX12_rebind 72 = .ok (.iload_n 1, 1) := by decide +kernel
theorem dX12_rebind_73 : decode cX12_rebind 73 = .ok (.iaload, 1) := by decide +kernel
theorem dX12_rebind_74 : decode cX12_rebind 74 = .ok (.if_icmp .ge 88, 3) := by decide +kernel
theorem dX12_rebind_77 : decode cX12_rebind 77 = .ok (.iconst 0, 1) := by decide +kernel
theorem dX12_rebind_78 : decode cX12_rebind 78 = .ok (.istore 7, 2) := by decide +kernel
theorem dX12_rebind_156 : decode cX12_rebind 156 = .ok (.iinc 6 1, 3) := by decide +kernel
theorem dX12_rebind_159 : decode cX12_rebind 159 = .ok (.goto (-93), 3) := by decide +kernel
set_option maxHeartbeats 4000000 in
set_option maxRecDepth 20000 in
theorem l_reb3 (d : Nat) {b : Nat} {σ0 : MS} {r : Int} {m : Int} {g : Int} {k0 : Int} {x0 : Int} {C0 : Int} {post : Option Value → MS → Prop} (hr : 0 ≤ r ∧ r < 6) (hR0 : RG σ0) (hit : ITM σ0) (hjm : JMP σ0 r) (htg : TGT σ0 r) (hm : m = σ0.2.1 9 r) (h_g : -2147483648 ≤ g ∧ g ≤ 2147483647) (hx_162 : ∀ (w : Int) (k : Int) (σ : MS) , (Fr [] [47] [] σ0 σ) → (RG σ) → (w = 0 ∨ w = 1) → (BO 47 σ) → ((cz (σ.2.1 47) 221 : Int) + w ≤ C0) → Tm (d + 3) m_X12_rebind 162 b σ [(6, .int (iI k)), (5, .int (iI w)), (3, .int (iI x0)), (4, .int (iI g)), (0, .ref b), (1, .int (iI r)), (2, .int (iI k0))] [] post) : ∀ (n : Nat) (w : Int) (k : Int) (σ : MS) , (Fr [] [47] [] σ0 σ) → (RG σ) → ((w = 0 ∨ w = 1) ∧ 0 ≤ k ∧ k ≤ m) → (BO 47 σ) → ((cz (σ.2.1 47) 221 : Int) + w ≤ C0) → (m - k).toNat = n → Tm (d + 3) m_X12_rebind 66 b σ [(6, .int (iI k)), (5, .int (iI w)), (3, .int (iI x0)), (4, .int (iI g)), (0, .ref b), (1, .int (iI r)), (2, .int (iI k0))] [] post := by
  intro n
  induction n using Nat.strongRecOn with
  | _ n ih =>
    intro w k σ hF hR h0 hbo hcn hm
    have hit1 := hit.fr hF (by decide)
    have hjm1 := hjm.fr hF (by decide)
    have htg1 := htg.fr hF (by decide)
    have q1 := hit r (by omega) (by omega)
    have q9 : σ.2.1 9 r = σ0.2.1 9 r := by rw [hF.2.1 9 (by decide)]
    have e3 : σ.2.1 3 = σ0.2.1 3 := hF.2.1 3 (by decide)
    have e4 : σ.2.1 4 = σ0.2.1 4 := hF.2.1 4 (by decide)
    have e46 : σ.2.1 46 = σ0.2.1 46 := hF.2.1 46 (by decide)
    refine tm_iload dX12_rebind_66 0 rfl ?_
    refine tm_aload_n dX12_rebind_68 rfl 4 rfl ?_
    refine tm_get (k := 9) (v := .ref (b + 1 + 7)) lay_12 dX12_rebind_69 (by decide) fl12_32 rfl ?_
    refine tm_iload_n dX12_rebind_72 rfl 5 rfl ?_
    refine tm_iald (z := r) (v := σ0.2.1 9 r) dX12_rebind_73 (show mT[7]? = some (9, 0, 13) from rfl) (by omega) (by omega) (by decide) (ra_F hF (by decide) (rfl)) ?_
    have g1 := RG.a hR0 9 (r)
    refine tm_icmp_ge (tgt := 162) dX12_rebind_74 (by decide) ⟨by omega, by omega⟩ ⟨by omega, by omega⟩ (fun h2 => ?_) (fun h2 => ?_)
    · exact tm_sub [0, 1, 2, 3, 4, 5, 6] rfl (hx_162 (w) (k) σ (Fr.rfl.trans (Fr.sub hF (by decide) (by decide) (by decide))) hR (by omega) hbo hcn)
    · refine tm_iconst dX12_rebind_77 ?_
      refine tm_istore (L' := [(7, .int (iI 0)), (6, .int (iI k)), (5, .int (iI w)), (3, .int (iI x0)), (4, .int (iI g)), (0, .ref b), (1, .int (iI r)), (2, .int (iI k0))]) dX12_rebind_78 (by decide) rfl ?_
      refine tm_sub [0, 1, 2, 3, 4, 5, 6, 7] rfl (l_reb4 (d) (σ0 := σ) (r := r) (g := g) (k0 := k0) (x0 := x0) (k := k) (m := m) (C0 := C0) hr hR hit1 hjm1 htg1 (by omega) (by omega) (by omega) (fun w11 i12 σ13 F6 R7 f8 f9 f10 => ?_) _ (w) (0) σ Fr.rfl hR (by omega) hbo (by omega) rfl)
      show Tm _ _ 156 b σ13 [(7, .int (iI i12)), (6, .int (iI k)), (5, .int (iI w11)), (3, .int (iI x0)), (4, .int (iI g)), (0, .ref b), (1, .int (iI r)), (2, .int (iI k0))] [] _
      refine tm_iinc (q0 := 1) (L' := [(6, .int (iI (k + 1))), (7, .int (iI i12)), (5, .int (iI w11)), (3, .int (iI x0)), (4, .int (iI g)), (0, .ref b), (1, .int (iI r)), (2, .int (iI k0))]) dX12_rebind_156 rfl (by decide) rfl ?_
      refine tm_goto (tgt := 66) dX12_rebind_159 (by decide) ?_
      exact tm_sub [0, 2, 3, 4, 5, 6, 7] rfl (ih _ (by omega) (w11) (k + 1) σ13 ((Fr.rfl.trans (Fr.sub hF (by decide) (by decide) (by decide))).trans (Fr.sub F6 (by decide) (by decide) (by decide))) R7 (by omega) (by assumption) (by omega) rfl)
theorem dX12_rebind_55 : decode cX12_rebind 55 = .ok (.iload 5, 2) := by decide +kernel
theorem dX12_rebind_57 : decode cX12_rebind 57 = .ok (.ifCond .eq 108, 3) := by decide +kernel
theorem dX12_rebind_60 : decode cX12_rebind 60 = .ok (.iconst 0, 1) := by decide +kernel
theorem dX12_rebind_61 : decode cX12_rebind 61 = .ok (.istore 5, 2) := by decide +kernel
theorem dX12_rebind_63 : decode cX12_rebind 63 = .ok (.iconst 0, 1) := by decide +kernel
theorem dX12_rebind_64 : decode cX12_rebind 64 = .ok (.istore 6, 2) := by decide +kernel
theorem dX12_rebind_162 : decode cX12_rebind 162 = .ok (.goto (-107), 3) := by decide +kernel
set_option maxHeartbeats 4000000 in
set_option maxRecDepth 20000 in
theorem l_reb2 (d : Nat) {b : Nat} {σ0 : MS} {r : Int} {m : Int} {g : Int} {k0 : Int} {x0 : Int} {post : Option Value → MS → Prop} (hr : 0 ≤ r ∧ r < 6) (hR0 : RG σ0) (hit : ITM σ0) (hjm : JMP σ0 r) (htg : TGT σ0 r) (hm : m = σ0.2.1 9 r) (h_g : -2147483648 ≤ g ∧ g ≤ 2147483647) (hx_165 : ∀ (w : Int) (σ : MS) , (Fr [] [47] [] σ0 σ) → (RG σ) → (BO 47 σ) → Tm (d + 3) m_X12_rebind 165 b σ [(5, .int (iI w)), (3, .int (iI x0)), (4, .int (iI g)), (0, .ref b), (1, .int (iI r)), (2, .int (iI k0))] [] post) : ∀ (n : Nat) (w : Int) (σ : MS) , (Fr [] [47] [] σ0 σ) → (RG σ) → (w = 0 ∨ w = 1) → (BO 47 σ) → ((cz (σ.2.1 47) 221 : Int) + w).toNat = n → Tm (d + 3) m_X12_rebind 55 b σ [(5, .int (iI w)), (3, .int (iI x0)), (4, .int (iI g)), (0, .ref b), (1, .int (iI r)), (2, .int (iI k0))] [] post := by
  intro n
  induction n using Nat.strongRecOn with
  | _ n ih =>
    intro w σ hF hR h0 hbo hm
    have hit1 := hit.fr hF (by decide)
    have hjm1 := hjm.fr hF (by decide)
    have htg1 := htg.fr hF (by decide)
    have q1 := hit r (by omega) (by omega)
    have q9 : σ.2.1 9 r = σ0.2.1 9 r := by rw [hF.2.1 9 (by decide)]
    have e3 : σ.2.1 3 = σ0.2.1 3 := hF.2.1 3 (by decide)
    have e4 : σ.2.1 4 = σ0.2.1 4 := hF.2.1 4 (by decide)
    have e46 : σ.2.1 46 = σ0.2.1 46 := hF.2.1 46 (by decide)
    refine tm_iload dX12_rebind_55 0 rfl ?_
    refine tm_if_eq (tgt := 165) dX12_rebind_57 (by decide) ⟨by omega, by omega⟩ (fun h1 => ?_) (fun h1 => ?_)
    · exact tm_sub [0, 1, 2, 3, 4, 5] rfl (hx_165 (w) σ (Fr.rfl.trans (Fr.sub hF (by decide) (by decide) (by decide))) hR hbo)
    · refine tm_iconst dX12_rebind_60 ?_
      refine tm_istore (L' := [(5, .int (iI 0)), (3, .int (iI x0)), (4, .int (iI g)), (0, .ref b), (1, .int (iI r)), (2, .int (iI k0))]) dX12_rebind_61 (by decide) rfl ?_
      refine tm_iconst dX12_rebind_63 ?_
      refine tm_istore (L' := [(6, .int (iI 0)), (5, .int (iI 0)), (3, .int (iI x0)), (4, .int (iI g)), (0, .ref b), (1, .int (iI r)), (2, .int (iI k0))]) dX12_rebind_64 (by decide) rfl ?_
      refine tm_sub [0, 1, 2, 3, 4, 5, 6] rfl (l_reb3 (d) (σ0 := σ) (r := r) (g := g) (k0 := k0) (x0 := x0) (m := m) (C0 := (cz (σ.2.1 47) 221 : Int)) hr hR hit1 hjm1 htg1 (by omega) (by omega) (fun w10 k11 σ12 F5 R6 f7 f8 f9 => ?_) _ (0) (0) σ Fr.rfl hR (by omega) hbo (by omega) rfl)
      show Tm _ _ 162 b σ12 [(6, .int (iI k11)), (5, .int (iI w10)), (3, .int (iI x0)), (4, .int (iI g)), (0, .ref b), (1, .int (iI r)), (2, .int (iI k0))] [] _
      refine tm_goto (tgt := 55) dX12_rebind_162 (by decide) ?_
      exact tm_sub [1, 2, 3, 4, 5, 6] rfl (ih _ (by omega) (w10) σ12 ((Fr.rfl.trans (Fr.sub hF (by decide) (by decide) (by decide))).trans (Fr.sub F5 (by decide) (by decide) (by decide))) R6 (by omega) (by assumption) rfl)
theorem dX12_rebind_18 : decode cX12_rebind 18 = .ok (.iload 5, 2) := by decide +kernel
theorem dX12_rebind_20 : decode cX12_rebind 20 = .ok (.aload_n 0, 1) := by decide +kernel
theorem dX12_rebind_21 : decode cX12_rebind 21 = .ok (.getfield 32, 3) := by decide +kernel
theorem dX12_rebind_24 : decode cX12_rebind 24 = .ok (.iload_n 1, 1) := by decide +kernel
theorem dX12_rebind_25 : decode cX12_rebind 25 = .ok (.iaload, 1) := by decide +kernel
theorem dX12_rebind_26 : decode cX12_rebind 26 = .ok (.if_icmp .gt 17, 3) := by decide +kernel
theorem dX12_rebind_29 : decode cX12_rebind 29 = .ok (.aload_n 0, 1) := by decide +kernel
theorem dX12_rebind_30 : decode cX12_rebind 30 = .ok (.getfield 91, 3) := by decide +kernel
theorem dX12_rebind_33 : decode cX12_rebind 33 = .ok (.iload 5, 2) := by decide +kernel
theorem dX12_rebind_35 : decode cX12_rebind 35 = .ok (.iconst 0, 1) := by decide +kernel
theorem dX12_rebind_36 : decode cX12_rebind 36 = .ok (.bastore, 1) := by decide +kernel
theorem dX12_rebind_37 : decode cX12_rebind 37 = .ok (.iinc 5 1, 3) := by decide +kernel
theorem dX12_rebind_40 : decode cX12_rebind 40 = .ok (.goto (-22), 3) := by decide +kernel
set_option maxHeartbeats 4000000 in
set_option maxRecDepth 20000 in
theorem l_reb1 (d : Nat) {b : Nat} {σ0 : MS} {r : Int} {g : Int} {k0 : Int} {x0 : Int} {post : Option Value → MS → Prop} (hr : 0 ≤ r ∧ r < 6) (hR0 : RG σ0) (hit : 0 ≤ σ0.2.1 9 r ∧ σ0.2.1 9 r ≤ 220) (hx_43 : ∀ (k : Int) (σ : MS) , (Fr [] [47] [] σ0 σ) → (RG σ) → (BO 47 σ) → Tm (d + 1) m_X12_rebind 43 b σ [(5, .int (iI k)), (3, .int (iI x0)), (4, .int (iI g)), (0, .ref b), (1, .int (iI r)), (2, .int (iI k0))] [] post) : ∀ (n : Nat) (k : Int) (σ : MS) , (Fr [] [47] [] σ0 σ) → (RG σ) → (0 ≤ k ∧ k ≤ 221) → (BO 47 σ) → (221 - k).toNat = n → Tm (d + 1) m_X12_rebind 18 b σ [(5, .int (iI k)), (3, .int (iI x0)), (4, .int (iI g)), (0, .ref b), (1, .int (iI r)), (2, .int (iI k0))] [] post := by
  intro n
  induction n using Nat.strongRecOn with
  | _ n ih =>
    intro k σ hF hR h0 hbo hm
    refine tm_iload dX12_rebind_18 0 rfl ?_
    refine tm_aload_n dX12_rebind_20 rfl 3 rfl ?_
    refine tm_get (k := 9) (v := .ref (b + 1 + 7)) lay_12 dX12_rebind_21 (by decide) fl12_32 rfl ?_
    refine tm_iload_n dX12_rebind_24 rfl 4 rfl ?_
    refine tm_iald (z := r) (v := σ0.2.1 9 r) dX12_rebind_25 (show mT[7]? = some (9, 0, 13) from rfl) (by omega) (by omega) (by decide) (ra_F hF (by decide) (rfl)) ?_
    have g1 := RG.a hR0 9 (r)
    refine tm_icmp_gt (tgt := 43) dX12_rebind_26 (by decide) ⟨by omega, by omega⟩ ⟨by omega, by omega⟩ (fun h2 => ?_) (fun h2 => ?_)
    · exact tm_sub [0, 1, 2, 3, 4, 5] rfl (hx_43 (k) σ (Fr.rfl.trans (Fr.sub hF (by decide) (by decide) (by decide))) hR hbo)
    · refine tm_aload_n dX12_rebind_29 rfl 3 rfl ?_
      refine tm_get (k := 47) (v := .ref (b + 1 + 25)) lay_12 dX12_rebind_30 (by decide) fl12_91 rfl ?_
      refine tm_iload dX12_rebind_33 0 rfl ?_
      refine tm_iconst dX12_rebind_35 ?_
      refine tm_zast (z := k) (v := 0) dX12_rebind_36 (show mT[25]? = some (47, 2, 221) from rfl) (by omega) (by omega) (by decide) (by omega) ?_
      refine tm_iinc (q0 := 0) (L' := [(5, .int (iI (k + 1))), (3, .int (iI x0)), (4, .int (iI g)), (0, .ref b), (1, .int (iI r)), (2, .int (iI k0))]) dX12_rebind_37 rfl (by decide) rfl ?_
      refine tm_goto (tgt := 18) dX12_rebind_40 (by decide) ?_
      exact tm_sub [0, 1, 2, 3, 4, 5] rfl (ih _ (by omega) (k + 1) (sA 47 (k) (0) σ) ((Fr.rfl.trans (Fr.sub hF (by decide) (by decide) (by decide))).A (by decide)) (hR.A (by omega)) (by omega) (hbo.A (by omega)) rfl)
theorem dX12_rebind_372 : decode cX12_rebind 372 = .ok (.iload 6, 2) := by decide +kernel
theorem dX12_rebind_374 : decode cX12_rebind 374 = .ok (.aload_n 0, 1) := by decide +kernel
theorem dX12_rebind_375 : decode cX12_rebind 375 = .ok (.getfield 32, 3) := by decide +kernel
theorem dX12_rebind_378 : decode cX12_rebind 378 = .ok (.iload_n 1, 1) := by decide +kernel
theorem dX12_rebind_379 : decode cX12_rebind 379 = .ok (.iaload, 1) := by decide +kernel
theorem dX12_rebind_380 : decode cX12_rebind 380 = .ok (.if_icmp .ge 78, 3) := by decide +kernel
theorem dX12_rebind_383 : decode cX12_rebind 383 = .ok (.aload_n 0, 1) := by decide +kernel
theorem dX12_rebind_384 : decode cX12_rebind 384 = .ok (.iload_n 1, 1) := by decide +kernel
theorem dX12_rebind_385 : decode cX12_rebind 385 = .ok (.iload 6, 2) := by decide +kernel
theorem dX12_rebind_387 : decode cX12_rebind 387 = .ok (.invokevirtual 203, 3) := by decide +kernel
theorem dX12_rebind_390 : decode cX12_rebind 390 = .ok (.istore 7, 2) := by decide +kernel
theorem dX12_rebind_392 : decode cX12_rebind 392 = .ok (.aload_n 0, 1) := by decide +kernel
theorem dX12_rebind_393 : decode cX12_rebind 393 = .ok (.getfield 91, 3) := by decide +kernel
theorem dX12_rebind_396 : decode cX12_rebind 396 = .ok (.iload 6, 2) := by decide +kernel
theorem dX12_rebind_398 : decode cX12_rebind 398 = .ok (.baload, 1) := by decide +kernel
theorem dX12_rebind_399 : decode cX12_rebind 399 = .ok (.ifCond .eq 53, 3) := by decide +kernel
theorem dX12_rebind_452 : decode cX12_rebind 452 = .ok (.iinc 6 1, 3) := by decide +kernel
theorem dX12_rebind_455 : decode cX12_rebind 455 = .ok (.goto (-83), 3) := by decide +kernel
theorem dX12_rebind_402 : decode cX12_rebind 402 = .ok (.aload_n 0, 1) := by decide +kernel
theorem dX12_rebind_403 : decode cX12_rebind 403 = .ok (.getfield 13, 3) := by decide +kernel
theorem dX12_rebind_406 : decode cX12_rebind 406 = .ok (.iload 7, 2) := by decide +kernel
theorem dX12_rebind_408 : decode cX12_rebind 408 = .ok (.iaload, 1) := by decide +kernel
theorem dX12_rebind_409 : decode cX12_rebind 409 = .ok (.bipush 12, 2) := by decide +kernel
theorem dX12_rebind_411 : decode cX12_rebind 411 = .ok (.if_icmp .ne 41, 3) := by decide +kernel
theorem dX12_rebind_414 : decode cX12_rebind 414 = .ok (.aload_n 0, 1) := by decide +kernel
theorem dX12_rebind_415 : decode cX12_rebind 415 = .ok (.iload 7, 2) := by decide +kernel
theorem dX12_rebind_417 : decode cX12_rebind 417 = .ok (.iload 4, 2) := by decide +kernel
theorem dX12_rebind_419 : decode cX12_rebind 419 = .ok (.invokevirtual 439, 3) := by decide +kernel
theorem dX12_rebind_422 : decode cX12_rebind 422 = .ok (.ifCond .eq 30, 3) := by decide +kernel
theorem dX12_rebind_425 : decode cX12_rebind 425 = .ok (.aload_n 0, 1) := by decide +kernel
theorem dX12_rebind_426 : decode cX12_rebind 426 = .ok (.getfield 23, 3) := by decide +kernel
theorem dX12_rebind_429 : decode cX12_rebind 429 = .ok (.iload 7, 2) := by decide +kernel
theorem dX12_rebind_431 : decode cX12_rebind 431 = .ok (.bipush 12, 2) := by decide +kernel
theorem dX12_rebind_433 : decode cX12_rebind 433 = .ok (.iastore, 1) := by decide +kernel
theorem dX12_rebind_434 : decode cX12_rebind 434 = .ok (.aload_n 0, 1) := by decide +kernel
theorem dX12_rebind_435 : decode cX12_rebind 435 = .ok (.iload 7, 2) := by decide +kernel
theorem dX12_rebind_437 : decode cX12_rebind 437 = .ok (.iconst 0, 1) := by decide +kernel
theorem dX12_rebind_438 : decode cX12_rebind 438 = .ok (.iconst 0, 1) := by decide +kernel
theorem dX12_rebind_439 : decode cX12_rebind 439 = .ok (.iconst 0, 1) := by decide +kernel
theorem dX12_rebind_440 : decode cX12_rebind 440 = .ok (.invokevirtual 298, 3) := by decide +kernel
theorem dX12_rebind_443 : decode cX12_rebind 443 = .ok (.aload_n 0, 1) := by decide +kernel
theorem dX12_rebind_444 : decode cX12_rebind 444 = .ok (.iload 7, 2) := by decide +kernel
theorem dX12_rebind_446 : decode cX12_rebind 446 = .ok (.iconst 1, 1) := by decide +kernel
theorem dX12_rebind_447 : decode cX12_rebind 447 = .ok (.iconst 0, 1) := by decide +kernel
theorem dX12_rebind_448 : decode cX12_rebind 448 = .ok (.iconst 0, 1) := by decide +kernel
theorem dX12_rebind_449 : decode cX12_rebind 449 = .ok (.invokevirtual 298, 3) := by decide +kernel
set_option maxHeartbeats 4000000 in
set_option maxRecDepth 20000 in
theorem l_reb6 (d : Nat) {b : Nat} {σ0 : MS} {r : Int} {F : Int} {g : Int} {post : Option Value → MS → Prop} (hr : 0 ≤ r ∧ r < 6) (hR0 : RG σ0) (hit : ITM σ0) (hpar : PAR σ0) (hbo : BO 47 σ0) (h_g : -2147483648 ≤ g ∧ g ≤ 2147483647) (hx_458 : ∀ (k : Int) (σ : MS) , (Fr [] [6, 7, 8] [] σ0 σ) → (RG σ) → (OKS σ F r) → (XO r σ0 σ) → Tm (d + 5) m_X12_rebind 458 b σ [(6, .int (iI k)), (4, .int (iI g)), (0, .ref b), (1, .int (iI r))] [] post) : ∀ (n : Nat) (k : Int) (σ : MS) , (Fr [] [6, 7, 8] [] σ0 σ) → (RG σ) → (0 ≤ k ∧ k ≤ σ0.2.1 9 r) → (OKS σ F r) → (XO r σ0 σ) → (220 - k).toNat = n → Tm (d + 5) m_X12_rebind 372 b σ [(6, .int (iI k)), (4, .int (iI g)), (0, .ref b), (1, .int (iI r))] [] post := by
  intro n
  induction n using Nat.strongRecOn with
  | _ n ih =>
    intro k σ hF hR h0 hok hxo hm
    have q1 := hit r (by omega) (by omega)
    have q9 : σ.2.1 9 r = σ0.2.1 9 r := by rw [hF.2.1 9 (by decide)]
    have q3 : σ.2.1 3 = σ0.2.1 3 := hF.2.1 3 (by decide)
    refine tm_iload dX12_rebind_372 0 rfl ?_
    refine tm_aload_n dX12_rebind_374 rfl 2 rfl ?_
    refine tm_get (k := 9) (v := .ref (b + 1 + 7)) lay_12 dX12_rebind_375 (by decide) fl12_32 rfl ?_
    refine tm_iload_n dX12_rebind_378 rfl 3 rfl ?_
    refine tm_iald (z := r) (v := σ0.2.1 9 r) dX12_rebind_379 (show mT[7]? = some (9, 0, 13) from rfl) (by omega) (by omega) (by decide) (ra_F hF (by decide) (rfl)) ?_
    have g1 := RG.a hR0 9 (r)
    refine tm_icmp_ge (tgt := 458) dX12_rebind_380 (by decide) ⟨by omega, by omega⟩ ⟨by omega, by omega⟩ (fun h2 => ?_) (fun h2 => ?_)
    · exact tm_sub [0, 1, 2, 3] rfl (hx_458 (k) σ (Fr.rfl.trans (Fr.sub hF (by decide) (by decide) (by decide))) hR hok hxo)
    · refine tm_aload_n dX12_rebind_383 rfl 2 rfl ?_
      refine tm_iload_n dX12_rebind_384 rfl 3 rfl ?_
      refine tm_iload dX12_rebind_385 0 rfl ?_
      refine tm_callV (M := m_X12_rebind) (pc := 387) (ix := 203) (M' := m_X12_at) (As := [.int (iI r), .int (iI k)]) (rest := []) dX12_rebind_387 ok_X12_at im_X12_at se_X12_at ml12_203 np_X12_at rfl rfl (Nat.le_of_ble_eq_true rfl) (Nat.le_of_ble_eq_true rfl) rfl (c_X12_at (d + 3) (σ := σ) (x := r) (k := k) ) (fun r3 σ4 hp => ?_)
      obtain ⟨v5, rfl, rfl, f6⟩ := hp
      subst f6
      show Tm _ _ 390 b σ [(6, .int (iI k)), (4, .int (iI g)), (0, .ref b), (1, .int (iI r))] [.int (iI (220 * r + k))] _
      refine tm_istore (L' := [(7, .int (iI (220 * r + k))), (6, .int (iI k)), (4, .int (iI g)), (0, .ref b), (1, .int (iI r))]) dX12_rebind_390 (by decide) rfl ?_
      refine tm_aload_n dX12_rebind_392 rfl 3 rfl ?_
      refine tm_get (k := 47) (v := .ref (b + 1 + 25)) lay_12 dX12_rebind_393 (by decide) fl12_91 rfl ?_
      refine tm_iload dX12_rebind_396 1 rfl ?_
      refine tm_zald (z := k) (v := σ0.2.1 47 k) dX12_rebind_398 (show mT[25]? = some (47, 2, 221) from rfl) (by omega) (by omega) (by decide) (ra_F hF (by decide) (rfl)) ?_
      have g7 := RG.a hR0 47 (k)
      have := hbo (k)
      refine tm_if_eq (tgt := 452) dX12_rebind_399 (by decide) ⟨by omega, by omega⟩ (fun h8 => ?_) (fun h8 => ?_)
      · refine tm_iinc (q0 := 1) (L' := [(6, .int (iI (k + 1))), (7, .int (iI (220 * r + k))), (4, .int (iI g)), (0, .ref b), (1, .int (iI r))]) dX12_rebind_452 rfl (by decide) rfl ?_
        refine tm_goto (tgt := 372) dX12_rebind_455 (by decide) ?_
        exact tm_sub [0, 2, 3, 4] rfl (ih _ (by omega) (k + 1) σ (Fr.rfl.trans (Fr.sub hF (by decide) (by decide) (by decide))) hR (by omega) hok hxo rfl)
      · refine tm_aload_n dX12_rebind_402 rfl 3 rfl ?_
        refine tm_get (k := 3) (v := .ref (b + 1 + 1)) lay_12 dX12_rebind_403 (by decide) fl12_13 rfl ?_
        refine tm_iload dX12_rebind_406 0 rfl ?_
        refine tm_iald (z := 220 * r + k) (v := σ0.2.1 3 (220 * r + k)) dX12_rebind_408 (show mT[1]? = some (3, 0, 2860) from rfl) (by omega) (by omega) (by decide) (ra_F hF (by decide) (rfl)) ?_
        have g9 := RG.a hR0 3 (220 * r + k)
        refine tm_bipush dX12_rebind_409 (by decide) ?_
        refine tm_icmp_ne (tgt := 452) dX12_rebind_411 (by decide) ⟨by omega, by omega⟩ ⟨by decide, by decide⟩ (fun h10 => ?_) (fun h10 => ?_)
        · refine tm_iinc (q0 := 1) (L' := [(6, .int (iI (k + 1))), (7, .int (iI (220 * r + k))), (4, .int (iI g)), (0, .ref b), (1, .int (iI r))]) dX12_rebind_452 rfl (by decide) rfl ?_
          refine tm_goto (tgt := 372) dX12_rebind_455 (by decide) ?_
          exact tm_sub [0, 2, 3, 4] rfl (ih _ (by omega) (k + 1) σ (Fr.rfl.trans (Fr.sub hF (by decide) (by decide) (by decide))) hR (by omega) hok hxo rfl)
        · refine tm_aload_n dX12_rebind_414 rfl 3 rfl ?_
          refine tm_iload dX12_rebind_415 0 rfl ?_
          refine tm_iload dX12_rebind_417 2 rfl ?_
          refine tm_callV (M := m_X12_rebind) (pc := 419) (ix := 439) (M' := m_X12_leansOn) (As := [.int (iI (220 * r + k)), .int (iI g)]) (rest := []) dX12_rebind_419 ok_X12_leansOn im_X12_leansOn se_X12_leansOn ml12_439 np_X12_leansOn rfl rfl (Nat.le_of_ble_eq_true rfl) (Nat.le_of_ble_eq_true rfl) rfl (c_X12_leansOn (d) (σ := σ) (x := 220 * r + k) (g := g) (by omega) hR (hok.of (by omega) (by omega)) (hpar.fr hF (by decide)) (by omega)) (fun r11 σ12 hp => ?_)
          obtain ⟨v13, rfl, rfl, f14, f15⟩ := hp
          show Tm _ _ 422 b σ [(7, .int (iI (220 * r + k))), (6, .int (iI k)), (4, .int (iI g)), (0, .ref b), (1, .int (iI r))] [.int (iI v13)] _
          refine tm_if_eq (tgt := 452) dX12_rebind_422 (by decide) ⟨by omega, by omega⟩ (fun h16 => ?_) (fun h16 => ?_)
          · refine tm_iinc (q0 := 1) (L' := [(6, .int (iI (k + 1))), (7, .int (iI (220 * r + k))), (4, .int (iI g)), (0, .ref b), (1, .int (iI r))]) dX12_rebind_452 rfl (by decide) rfl ?_
            refine tm_goto (tgt := 372) dX12_rebind_455 (by decide) ?_
            exact tm_sub [0, 2, 3, 4] rfl (ih _ (by omega) (k + 1) σ (Fr.rfl.trans (Fr.sub hF (by decide) (by decide) (by decide))) hR (by omega) hok hxo rfl)
          · refine tm_aload_n dX12_rebind_425 rfl 3 rfl ?_
            refine tm_get (k := 6) (v := .ref (b + 1 + 4)) lay_12 dX12_rebind_426 (by decide) fl12_23 rfl ?_
            refine tm_iload dX12_rebind_429 0 rfl ?_
            refine tm_bipush dX12_rebind_431 (by decide) ?_
            refine tm_iast (z := 220 * r + k) (v := 12) dX12_rebind_433 (show mT[4]? = some (6, 0, 2860) from rfl) (by omega) (by omega) (by decide) ?_
            refine tm_aload_n dX12_rebind_434 rfl 3 rfl ?_
            refine tm_iload dX12_rebind_435 0 rfl ?_
            refine tm_iconst dX12_rebind_437 ?_
            refine tm_iconst dX12_rebind_438 ?_
            refine tm_iconst dX12_rebind_439 ?_
            refine tm_callV (M := m_X12_rebind) (pc := 440) (ix := 298) (M' := m_X12_setArg) (As := [.int (iI (220 * r + k)), .int (iI 0), .int (iI 0), .int (iI 0)]) (rest := []) dX12_rebind_440 ok_X12_setArg im_X12_setArg se_X12_setArg ml12_298 np_X12_setArg rfl rfl (Nat.le_of_ble_eq_true rfl) (Nat.le_of_ble_eq_true rfl) rfl (c_X12_setArg (d + 3) (σ := (sA 6 (220 * r + k) (12) σ)) (x := 220 * r + k) (i := 0) (k := 0) (w := 0) (by omega)) (fun r17 σ18 hp => ?_)
            obtain ⟨rfl, f20⟩ := hp
            subst f20
            show Tm _ _ 443 b (fArg (220 * r + k) (0) (0) (0) (sA 6 (220 * r + k) (12) σ)) [(7, .int (iI (220 * r + k))), (6, .int (iI k)), (4, .int (iI g)), (0, .ref b), (1, .int (iI r))] [] _
            refine tm_aload_n dX12_rebind_443 rfl 3 rfl ?_
            refine tm_iload dX12_rebind_444 0 rfl ?_
            refine tm_iconst dX12_rebind_446 ?_
            refine tm_iconst dX12_rebind_447 ?_
            refine tm_iconst dX12_rebind_448 ?_
            refine tm_callV (M := m_X12_rebind) (pc := 449) (ix := 298) (M' := m_X12_setArg) (As := [.int (iI (220 * r + k)), .int (iI 1), .int (iI 0), .int (iI 0)]) (rest := []) dX12_rebind_449 ok_X12_setArg im_X12_setArg se_X12_setArg ml12_298 np_X12_setArg rfl rfl (Nat.le_of_ble_eq_true rfl) (Nat.le_of_ble_eq_true rfl) rfl (c_X12_setArg (d + 3) (σ := (fArg (220 * r + k) (0) (0) (0) (sA 6 (220 * r + k) (12) σ))) (x := 220 * r + k) (i := 1) (k := 0) (w := 0) (by omega)) (fun r21 σ22 hp => ?_)
            obtain ⟨rfl, f24⟩ := hp
            subst f24
            show Tm _ _ 452 b (fArg (220 * r + k) (1) (0) (0) (fArg (220 * r + k) (0) (0) (0) (sA 6 (220 * r + k) (12) σ))) [(7, .int (iI (220 * r + k))), (6, .int (iI k)), (4, .int (iI g)), (0, .ref b), (1, .int (iI r))] [] _
            refine tm_iinc (q0 := 1) (L' := [(6, .int (iI (k + 1))), (7, .int (iI (220 * r + k))), (4, .int (iI g)), (0, .ref b), (1, .int (iI r))]) dX12_rebind_452 rfl (by decide) rfl ?_
            refine tm_goto (tgt := 372) dX12_rebind_455 (by decide) ?_
            exact tm_sub [0, 2, 3, 4] rfl (ih _ (by omega) (k + 1) (fArg (220 * r + k) (1) (0) (0) (fArg (220 * r + k) (0) (0) (0) (sA 6 (220 * r + k) (12) σ))) ((((Fr.rfl.trans (Fr.sub hF (by decide) (by decide) (by decide))).A (by decide)).trans (Fr.sub fArg_fr (by decide) (by decide) (by decide))).trans (Fr.sub fArg_fr (by decide) (by decide) (by decide))) (((hR.A (by omega)).arg (by decide) (by decide)).arg (by decide) (by decide)) (by omega) (fGone_off.oks hok (fGone_oki (hok k (by omega) (by omega)) (by rw [q3]; assumption) (by decide))) (hxo.trans (fGone_off.xo (by omega) (by omega))) rfl)
end
