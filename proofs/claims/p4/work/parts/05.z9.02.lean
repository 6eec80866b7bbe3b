theorem cl11_262 : Cond.classLink RX11 262 RX0 ∈ pWW := pw6 (List.mem_of_getElem? (i := 172) rfl) rfl
theorem ist_0 : Cond.instantiable RX0 5 ∈ pWW := pw6 (List.mem_of_getElem? (i := 173) rfl) rfl
theorem ml11_264 : Cond.methodLink RX11 264 yX0_init ∈ pWW := pw6 (List.mem_of_getElem? (i := 174) rfl) rfl
theorem dX11_beside_31 : decode cX11_beside 31 = .ok (.aload_n 0, 1) := by decide +kernel
theorem dX11_beside_32 : decode cX11_beside 32 = .ok (.new 262, 3) := by decide +kernel
theorem dX11_beside_35 : decode cX11_beside 35 = .ok (.dup, 1) := by decide +kernel
theorem dX11_beside_36 : decode cX11_beside 36 = .ok (.aload_n 0, 1) := by decide +kernel
theorem dX11_beside_37 : decode cX11_beside 37 = .ok (.getfield 19, 3) := by decide +kernel
theorem dX11_beside_40 : decode cX11_beside 40 = .ok (.aload_n 0, 1) := by decide +kernel
theorem dX11_beside_41 : decode cX11_beside 41 = .ok (.getfield 15, 3) := by decide +kernel
theorem dX11_beside_44 : decode cX11_beside 44 = .ok (.invokespecial 264, 3) := by decide +kernel
theorem dX11_beside_47 : decode cX11_beside 47 = .ok (.putfield 258, 3) := by decide +kernel
theorem ht_all : ∀ q, HT q → 500 + q ∈ [0, 1, 2, 3, 4, 5, 6, 7, 8, 9, 10, 11, 12, 13, 14, 15, 16, 17, 18, 19, 20, 21, 22, 23, 24, 25, 26, 27, 28, 29, 30, 31, 32, 33, 34, 35, 36, 37, 38, 39, 40, 41, 42, 43, 44, 45, 46, 47, 48, 49, 50, 51, 52, 53, 54, 55, 56, 57, 58, 59, 60, 61, 62, 63, 64, 65, 66, 67, 68, 69, 70, 71, 72, 73, 74, 75, 76, 77, 78, 79, 80, 81, 82, 83, 84, 85, 86, 87, 88, 89, 90, 91, 92, 93, 94, 95, 96, 97, 98, 99, 100, 101, 102, 103, 104, 105, 106, 107, 108, 109, 110, 111, 112, 113, 114, 115, 116, 117, 118, 119, 120, 121, 122, 123, 124, 125, 126, 127, 128, 129, 130, 131, 132, 133, 134, 135, 136, 137, 138, 139, 140, 141, 142, 143, 144, 145, 146, 147, 148, 149, 150, 151, 152, 153, 154, 155, 156, 157, 158, 159, 160, 161, 162, 163, 164, 165, 166, 167, 168, 169, 170, 171, 172, 173, 174, 175, 176, 177, 178, 179, 180, 181, 182, 183, 184, 185, 186, 187, 188, 189, 190, 191, 192, 193, 194, 195, 196, 197, 198, 199, 900, 502, 512, 515, 516, 517, 518, 519, 520, 521, 522, 523, 524] := fun q h => by
  have w : q = 2 ∨ q = 12 ∨ q = 15 ∨ q = 16 ∨ q = 17 ∨ q = 18 ∨ q = 19 ∨ q = 20 ∨ q = 21 ∨ q = 22 ∨ q = 23 ∨ q = 24 := by unfold HT at h; omega
  rcases w with rfl | rfl | rfl | rfl | rfl | rfl | rfl | rfl | rfl | rfl | rfl | rfl <;> decide
theorem FrC.all {T : CT} {σ τ : MS} {ks : List Nat} (h : ∀ k, k < 200 → k ∈ ks) (h9 : 900 ∈ ks) (h5 : ∀ q, HT q → 500 + q ∈ ks) : FrC T ks σ τ := ⟨fun k q r => absurd (q.elim (h k) (fun e => by rw [e]; exact h9)) r, fun x q r => absurd (h5 _ q) r⟩
theorem WT.pair {T T1 T2 : CT} {σ S1 S2 : MS} {a x : Nat} (hw : WT T σ) (ha : OB T a 11) (h110 : σ.2.1 110 a < 0) (hx : (T x).1 = 0) (hT1 : ∀ c, c ≠ x → T1 c = T c) (hx1 : T1 x = (80, 0)) (hf1 : ∀ n c, n < 200 → c ≠ x → S1.2.1 n (c : Int) = σ.2.1 n c) (h91 : S1.2.1 900 = σ.2.1 900) (e0 : S1.1 0 = σ.1 0 + (5 : Nat)) (e1 : S1.1 1 = σ.1 1 + 1) (w1 : WTn T2 S2) (hr : T2 x = (30, 0)) (k1 : KPx x T1 S1 T2 S2) (g0 : S2.1 0 = S1.1 0 + (4160 : Nat)) (g1 : S2.1 1 = S1.1 1 + (14 : Nat)) (n41 : NX 41 x T1 T2) (cd : ∀ K, CD K T → CD K T2) : WT T2 (sA 110 a x S2) := by
  obtain ⟨b, K, hb11, hbud⟩ := hw.2.2.2.2.2
  have hba : a = b := hb11 a ha
  have hax : a ≠ x := fun e => by have := ha.1; rw [e] at this; omega
  have kp : ∀ c, (T c).1 ≠ 0 → c ≠ x ∧ T2 c = T c ∧ ∀ n, n < 200 → S2.2.1 n (c : Int) = σ.2.1 n c := fun c p => by
    have e : c ≠ x := fun e => p (by rw [e]; exact hx)
    obtain ⟨y1, y2, -⟩ := k1.1 c (by rw [hT1 c e]; exact p) e
    exact ⟨e, y1.trans (hT1 c e), fun n hn => (y2 n hn).trans (hf1 n c hn e)⟩
  have kd : CD K T2 := cd K (fun c => (hbud.2.1 c).symm)
  obtain ⟨u1, u2, u3, u4, u5⟩ := w1
  have ka := kp a (by have := ha.1; omega)
  have oa : OB T2 a 11 := by unfold OB; rw [ka.2.1]; exact ha
  have cl : ∀ c, c ∈ K → cLen T2 (sA 110 a x S2) c = cLen T σ c := fun c hc => by
    have oc := (hbud.2.1 c).mp hc
    obtain ⟨y, q1, q2, -⟩ := cells_at hw.1 oc
    have kc := kp c (by have := oc.1; omega)
    have ky := kp y (by omega)
    unfold cLen
    rw [sA_k (by omega), kc.2.2 5 (by omega), q1]
    show (T2 y).2 = (T y).2
    rw [ky.2.1]
  have tl : ∀ i : Int, 0 ≤ i → i < 6 → tLen T2 (sA 110 a x S2) i = tLen T σ i := fun i i0 i1 => by
    unfold tLen
    rw [sA_k (by omega), k1.2, h91]
    rcases hw.2.2.2.2.1.2 i i0 i1 with q | ⟨y, q1, q2⟩
    · rw [if_pos q, if_pos q]
    · rw [q1, if_neg (by omega), if_neg (by omega)]
      show (T2 y).2 = (T y).2
      rw [(kp y (by have := q2.1; omega)).2.1]
  have es : tSum (tLen T2 (sA 110 a x S2)) = tSum (tLen T σ) := by unfold tSum; rw [tl 0 (by omega) (by omega), tl 1 (by omega) (by omega), tl 2 (by omega) (by omega), tl 3 (by omega) (by omega), tl 4 (by omega) (by omega), tl 5 (by omega) (by omega)]
  have ep : prS (sA 110 a x S2) a = 5000 := by unfold prS; rw [show (sA 110 a x S2).2.1 110 a = (x : Int) from ra_eq, if_neg (by omega)]
  have eo : prS σ b = 0 := by unfold prS; rw [← hba, if_pos h110]
  have m1 : (K.map (fun c => phL (cLen T2 (sA 110 a x S2) c))) = K.map (fun c => phL (cLen T σ c)) := List.map_congr_left (fun c hc => by rw [cl c hc])
  have m2 : (K.map (fun c => cLen T2 (sA 110 a x S2) c)) = K.map (fun c => cLen T σ c) := List.map_congr_left (fun c hc => cl c hc)
  refine ⟨fun m c q w => ?_, fun c y q r => ?_, fun c q => ?_, ⟨fun c q => ?_, fun c q => ?_⟩, ⟨u5.1, ?_⟩, a, K, fun c hc => ?_, hbud.1, fun c => (kd c).symm, ?_, ?_⟩
  · by_cases e : m = 110
    · by_cases f : c = a
      · rw [e, f, show (sA 110 a x S2).2.1 110 a = (x : Int) from ra_eq]; exact fo_110 (Or.inr ⟨x, rfl, by rw [hr]⟩)
      · rw [sA_ne (by omega)]; exact u1 m c q w
    · rw [sA_k e]; exact u1 m c q w
  · rw [sA_k (by omega)] at r; rw [sA_k (by omega)]; exact u2 c y q r
  · rw [sA_k (by omega)]; exact u3 c q
  · rw [sA_k (by omega)]; exact u4.1 c q
  · rw [sA_k (by omega)]; exact u4.2 c q
  · rw [sA_k (by omega)]; exact u5.2
  · by_cases z : (T c).1 = 0
    · by_cases e : c = x
      · have w := hc.2.1; rw [e, hr] at w; exact absurd w (by decide)
      · have w := n41 c (by rw [hT1 c e]; exact z) e
        have w2 := hc.2.1; have w3 := hc.1; have w4 := hc.2.2
        unfold kC at w2
        exfalso
        by_cases q1 : (T2 c).1 = 50
        · rw [if_pos q1] at w2; omega
        · rw [if_neg q1] at w2
          by_cases q2 : (T2 c).1 = 57
          · rw [if_pos q2] at w2; omega
          · rw [if_neg q2, if_neg (by omega)] at w2; omega
    · have kc := kp c z
      rw [hba]
      exact hb11 c (by unfold OB at hc ⊢; rw [← kc.2.1]; exact hc)
  · rw [m1, es, ep]
    show S2.1 0 ≤ _
    have := hbud.2.2.1
    rw [eo] at this
    omega
  · rw [m2, es, ep]
    show S2.1 1 ≤ _
    have := hbud.2.2.2
    rw [eo] at this
    omega

