/-! THE CLAIM OUT OF ONE WALK OF THE LAW'S BODY. Your part is whole_start (and what it stands on); all else here is the same for every law, but numbers. -/
def R_law : String := "LineKeeperLaw"
def lw_P (b : Addr) (xs : List Int32) (args : Array Value) (s : State) : Prop := args = #[.ref b] ∧ s.IntsAt b xs ∧ xs.length ≤ 7 ∧ (Jvm.Cond.and given_1 narrow_1).before args s = true
def lw_Q (_ : Array Value) (s : State) (o : Outcome) (t : State) : Prop := o = .returned (some (.int 1)) ∧ Framed s o t [] 589393 7334070
def lw_Z (below : List Frame) (a : Array Value) (s : State) : State → Prop := fun t => ∃ o, t.status = .running ∧ Ended t below o ∧ lw_Q a s o t
/-- the law's own end, with 1 on the stack, nothing written that was there before, its room as the claim has it -/
theorem lw_ret {p : Program} {l : Launch} {e : Env} {s : State} {m : MethodId} {below : List Frame} {meth : Method} {c : Code} {b : Nat} (hx : p.tables.exec = Jvm.exec) (hb : c.code = code) (hr : meth.sig.returnType = ret) (hlocks : meth.locks = false) {pc : Nat} {H : Heap} {ls : Array Slot} (hdg : decode code pc = .ok (.ireturn, 1)) : W p l e room_1 s m #[Value.ref b] below meth c H [] 589393 7334070 (lw_Z below #[Value.ref b] s) (F0 m pc ls [.int 1]) := by
  intro T hT X
  obtain ⟨fs, hret, hrun, hended, hW, hframe⟩ := X.leave (v := some (.int 1)) (hlocks := hlocks) (fun h => by rw [hr] at h; cases h)
  have hmeth' : T.vm.method? m = some meth := X.method'
  refine ⟨T.setFrames fs, ?_, .returned (some (.int 1)), hrun, hended, rfl, ⟨_, rfl⟩, hW, hframe⟩
  jvm_step X.here [X.here.top, hx, hb, hdg, hmeth', hr, ret, narrow_b1]
  (try refine ⟨rfl, ?_⟩); (try refine ⟨rfl, ?_⟩)
  first | (intro acts; rw [hret _ acts rfl rfl rfl]) | rw [hret _ _ rfl rfl rfl]
  exact Steps.refl _
/-- what holds at the law's entry: the machine, the code, the tables' words (any of lw_tbl by 'hts w (by decide +kernel)'), the script of L ints xs at the cell b, what the Statement gives of the start (any of its parts by flat_of_before) -/
def lw_At (p : Program) (s : State) (m : MethodId) (meth : Method) (c : Code) (b L : Nat) (xs : Nat → Int32) : Prop :=
  p.tables.exec = Jvm.exec ∧ c.code = code ∧ meth.sig.returnType = ret ∧ c.maxLocals = 4 ∧ s.vm.findClass R_law = some m.cls ∧ (∀ w ∈ lw_tbl, w.before #[Value.ref b] s = true) ∧ va_X b L xs s s.heap ∧ b < s.heap.size ∧ meth.locks = false ∧ (Jvm.Cond.and given_1 narrow_1).before #[Value.ref b] s = true
-- ===== YOUR PART BEGINS =====
set_option maxHeartbeats 4000000 in
set_option maxRecDepth 100000 in
theorem law_tail {p : Program} {l : Launch} {e : Env} {s : State} {m : MethodId} {below : List Frame} {meth : Method} {c : Code} {b : Nat} {xs : Nat → Int32} {A : Nat → Prop} (C0 : lw_At p s m meth c b 7 xs) (hAe : A = fun q => s.heap.size ≤ q) {H : Heap} {locs : List Loc} {k9 n9 : Nat} (hc9 : k9 ≤ 589393) (hs9 : n9 ≤ 7334070) (hS : va_S A s.heap H locs) (ls : Array Slot) (hl : lv_has ls 4 [(3, .int 0), (0, .ref b)]) : W p l e room_1 s m #[Value.ref b] below meth c H locs k9 n9 (lw_Z below #[Value.ref b] s) (F0 m 796 ls []) := by
  obtain ⟨hx, hb, hr, hml, hown, hts, hX, hbl, hlocks, hgv⟩ := C0
  have hts : ∀ w ∈ w_law, w.before #[Value.ref b] s = true := fun w h => hts w (w_law_in w h)
  have hown : s.vm.findClass RL = some m.cls := hown
  have hA : ∀ q : Nat, s.heap.size ≤ q → A q := fun q h => by rw [hAe]; exact h
  have hbA : ¬ A b := by rw [hAe]; exact Nat.not_le.mpr hbl
  refine lv_iinc (v := 7) (lv' := [(3, .int 7), (0, .ref b)]) hx hb dL_law_796 hl (k := 0) rfl (by decide) (by decide) rfl (fun ls hl => ?_)
  refine lv_goto (tgt := 18) hx hb dL_law_799 (by decide) ?_
  refine lv_iload_n hx hb dL_law_18 rfl (lv_at hl 0 rfl) ?_
  refine lv_aload_n hx hb dL_law_19 rfl (lv_at hl 1 rfl) ?_
  refine va_slen hx hb hX hbl hbA hS dL_law_20 ?_
  refine vx_topc (v := 7) rfl ?_
  refine lv_bipush (v := 7) hx hb dL_law_21 (by decide) ?_
  refine lv_isub hx hb dL_law_23 ?_
  refine vx_topc (v := 0) (by decide) ?_
  refine lv_icmp_gt (tgt := 802) hx hb dL_law_24 (by decide) (fun _ => ?_) (fun h => absurd (by decide) h)
  refine lv_iconst (v := 1) hx hb dL_law_802 (by decide) ?_
  refine va_forget (fun q hq => by have h9 := hS.2.2 q hq; rw [hAe] at h9; exact h9) ?_
  refine W.widen (k := 589393) (n := 7334070) hc9 hs9 ?_
  exact lw_ret hx hb hr hlocks dL_law_803
set_option maxHeartbeats 4000000 in
set_option maxRecDepth 100000 in
theorem law_0 {p : Program} {l : Launch} {e : Env} {s : State} {m : MethodId} {below : List Frame} {meth : Method} {c : Code} {dC : Nat → ClassId} {dI : Nat → Nat → Nat} {b : Nat} {xs : Nat → Int32} {A : Nat → Prop} {q11 : Nat} {q1 : Nat} {g3 : Nat → Nat} {cA4 : ClassId} {g5 : Nat → Nat} {g6 : Nat → Nat} {cA7 : ClassId} {cA8 : ClassId} {cA9 : ClassId} {g10 : Nat → Nat} {g13 : Nat → Nat} {cA14 : ClassId} {cA15 : ClassId} {cA16 : ClassId} {cA17 : ClassId} {cA18 : ClassId} (C0 : lw_At p s m meth c b 7 xs) (hAe : A = fun q => s.heap.size ≤ q) (hN : nst s) {H : Heap} {locs : List Loc} (hK : va_K (dC, dI) vwCl [(cA4, .byte), (cA7, .int), (cA8, .int), (cA9, .int), (cA14, .byte), (cA15, .int), (cA16, .int), (cA17, .int), (cA18, .boolean)] s) (hP : va_P (dC, dI) vwCl [(q1, .inr (11, fsX g3)), ((g3 0), .inl (cA4, 1200, .inl (fun _ => 0))), ((g3 5), .inr (5, [.ref (g5 0), .ref (g5 1), .ref (g5 2), .ref (g5 3), .ref (g5 4), .int 0, .ref (g5 6), .ref (g5 7), .ref (g5 8), .int 0, .int 0, .int 0, .int 0, .int 0, .int 0, .ref (g5 15), .ref (g5 16), .int 0, .int 0])), ((g5 0), .inr (9, [.ref (g6 0), .ref (g6 1), .ref (g6 2), .int 0, .int 0, .int 0, .int 0])), ((g6 0), .inl (cA7, 1201, .inl (fun _ => 0))), ((g6 1), .inl (cA8, 1201, .inl (fun _ => 0))), ((g6 2), .inl (cA9, 1201, .inl (fun _ => 0))), ((g3 8), .inr (7, [.ref (g3 4), .int 0, .int 0, .int 0, .ref (g10 4), .ref (g10 5), .ref (g10 6), .ref (g10 7), .ref (g10 8), .ref (g10 9), .int 0, .int 0, .int 0, .int 0, .null, .int 0, .int 0])), (q11, .inr (12, fsM g13)), ((g13 1), .inl (cA14, 1200, .inl (fun _ => 0))), ((g13 35), .inl (cA15, 6, .inl (fun _ => 0))), ((g13 36), .inl (cA16, 6, .inl (fun _ => 0))), ((g13 37), .inl (cA17, 6, .inl (fun _ => 0))), ((g13 48), .inl (cA18, 6, .inl (fun _ => 0)))] H) (hD : va_D A [(q1, .inr (11, fsX g3)), ((g3 0), .inl (cA4, 1200, .inl (fun _ => 0))), ((g3 5), .inr (5, [.ref (g5 0), .ref (g5 1), .ref (g5 2), .ref (g5 3), .ref (g5 4), .int 0, .ref (g5 6), .ref (g5 7), .ref (g5 8), .int 0, .int 0, .int 0, .int 0, .int 0, .int 0, .ref (g5 15), .ref (g5 16), .int 0, .int 0])), ((g5 0), .inr (9, [.ref (g6 0), .ref (g6 1), .ref (g6 2), .int 0, .int 0, .int 0, .int 0])), ((g6 0), .inl (cA7, 1201, .inl (fun _ => 0))), ((g6 1), .inl (cA8, 1201, .inl (fun _ => 0))), ((g6 2), .inl (cA9, 1201, .inl (fun _ => 0))), ((g3 8), .inr (7, [.ref (g3 4), .int 0, .int 0, .int 0, .ref (g10 4), .ref (g10 5), .ref (g10 6), .ref (g10 7), .ref (g10 8), .ref (g10 9), .int 0, .int 0, .int 0, .int 0, .null, .int 0, .int 0])), (q11, .inr (12, fsM g13)), ((g13 1), .inl (cA14, 1200, .inl (fun _ => 0))), ((g13 35), .inl (cA15, 6, .inl (fun _ => 0))), ((g13 36), .inl (cA16, 6, .inl (fun _ => 0))), ((g13 37), .inl (cA17, 6, .inl (fun _ => 0))), ((g13 48), .inl (cA18, 6, .inl (fun _ => 0)))]) (hS : va_S A s.heap H locs) (ls : Array Slot) (hl : lv_has ls 4 [(3, .int 0), (2, .ref q11), (1, .ref q1), (0, .ref b)]) : W p l e room_1 s m #[Value.ref b] below meth c H locs 257 1146073 (lw_Z below #[Value.ref b] s) (F0 m 120 ls []) := by
  obtain ⟨hx, hb, hr, hml, hown, hts, hX, hbl, hlocks, hgv⟩ := id C0
  have hts : ∀ w ∈ w_law, w.before #[Value.ref b] s = true := fun w h => hts w (w_law_in w h)
  have hown : s.vm.findClass RL = some m.cls := hown
  have hA : ∀ q : Nat, s.heap.size ≤ q → A q := fun q h => by rw [hAe]; exact h
  have hbA : ¬ A b := by rw [hAe]; exact Nat.not_le.mpr hbl
  refine lv_aload_n hx hb dL_law_120 rfl (lv_at hl 2 rfl) ?_
  refine lv_aload_n hx hb dL_law_121 rfl (lv_at hl 3 rfl) ?_
  refine lv_iload_n hx hb dL_law_122 rfl (lv_at hl 0 rfl) ?_
  refine lv_iconst (v := 1) hx hb dL_law_123 (by decide) ?_
  refine lv_iadd hx hb dL_law_124 ?_
  refine vx_topc (v := 1) (by decide) ?_
  refine va_sld hx hb hX hbl hbA hS (vx_in (by decide)) dL_law_125 ?_
  refine lv_aload_n hx hb dL_law_126 rfl (lv_at hl 3 rfl) ?_
  refine lv_iload_n hx hb dL_law_127 rfl (lv_at hl 0 rfl) ?_
  refine lv_iconst (v := 2) hx hb dL_law_128 (by decide) ?_
  refine lv_iadd hx hb dL_law_129 ?_
  refine vx_topc (v := 2) (by decide) ?_
  refine va_sld hx hb hX hbl hbA hS (vx_in (by decide)) dL_law_130 ?_
  refine lv_aload_n hx hb dL_law_131 rfl (lv_at hl 3 rfl) ?_
  refine lv_iload_n hx hb dL_law_132 rfl (lv_at hl 0 rfl) ?_
  refine lv_iconst (v := 3) hx hb dL_law_133 (by decide) ?_
  refine lv_iadd hx hb dL_law_134 ?_
  refine vx_topc (v := 3) (by decide) ?_
  refine va_sld hx hb hX hbl hbA hS (vx_in (by decide)) dL_law_135 ?_
  refine lv_aload_n hx hb dL_law_136 rfl (lv_at hl 3 rfl) ?_
  refine lv_iload_n hx hb dL_law_137 rfl (lv_at hl 0 rfl) ?_
  refine lv_iconst (v := 4) hx hb dL_law_138 (by decide) ?_
  refine lv_iadd hx hb dL_law_139 ?_
  refine vx_topc (v := 4) (by decide) ?_
  refine va_sld hx hb hX hbl hbA hS (vx_in (by decide)) dL_law_140 ?_
  refine lv_aload_n hx hb dL_law_141 rfl (lv_at hl 3 rfl) ?_
  refine lv_iload_n hx hb dL_law_142 rfl (lv_at hl 0 rfl) ?_
  refine lv_iconst (v := 5) hx hb dL_law_143 (by decide) ?_
  refine lv_iadd hx hb dL_law_144 ?_
  refine vx_topc (v := 5) (by decide) ?_
  refine va_sld hx hb hX hbl hbA hS (vx_in (by decide)) dL_law_145 ?_
  have hPc := hP.sub (ws' := [(q1, .inr (11, fsX g3)), ((g3 0), .inl (cA4, 1200, .inl (fun _ => 0)))]) [0, 1] rfl
  have hDc := hD.sub (ws' := [(q1, .inr (11, fsX g3)), ((g3 0), .inl (cA4, 1200, .inl (fun _ => 0)))]) [0, 1] (by decide) rfl
  have hKc := hK.sub (tys' := [(cA4, .byte)]) [0] rfl
  have hFc := va_free (wc := [(q1, .inr (11, fsX g3)), ((g3 0), .inl (cA4, 1200, .inl (fun _ => 0)))]) hD hS hA [0, 1] rfl
  refine va_calli (va_runV (As := [.int (xs (1 : Int32).toNatClampNeg), .int (xs (2 : Int32).toNatClampNeg), .int (xs (3 : Int32).toNatClampNeg), .int (xs (4 : Int32).toNatClampNeg), .int (xs (5 : Int32).toNatClampNeg)]) (rest := []) ⟨hx, hb, hml, hown, hts⟩ (x_feed l dC dI q1 g3 cA4 (fun _ => 0) (xs (1 : Int32).toNatClampNeg) (xs (2 : Int32).toNatClampNeg) (xs (3 : Int32).toNatClampNeg) (xs (4 : Int32).toNatClampNeg) (xs (5 : Int32).toNatClampNeg) H.size ) (cwV 5 hts g_law_x_feed_13 rfl rfl rfl (by decide +kernel) ⟨(Nat.le_of_ble_eq_true rfl), (Nat.le_of_ble_eq_true rfl)⟩) (vx_preV (ci := 11) (q0 := 0) hPc hKc hDc hN rfl rfl) rfl rfl hl.1 rfl (lv_room (Nat.le_of_ble_eq_true rfl)) dL_law_146 ⟨(Nat.le_of_ble_eq_true rfl), (Nat.le_of_ble_eq_true rfl)⟩) hS (fun q _ h => hFc q h) hFc (fun r5001 u t H1 locs ht hvm hw hB hz1 hk1 hS => ?_)
  obtain ⟨hP1, hK1, hD1⟩ := hB
  rw [ht] at hP1
  obtain ⟨hP, hD⟩ := va_join (wr := [((g3 5), .inr (5, [.ref (g5 0), .ref (g5 1), .ref (g5 2), .ref (g5 3), .ref (g5 4), .int 0, .ref (g5 6), .ref (g5 7), .ref (g5 8), .int 0, .int 0, .int 0, .int 0, .int 0, .int 0, .ref (g5 15), .ref (g5 16), .int 0, .int 0])), ((g5 0), .inr (9, [.ref (g6 0), .ref (g6 1), .ref (g6 2), .int 0, .int 0, .int 0, .int 0])), ((g6 0), .inl (cA7, 1201, .inl (fun _ => 0))), ((g6 1), .inl (cA8, 1201, .inl (fun _ => 0))), ((g6 2), .inl (cA9, 1201, .inl (fun _ => 0))), ((g3 8), .inr (7, [.ref (g3 4), .int 0, .int 0, .int 0, .ref (g10 4), .ref (g10 5), .ref (g10 6), .ref (g10 7), .ref (g10 8), .ref (g10 9), .int 0, .int 0, .int 0, .int 0, .null, .int 0, .int 0])), (q11, .inr (12, fsM g13)), ((g13 1), .inl (cA14, 1200, .inl (fun _ => 0))), ((g13 35), .inl (cA15, 6, .inl (fun _ => 0))), ((g13 36), .inl (cA16, 6, .inl (fun _ => 0))), ((g13 37), .inl (cA17, 6, .inl (fun _ => 0))), ((g13 48), .inl (cA18, 6, .inl (fun _ => 0)))]) (w1 := []) hP hD [0, 1] [2, 3, 4, 5, 6, 7, 8, 9, 10, 11, 12, 13] rfl rfl (by decide) (by decide) hk1 hFc hP1 hD1
  generalize H1 = H at hP hS ⊢
  have hP : va_P (dC, dI) vwCl [((g3 5), .inr (5, [.ref (g5 0), .ref (g5 1), .ref (g5 2), .ref (g5 3), .ref (g5 4), .int 0, .ref (g5 6), .ref (g5 7), .ref (g5 8), .int 0, .int 0, .int 0, .int 0, .int 0, .int 0, .ref (g5 15), .ref (g5 16), .int 0, .int 0])), ((g5 0), .inr (9, [.ref (g6 0), .ref (g6 1), .ref (g6 2), .int 0, .int 0, .int 0, .int 0])), ((g6 0), .inl (cA7, 1201, .inl (fun _ => 0))), ((g6 1), .inl (cA8, 1201, .inl (fun _ => 0))), ((g6 2), .inl (cA9, 1201, .inl (fun _ => 0))), ((g3 8), .inr (7, [.ref (g3 4), .int 0, .int 0, .int 0, .ref (g10 4), .ref (g10 5), .ref (g10 6), .ref (g10 7), .ref (g10 8), .ref (g10 9), .int 0, .int 0, .int 0, .int 0, .null, .int 0, .int 0])), (q11, .inr (12, fsM g13)), ((g13 1), .inl (cA14, 1200, .inl (fun _ => 0))), ((g13 35), .inl (cA15, 6, .inl (fun _ => 0))), ((g13 36), .inl (cA16, 6, .inl (fun _ => 0))), ((g13 37), .inl (cA17, 6, .inl (fun _ => 0))), ((g13 48), .inl (cA18, 6, .inl (fun _ => 0)))] H := hP
  have hD : va_D A [((g3 5), .inr (5, [.ref (g5 0), .ref (g5 1), .ref (g5 2), .ref (g5 3), .ref (g5 4), .int 0, .ref (g5 6), .ref (g5 7), .ref (g5 8), .int 0, .int 0, .int 0, .int 0, .int 0, .int 0, .ref (g5 15), .ref (g5 16), .int 0, .int 0])), ((g5 0), .inr (9, [.ref (g6 0), .ref (g6 1), .ref (g6 2), .int 0, .int 0, .int 0, .int 0])), ((g6 0), .inl (cA7, 1201, .inl (fun _ => 0))), ((g6 1), .inl (cA8, 1201, .inl (fun _ => 0))), ((g6 2), .inl (cA9, 1201, .inl (fun _ => 0))), ((g3 8), .inr (7, [.ref (g3 4), .int 0, .int 0, .int 0, .ref (g10 4), .ref (g10 5), .ref (g10 6), .ref (g10 7), .ref (g10 8), .ref (g10 9), .int 0, .int 0, .int 0, .int 0, .null, .int 0, .int 0])), (q11, .inr (12, fsM g13)), ((g13 1), .inl (cA14, 1200, .inl (fun _ => 0))), ((g13 35), .inl (cA15, 6, .inl (fun _ => 0))), ((g13 36), .inl (cA16, 6, .inl (fun _ => 0))), ((g13 37), .inl (cA17, 6, .inl (fun _ => 0))), ((g13 48), .inl (cA18, 6, .inl (fun _ => 0)))] := hD
  refine W.widen (k := 257) (n := 1146073) (by decide) (by decide) ?_
  try dsimp only at hw
  subst hw
  refine lv_aload_n hx hb dL_law_149 rfl (lv_at hl 1 rfl) ?_
  refine lv_aload_n hx hb dL_law_150 rfl (lv_at hl 3 rfl) ?_
  refine lv_iload_n hx hb dL_law_151 rfl (lv_at hl 0 rfl) ?_
  refine lv_iconst (v := 1) hx hb dL_law_152 (by decide) ?_
  refine lv_iadd hx hb dL_law_153 ?_
  refine vx_topc (v := 1) (by decide) ?_
  refine va_sld hx hb hX hbl hbA hS (vx_in (by decide)) dL_law_154 ?_
  refine lv_aload_n hx hb dL_law_155 rfl (lv_at hl 3 rfl) ?_
  refine lv_iload_n hx hb dL_law_156 rfl (lv_at hl 0 rfl) ?_
  refine lv_iconst (v := 2) hx hb dL_law_157 (by decide) ?_
  refine lv_iadd hx hb dL_law_158 ?_
  refine vx_topc (v := 2) (by decide) ?_
  refine va_sld hx hb hX hbl hbA hS (vx_in (by decide)) dL_law_159 ?_
  refine lv_aload_n hx hb dL_law_160 rfl (lv_at hl 3 rfl) ?_
  refine lv_iload_n hx hb dL_law_161 rfl (lv_at hl 0 rfl) ?_
  refine lv_iconst (v := 3) hx hb dL_law_162 (by decide) ?_
  refine lv_iadd hx hb dL_law_163 ?_
  refine vx_topc (v := 3) (by decide) ?_
  refine va_sld hx hb hX hbl hbA hS (vx_in (by decide)) dL_law_164 ?_
  refine lv_aload_n hx hb dL_law_165 rfl (lv_at hl 3 rfl) ?_
  refine lv_iload_n hx hb dL_law_166 rfl (lv_at hl 0 rfl) ?_
  refine lv_iconst (v := 4) hx hb dL_law_167 (by decide) ?_
  refine lv_iadd hx hb dL_law_168 ?_
  refine vx_topc (v := 4) (by decide) ?_
  refine va_sld hx hb hX hbl hbA hS (vx_in (by decide)) dL_law_169 ?_
  refine lv_aload_n hx hb dL_law_170 rfl (lv_at hl 3 rfl) ?_
  refine lv_iload_n hx hb dL_law_171 rfl (lv_at hl 0 rfl) ?_
  refine lv_iconst (v := 5) hx hb dL_law_172 (by decide) ?_
  refine lv_iadd hx hb dL_law_173 ?_
  refine vx_topc (v := 5) (by decide) ?_
  refine va_sld hx hb hX hbl hbA hS (vx_in (by decide)) dL_law_174 ?_
  have hPc := hP.sub (ws' := [(q11, .inr (12, fsM g13)), ((g13 1), .inl (cA14, 1200, .inl (fun _ => 0)))]) [6, 7] rfl
  have hDc := hD.sub (ws' := [(q11, .inr (12, fsM g13)), ((g13 1), .inl (cA14, 1200, .inl (fun _ => 0)))]) [6, 7] (by decide) rfl
  have hKc := hK.sub (tys' := [(cA14, .byte)]) [4] rfl
  have hFc := va_free (wc := [(q11, .inr (12, fsM g13)), ((g13 1), .inl (cA14, 1200, .inl (fun _ => 0)))]) hD hS hA [6, 7] rfl
  refine va_calli (va_runV (As := [.int (xs (1 : Int32).toNatClampNeg), .int (xs (2 : Int32).toNatClampNeg), .int (xs (3 : Int32).toNatClampNeg), .int (xs (4 : Int32).toNatClampNeg), .int (xs (5 : Int32).toNatClampNeg)]) (rest := [.int 20]) ⟨hx, hb, hml, hown, hts⟩ (m_feed l dC dI q11 g13 cA14 (fun _ => 0) (xs (1 : Int32).toNatClampNeg) (xs (2 : Int32).toNatClampNeg) (xs (3 : Int32).toNatClampNeg) (xs (4 : Int32).toNatClampNeg) (xs (5 : Int32).toNatClampNeg) H.size ) (cwV 5 hts g_law_m_feed_17 rfl rfl rfl (by decide +kernel) ⟨(Nat.le_of_ble_eq_true rfl), (Nat.le_of_ble_eq_true rfl)⟩) (vx_preV (ci := 12) (q0 := 0) hPc hKc hDc hN rfl rfl) rfl rfl hl.1 rfl (lv_room (Nat.le_of_ble_eq_true rfl)) dL_law_175 ⟨(Nat.le_of_ble_eq_true rfl), (Nat.le_of_ble_eq_true rfl)⟩) hS (fun q _ h => hFc q h) hFc (fun r5002 u t H1 locs ht hvm hw hB hz1 hk1 hS => ?_)
  obtain ⟨hP1, hK1, hD1⟩ := hB
  rw [ht] at hP1
  obtain ⟨hP, hD⟩ := va_join (wr := [((g3 5), .inr (5, [.ref (g5 0), .ref (g5 1), .ref (g5 2), .ref (g5 3), .ref (g5 4), .int 0, .ref (g5 6), .ref (g5 7), .ref (g5 8), .int 0, .int 0, .int 0, .int 0, .int 0, .int 0, .ref (g5 15), .ref (g5 16), .int 0, .int 0])), ((g5 0), .inr (9, [.ref (g6 0), .ref (g6 1), .ref (g6 2), .int 0, .int 0, .int 0, .int 0])), ((g6 0), .inl (cA7, 1201, .inl (fun _ => 0))), ((g6 1), .inl (cA8, 1201, .inl (fun _ => 0))), ((g6 2), .inl (cA9, 1201, .inl (fun _ => 0))), ((g3 8), .inr (7, [.ref (g3 4), .int 0, .int 0, .int 0, .ref (g10 4), .ref (g10 5), .ref (g10 6), .ref (g10 7), .ref (g10 8), .ref (g10 9), .int 0, .int 0, .int 0, .int 0, .null, .int 0, .int 0])), ((g13 35), .inl (cA15, 6, .inl (fun _ => 0))), ((g13 36), .inl (cA16, 6, .inl (fun _ => 0))), ((g13 37), .inl (cA17, 6, .inl (fun _ => 0))), ((g13 48), .inl (cA18, 6, .inl (fun _ => 0)))]) (w1 := []) hP hD [6, 7] [0, 1, 2, 3, 4, 5, 8, 9, 10, 11] rfl rfl (by decide) (by decide) hk1 hFc hP1 hD1
  generalize H1 = H at hP hS ⊢
  have hP : va_P (dC, dI) vwCl [((g3 5), .inr (5, [.ref (g5 0), .ref (g5 1), .ref (g5 2), .ref (g5 3), .ref (g5 4), .int 0, .ref (g5 6), .ref (g5 7), .ref (g5 8), .int 0, .int 0, .int 0, .int 0, .int 0, .int 0, .ref (g5 15), .ref (g5 16), .int 0, .int 0])), ((g5 0), .inr (9, [.ref (g6 0), .ref (g6 1), .ref (g6 2), .int 0, .int 0, .int 0, .int 0])), ((g6 0), .inl (cA7, 1201, .inl (fun _ => 0))), ((g6 1), .inl (cA8, 1201, .inl (fun _ => 0))), ((g6 2), .inl (cA9, 1201, .inl (fun _ => 0))), ((g3 8), .inr (7, [.ref (g3 4), .int 0, .int 0, .int 0, .ref (g10 4), .ref (g10 5), .ref (g10 6), .ref (g10 7), .ref (g10 8), .ref (g10 9), .int 0, .int 0, .int 0, .int 0, .null, .int 0, .int 0])), ((g13 35), .inl (cA15, 6, .inl (fun _ => 0))), ((g13 36), .inl (cA16, 6, .inl (fun _ => 0))), ((g13 37), .inl (cA17, 6, .inl (fun _ => 0))), ((g13 48), .inl (cA18, 6, .inl (fun _ => 0)))] H := hP
  have hD : va_D A [((g3 5), .inr (5, [.ref (g5 0), .ref (g5 1), .ref (g5 2), .ref (g5 3), .ref (g5 4), .int 0, .ref (g5 6), .ref (g5 7), .ref (g5 8), .int 0, .int 0, .int 0, .int 0, .int 0, .int 0, .ref (g5 15), .ref (g5 16), .int 0, .int 0])), ((g5 0), .inr (9, [.ref (g6 0), .ref (g6 1), .ref (g6 2), .int 0, .int 0, .int 0, .int 0])), ((g6 0), .inl (cA7, 1201, .inl (fun _ => 0))), ((g6 1), .inl (cA8, 1201, .inl (fun _ => 0))), ((g6 2), .inl (cA9, 1201, .inl (fun _ => 0))), ((g3 8), .inr (7, [.ref (g3 4), .int 0, .int 0, .int 0, .ref (g10 4), .ref (g10 5), .ref (g10 6), .ref (g10 7), .ref (g10 8), .ref (g10 9), .int 0, .int 0, .int 0, .int 0, .null, .int 0, .int 0])), ((g13 35), .inl (cA15, 6, .inl (fun _ => 0))), ((g13 36), .inl (cA16, 6, .inl (fun _ => 0))), ((g13 37), .inl (cA17, 6, .inl (fun _ => 0))), ((g13 48), .inl (cA18, 6, .inl (fun _ => 0)))] := hD
  refine W.widen (k := 257) (n := 1146073) (by decide) (by decide) ?_
  try dsimp only at hw
  subst hw
  refine lv_icmp_eq (tgt := 796) hx hb dL_law_178 (by decide) (fun _ => ?_) (fun h => absurd (by decide) h)
  exact law_tail C0 hAe (Nat.le_of_ble_eq_true rfl) (Nat.le_of_ble_eq_true rfl) hS ls (lv_sub hl [0, 3] rfl)
set_option maxHeartbeats 4000000 in
set_option maxRecDepth 100000 in
theorem law_1 {p : Program} {l : Launch} {e : Env} {s : State} {m : MethodId} {below : List Frame} {meth : Method} {c : Code} {dC : Nat → ClassId} {dI : Nat → Nat → Nat} {b : Nat} {xs : Nat → Int32} {A : Nat → Prop} {q11 : Nat} {q1 : Nat} {g3 : Nat → Nat} {cA4 : ClassId} {g5 : Nat → Nat} {g6 : Nat → Nat} {cA7 : ClassId} {cA8 : ClassId} {cA9 : ClassId} {g10 : Nat → Nat} {g13 : Nat → Nat} {cA14 : ClassId} {cA15 : ClassId} {cA16 : ClassId} {cA17 : ClassId} {cA18 : ClassId} (C0 : lw_At p s m meth c b 7 xs) (hAe : A = fun q => s.heap.size ≤ q) (hN : nst s) {H : Heap} {locs : List Loc} (hK : va_K (dC, dI) vwCl [(cA4, .byte), (cA7, .int), (cA8, .int), (cA9, .int), (cA14, .byte), (cA15, .int), (cA16, .int), (cA17, .int), (cA18, .boolean)] s) (hP : va_P (dC, dI) vwCl [(q1, .inr (11, fsX g3)), ((g3 0), .inl (cA4, 1200, .inl (fun _ => 0))), ((g3 5), .inr (5, [.ref (g5 0), .ref (g5 1), .ref (g5 2), .ref (g5 3), .ref (g5 4), .int 0, .ref (g5 6), .ref (g5 7), .ref (g5 8), .int 0, .int 0, .int 0, .int 0, .int 0, .int 0, .ref (g5 15), .ref (g5 16), .int 0, .int 0])), ((g5 0), .inr (9, [.ref (g6 0), .ref (g6 1), .ref (g6 2), .int 0, .int 0, .int 0, .int 0])), ((g6 0), .inl (cA7, 1201, .inl (fun _ => 0))), ((g6 1), .inl (cA8, 1201, .inl (fun _ => 0))), ((g6 2), .inl (cA9, 1201, .inl (fun _ => 0))), ((g3 8), .inr (7, [.ref (g3 4), .int 0, .int 0, .int 0, .ref (g10 4), .ref (g10 5), .ref (g10 6), .ref (g10 7), .ref (g10 8), .ref (g10 9), .int 0, .int 0, .int 0, .int 0, .null, .int 0, .int 0])), (q11, .inr (12, fsM g13)), ((g13 1), .inl (cA14, 1200, .inl (fun _ => 0))), ((g13 35), .inl (cA15, 6, .inl (fun _ => 0))), ((g13 36), .inl (cA16, 6, .inl (fun _ => 0))), ((g13 37), .inl (cA17, 6, .inl (fun _ => 0))), ((g13 48), .inl (cA18, 6, .inl (fun _ => 0)))] H) (hD : va_D A [(q1, .inr (11, fsX g3)), ((g3 0), .inl (cA4, 1200, .inl (fun _ => 0))), ((g3 5), .inr (5, [.ref (g5 0), .ref (g5 1), .ref (g5 2), .ref (g5 3), .ref (g5 4), .int 0, .ref (g5 6), .ref (g5 7), .ref (g5 8), .int 0, .int 0, .int 0, .int 0, .int 0, .int 0, .ref (g5 15), .ref (g5 16), .int 0, .int 0])), ((g5 0), .inr (9, [.ref (g6 0), .ref (g6 1), .ref (g6 2), .int 0, .int 0, .int 0, .int 0])), ((g6 0), .inl (cA7, 1201, .inl (fun _ => 0))), ((g6 1), .inl (cA8, 1201, .inl (fun _ => 0))), ((g6 2), .inl (cA9, 1201, .inl (fun _ => 0))), ((g3 8), .inr (7, [.ref (g3 4), .int 0, .int 0, .int 0, .ref (g10 4), .ref (g10 5), .ref (g10 6), .ref (g10 7), .ref (g10 8), .ref (g10 9), .int 0, .int 0, .int 0, .int 0, .null, .int 0, .int 0])), (q11, .inr (12, fsM g13)), ((g13 1), .inl (cA14, 1200, .inl (fun _ => 0))), ((g13 35), .inl (cA15, 6, .inl (fun _ => 0))), ((g13 36), .inl (cA16, 6, .inl (fun _ => 0))), ((g13 37), .inl (cA17, 6, .inl (fun _ => 0))), ((g13 48), .inl (cA18, 6, .inl (fun _ => 0)))]) (hS : va_S A s.heap H locs) (ls : Array Slot) (hl : lv_has ls 4 [(3, .int 0), (2, .ref q11), (1, .ref q1), (0, .ref b)]) : W p l e room_1 s m #[Value.ref b] below meth c H locs 257 1146073 (lw_Z below #[Value.ref b] s) (F0 m 183 ls []) := by
  obtain ⟨hx, hb, hr, hml, hown, hts, hX, hbl, hlocks, hgv⟩ := id C0
  have hts : ∀ w ∈ w_law, w.before #[Value.ref b] s = true := fun w h => hts w (w_law_in w h)
  have hown : s.vm.findClass RL = some m.cls := hown
  have hA : ∀ q : Nat, s.heap.size ≤ q → A q := fun q h => by rw [hAe]; exact h
  have hbA : ¬ A b := by rw [hAe]; exact Nat.not_le.mpr hbl
  refine lv_aload_n hx hb dL_law_183 rfl (lv_at hl 2 rfl) ?_
  refine lv_aload_n hx hb dL_law_184 rfl (lv_at hl 3 rfl) ?_
  refine lv_iload_n hx hb dL_law_185 rfl (lv_at hl 0 rfl) ?_
  refine lv_iconst (v := 1) hx hb dL_law_186 (by decide) ?_
  refine lv_iadd hx hb dL_law_187 ?_
  refine vx_topc (v := 1) (by decide) ?_
  refine va_sld hx hb hX hbl hbA hS (vx_in (by decide)) dL_law_188 ?_
  have hPc := hP.sub (ws' := [(q1, .inr (11, fsX g3))]) [0] rfl
  have hDc := hD.sub (ws' := [(q1, .inr (11, fsX g3))]) [0] (by decide) rfl
  have hKc := hK.sub (tys' := []) [] rfl
  have hFc := va_free (wc := [(q1, .inr (11, fsX g3))]) hD hS hA [0] rfl
  refine va_calli (va_runV (As := [.int (xs (1 : Int32).toNatClampNeg)]) (rest := []) ⟨hx, hb, hml, hown, hts⟩ (x_end l dC dI q1 g3 (xs (1 : Int32).toNatClampNeg) H.size ) (cwV 1 hts g_law_x_end_18 rfl rfl rfl (by decide +kernel) ⟨(Nat.le_of_ble_eq_true rfl), (Nat.le_of_ble_eq_true rfl)⟩) (vx_preV (ci := 11) (q0 := 0) hPc hKc hDc hN rfl rfl) rfl rfl hl.1 rfl (lv_room (Nat.le_of_ble_eq_true rfl)) dL_law_189 ⟨(Nat.le_of_ble_eq_true rfl), (Nat.le_of_ble_eq_true rfl)⟩) hS (fun q _ h => hFc q h) hFc (fun r5001 u t H1 locs ht hvm hw hB hz1 hk1 hS => ?_)
  obtain ⟨hP1, hK1, hD1⟩ := hB
  rw [ht] at hP1
  obtain ⟨hP, hD⟩ := va_join (wr := [((g3 0), .inl (cA4, 1200, .inl (fun _ => 0))), ((g3 5), .inr (5, [.ref (g5 0), .ref (g5 1), .ref (g5 2), .ref (g5 3), .ref (g5 4), .int 0, .ref (g5 6), .ref (g5 7), .ref (g5 8), .int 0, .int 0, .int 0, .int 0, .int 0, .int 0, .ref (g5 15), .ref (g5 16), .int 0, .int 0])), ((g5 0), .inr (9, [.ref (g6 0), .ref (g6 1), .ref (g6 2), .int 0, .int 0, .int 0, .int 0])), ((g6 0), .inl (cA7, 1201, .inl (fun _ => 0))), ((g6 1), .inl (cA8, 1201, .inl (fun _ => 0))), ((g6 2), .inl (cA9, 1201, .inl (fun _ => 0))), ((g3 8), .inr (7, [.ref (g3 4), .int 0, .int 0, .int 0, .ref (g10 4), .ref (g10 5), .ref (g10 6), .ref (g10 7), .ref (g10 8), .ref (g10 9), .int 0, .int 0, .int 0, .int 0, .null, .int 0, .int 0])), (q11, .inr (12, fsM g13)), ((g13 1), .inl (cA14, 1200, .inl (fun _ => 0))), ((g13 35), .inl (cA15, 6, .inl (fun _ => 0))), ((g13 36), .inl (cA16, 6, .inl (fun _ => 0))), ((g13 37), .inl (cA17, 6, .inl (fun _ => 0))), ((g13 48), .inl (cA18, 6, .inl (fun _ => 0)))]) (w1 := []) hP hD [0] [1, 2, 3, 4, 5, 6, 7, 8, 9, 10, 11, 12, 13] rfl rfl (by decide) (by decide) hk1 hFc hP1 hD1
  generalize H1 = H at hP hS ⊢
  have hP : va_P (dC, dI) vwCl [((g3 0), .inl (cA4, 1200, .inl (fun _ => 0))), ((g3 5), .inr (5, [.ref (g5 0), .ref (g5 1), .ref (g5 2), .ref (g5 3), .ref (g5 4), .int 0, .ref (g5 6), .ref (g5 7), .ref (g5 8), .int 0, .int 0, .int 0, .int 0, .int 0, .int 0, .ref (g5 15), .ref (g5 16), .int 0, .int 0])), ((g5 0), .inr (9, [.ref (g6 0), .ref (g6 1), .ref (g6 2), .int 0, .int 0, .int 0, .int 0])), ((g6 0), .inl (cA7, 1201, .inl (fun _ => 0))), ((g6 1), .inl (cA8, 1201, .inl (fun _ => 0))), ((g6 2), .inl (cA9, 1201, .inl (fun _ => 0))), ((g3 8), .inr (7, [.ref (g3 4), .int 0, .int 0, .int 0, .ref (g10 4), .ref (g10 5), .ref (g10 6), .ref (g10 7), .ref (g10 8), .ref (g10 9), .int 0, .int 0, .int 0, .int 0, .null, .int 0, .int 0])), (q11, .inr (12, fsM g13)), ((g13 1), .inl (cA14, 1200, .inl (fun _ => 0))), ((g13 35), .inl (cA15, 6, .inl (fun _ => 0))), ((g13 36), .inl (cA16, 6, .inl (fun _ => 0))), ((g13 37), .inl (cA17, 6, .inl (fun _ => 0))), ((g13 48), .inl (cA18, 6, .inl (fun _ => 0)))] H := hP
  have hD : va_D A [((g3 0), .inl (cA4, 1200, .inl (fun _ => 0))), ((g3 5), .inr (5, [.ref (g5 0), .ref (g5 1), .ref (g5 2), .ref (g5 3), .ref (g5 4), .int 0, .ref (g5 6), .ref (g5 7), .ref (g5 8), .int 0, .int 0, .int 0, .int 0, .int 0, .int 0, .ref (g5 15), .ref (g5 16), .int 0, .int 0])), ((g5 0), .inr (9, [.ref (g6 0), .ref (g6 1), .ref (g6 2), .int 0, .int 0, .int 0, .int 0])), ((g6 0), .inl (cA7, 1201, .inl (fun _ => 0))), ((g6 1), .inl (cA8, 1201, .inl (fun _ => 0))), ((g6 2), .inl (cA9, 1201, .inl (fun _ => 0))), ((g3 8), .inr (7, [.ref (g3 4), .int 0, .int 0, .int 0, .ref (g10 4), .ref (g10 5), .ref (g10 6), .ref (g10 7), .ref (g10 8), .ref (g10 9), .int 0, .int 0, .int 0, .int 0, .null, .int 0, .int 0])), (q11, .inr (12, fsM g13)), ((g13 1), .inl (cA14, 1200, .inl (fun _ => 0))), ((g13 35), .inl (cA15, 6, .inl (fun _ => 0))), ((g13 36), .inl (cA16, 6, .inl (fun _ => 0))), ((g13 37), .inl (cA17, 6, .inl (fun _ => 0))), ((g13 48), .inl (cA18, 6, .inl (fun _ => 0)))] := hD
  refine W.widen (k := 257) (n := 1146073) (by decide) (by decide) ?_
  try dsimp only at hw
  have hw_r5001 := hw
  refine lv_aload_n hx hb dL_law_192 rfl (lv_at hl 1 rfl) ?_
  refine lv_aload_n hx hb dL_law_193 rfl (lv_at hl 3 rfl) ?_
  refine lv_iload_n hx hb dL_law_194 rfl (lv_at hl 0 rfl) ?_
  refine lv_iconst (v := 1) hx hb dL_law_195 (by decide) ?_
  refine lv_iadd hx hb dL_law_196 ?_
  refine vx_topc (v := 1) (by decide) ?_
  refine va_sld hx hb hX hbl hbA hS (vx_in (by decide)) dL_law_197 ?_
  have hPc := hP.sub (ws' := [(q11, .inr (12, fsM g13))]) [7] rfl
  have hDc := hD.sub (ws' := [(q11, .inr (12, fsM g13))]) [7] (by decide) rfl
  have hKc := hK.sub (tys' := []) [] rfl
  have hFc := va_free (wc := [(q11, .inr (12, fsM g13))]) hD hS hA [7] rfl
  refine va_calli (va_runV (As := [.int (xs (1 : Int32).toNatClampNeg)]) (rest := [.int r5001]) ⟨hx, hb, hml, hown, hts⟩ (m_end l dC dI q11 g13 (xs (1 : Int32).toNatClampNeg) H.size ) (cwV 1 hts g_law_m_end_22 rfl rfl rfl (by decide +kernel) ⟨(Nat.le_of_ble_eq_true rfl), (Nat.le_of_ble_eq_true rfl)⟩) (vx_preV (ci := 12) (q0 := 0) hPc hKc hDc hN rfl rfl) rfl rfl hl.1 rfl (lv_room (Nat.le_of_ble_eq_true rfl)) dL_law_198 ⟨(Nat.le_of_ble_eq_true rfl), (Nat.le_of_ble_eq_true rfl)⟩) hS (fun q _ h => hFc q h) hFc (fun r5002 u t H1 locs ht hvm hw hB hz1 hk1 hS => ?_)
  obtain ⟨hP1, hK1, hD1⟩ := hB
  rw [ht] at hP1
  obtain ⟨hP, hD⟩ := va_join (wr := [((g3 0), .inl (cA4, 1200, .inl (fun _ => 0))), ((g3 5), .inr (5, [.ref (g5 0), .ref (g5 1), .ref (g5 2), .ref (g5 3), .ref (g5 4), .int 0, .ref (g5 6), .ref (g5 7), .ref (g5 8), .int 0, .int 0, .int 0, .int 0, .int 0, .int 0, .ref (g5 15), .ref (g5 16), .int 0, .int 0])), ((g5 0), .inr (9, [.ref (g6 0), .ref (g6 1), .ref (g6 2), .int 0, .int 0, .int 0, .int 0])), ((g6 0), .inl (cA7, 1201, .inl (fun _ => 0))), ((g6 1), .inl (cA8, 1201, .inl (fun _ => 0))), ((g6 2), .inl (cA9, 1201, .inl (fun _ => 0))), ((g3 8), .inr (7, [.ref (g3 4), .int 0, .int 0, .int 0, .ref (g10 4), .ref (g10 5), .ref (g10 6), .ref (g10 7), .ref (g10 8), .ref (g10 9), .int 0, .int 0, .int 0, .int 0, .null, .int 0, .int 0])), ((g13 1), .inl (cA14, 1200, .inl (fun _ => 0))), ((g13 35), .inl (cA15, 6, .inl (fun _ => 0))), ((g13 36), .inl (cA16, 6, .inl (fun _ => 0))), ((g13 37), .inl (cA17, 6, .inl (fun _ => 0))), ((g13 48), .inl (cA18, 6, .inl (fun _ => 0)))]) (w1 := []) hP hD [7] [0, 1, 2, 3, 4, 5, 6, 8, 9, 10, 11, 12] rfl rfl (by decide) (by decide) hk1 hFc hP1 hD1
  generalize H1 = H at hP hS ⊢
  have hP : va_P (dC, dI) vwCl [((g3 0), .inl (cA4, 1200, .inl (fun _ => 0))), ((g3 5), .inr (5, [.ref (g5 0), .ref (g5 1), .ref (g5 2), .ref (g5 3), .ref (g5 4), .int 0, .ref (g5 6), .ref (g5 7), .ref (g5 8), .int 0, .int 0, .int 0, .int 0, .int 0, .int 0, .ref (g5 15), .ref (g5 16), .int 0, .int 0])), ((g5 0), .inr (9, [.ref (g6 0), .ref (g6 1), .ref (g6 2), .int 0, .int 0, .int 0, .int 0])), ((g6 0), .inl (cA7, 1201, .inl (fun _ => 0))), ((g6 1), .inl (cA8, 1201, .inl (fun _ => 0))), ((g6 2), .inl (cA9, 1201, .inl (fun _ => 0))), ((g3 8), .inr (7, [.ref (g3 4), .int 0, .int 0, .int 0, .ref (g10 4), .ref (g10 5), .ref (g10 6), .ref (g10 7), .ref (g10 8), .ref (g10 9), .int 0, .int 0, .int 0, .int 0, .null, .int 0, .int 0])), ((g13 1), .inl (cA14, 1200, .inl (fun _ => 0))), ((g13 35), .inl (cA15, 6, .inl (fun _ => 0))), ((g13 36), .inl (cA16, 6, .inl (fun _ => 0))), ((g13 37), .inl (cA17, 6, .inl (fun _ => 0))), ((g13 48), .inl (cA18, 6, .inl (fun _ => 0)))] H := hP
  have hD : va_D A [((g3 0), .inl (cA4, 1200, .inl (fun _ => 0))), ((g3 5), .inr (5, [.ref (g5 0), .ref (g5 1), .ref (g5 2), .ref (g5 3), .ref (g5 4), .int 0, .ref (g5 6), .ref (g5 7), .ref (g5 8), .int 0, .int 0, .int 0, .int 0, .int 0, .int 0, .ref (g5 15), .ref (g5 16), .int 0, .int 0])), ((g5 0), .inr (9, [.ref (g6 0), .ref (g6 1), .ref (g6 2), .int 0, .int 0, .int 0, .int 0])), ((g6 0), .inl (cA7, 1201, .inl (fun _ => 0))), ((g6 1), .inl (cA8, 1201, .inl (fun _ => 0))), ((g6 2), .inl (cA9, 1201, .inl (fun _ => 0))), ((g3 8), .inr (7, [.ref (g3 4), .int 0, .int 0, .int 0, .ref (g10 4), .ref (g10 5), .ref (g10 6), .ref (g10 7), .ref (g10 8), .ref (g10 9), .int 0, .int 0, .int 0, .int 0, .null, .int 0, .int 0])), ((g13 1), .inl (cA14, 1200, .inl (fun _ => 0))), ((g13 35), .inl (cA15, 6, .inl (fun _ => 0))), ((g13 36), .inl (cA16, 6, .inl (fun _ => 0))), ((g13 37), .inl (cA17, 6, .inl (fun _ => 0))), ((g13 48), .inl (cA18, 6, .inl (fun _ => 0)))] := hD
  refine W.widen (k := 257) (n := 1146073) (by decide) (by decide) ?_
  try dsimp only at hw
  have hw_r5002 := hw
  refine lv_icmp_eq (tgt := 796) hx hb dL_law_201 (by decide) (fun _ => ?_) (fun h => absurd (hw_r5001.trans hw_r5002.symm) h)
  exact law_tail C0 hAe (Nat.le_of_ble_eq_true rfl) (Nat.le_of_ble_eq_true rfl) hS ls (lv_sub hl [0, 3] rfl)
set_option maxHeartbeats 4000000 in
set_option maxRecDepth 100000 in
theorem law_2 {p : Program} {l : Launch} {e : Env} {s : State} {m : MethodId} {below : List Frame} {meth : Method} {c : Code} {dC : Nat → ClassId} {dI : Nat → Nat → Nat} {b : Nat} {xs : Nat → Int32} {A : Nat → Prop} {q11 : Nat} {q1 : Nat} {g3 : Nat → Nat} {cA4 : ClassId} {g5 : Nat → Nat} {g6 : Nat → Nat} {cA7 : ClassId} {cA8 : ClassId} {cA9 : ClassId} {g10 : Nat → Nat} {g13 : Nat → Nat} {cA14 : ClassId} {cA15 : ClassId} {cA16 : ClassId} {cA17 : ClassId} {cA18 : ClassId} (C0 : lw_At p s m meth c b 7 xs) (hAe : A = fun q => s.heap.size ≤ q) (hN : nst s) {H : Heap} {locs : List Loc} (hK : va_K (dC, dI) vwCl [(cA4, .byte), (cA7, .int), (cA8, .int), (cA9, .int), (cA14, .byte), (cA15, .int), (cA16, .int), (cA17, .int), (cA18, .boolean)] s) (hP : va_P (dC, dI) vwCl [(q1, .inr (11, fsX g3)), ((g3 0), .inl (cA4, 1200, .inl (fun _ => 0))), ((g3 5), .inr (5, [.ref (g5 0), .ref (g5 1), .ref (g5 2), .ref (g5 3), .ref (g5 4), .int 0, .ref (g5 6), .ref (g5 7), .ref (g5 8), .int 0, .int 0, .int 0, .int 0, .int 0, .int 0, .ref (g5 15), .ref (g5 16), .int 0, .int 0])), ((g5 0), .inr (9, [.ref (g6 0), .ref (g6 1), .ref (g6 2), .int 0, .int 0, .int 0, .int 0])), ((g6 0), .inl (cA7, 1201, .inl (fun _ => 0))), ((g6 1), .inl (cA8, 1201, .inl (fun _ => 0))), ((g6 2), .inl (cA9, 1201, .inl (fun _ => 0))), ((g3 8), .inr (7, [.ref (g3 4), .int 0, .int 0, .int 0, .ref (g10 4), .ref (g10 5), .ref (g10 6), .ref (g10 7), .ref (g10 8), .ref (g10 9), .int 0, .int 0, .int 0, .int 0, .null, .int 0, .int 0])), (q11, .inr (12, fsM g13)), ((g13 1), .inl (cA14, 1200, .inl (fun _ => 0))), ((g13 35), .inl (cA15, 6, .inl (fun _ => 0))), ((g13 36), .inl (cA16, 6, .inl (fun _ => 0))), ((g13 37), .inl (cA17, 6, .inl (fun _ => 0))), ((g13 48), .inl (cA18, 6, .inl (fun _ => 0)))] H) (hD : va_D A [(q1, .inr (11, fsX g3)), ((g3 0), .inl (cA4, 1200, .inl (fun _ => 0))), ((g3 5), .inr (5, [.ref (g5 0), .ref (g5 1), .ref (g5 2), .ref (g5 3), .ref (g5 4), .int 0, .ref (g5 6), .ref (g5 7), .ref (g5 8), .int 0, .int 0, .int 0, .int 0, .int 0, .int 0, .ref (g5 15), .ref (g5 16), .int 0, .int 0])), ((g5 0), .inr (9, [.ref (g6 0), .ref (g6 1), .ref (g6 2), .int 0, .int 0, .int 0, .int 0])), ((g6 0), .inl (cA7, 1201, .inl (fun _ => 0))), ((g6 1), .inl (cA8, 1201, .inl (fun _ => 0))), ((g6 2), .inl (cA9, 1201, .inl (fun _ => 0))), ((g3 8), .inr (7, [.ref (g3 4), .int 0, .int 0, .int 0, .ref (g10 4), .ref (g10 5), .ref (g10 6), .ref (g10 7), .ref (g10 8), .ref (g10 9), .int 0, .int 0, .int 0, .int 0, .null, .int 0, .int 0])), (q11, .inr (12, fsM g13)), ((g13 1), .inl (cA14, 1200, .inl (fun _ => 0))), ((g13 35), .inl (cA15, 6, .inl (fun _ => 0))), ((g13 36), .inl (cA16, 6, .inl (fun _ => 0))), ((g13 37), .inl (cA17, 6, .inl (fun _ => 0))), ((g13 48), .inl (cA18, 6, .inl (fun _ => 0)))]) (hS : va_S A s.heap H locs) (ls : Array Slot) (hl : lv_has ls 4 [(3, .int 0), (2, .ref q11), (1, .ref q1), (0, .ref b)]) : W p l e room_1 s m #[Value.ref b] below meth c H locs 257 1146073 (lw_Z below #[Value.ref b] s) (F0 m 206 ls []) := by
  obtain ⟨hx, hb, hr, hml, hown, hts, hX, hbl, hlocks, hgv⟩ := id C0
  have hts : ∀ w ∈ w_law, w.before #[Value.ref b] s = true := fun w h => hts w (w_law_in w h)
  have hown : s.vm.findClass RL = some m.cls := hown
  have hA : ∀ q : Nat, s.heap.size ≤ q → A q := fun q h => by rw [hAe]; exact h
  have hbA : ¬ A b := by rw [hAe]; exact Nat.not_le.mpr hbl
  refine lv_aload_n hx hb dL_law_206 rfl (lv_at hl 2 rfl) ?_
  have hPc := hP.sub (ws' := [(q1, .inr (11, fsX g3)), ((g3 0), .inl (cA4, 1200, .inl (fun _ => 0))), ((g3 5), .inr (5, [.ref (g5 0), .ref (g5 1), .ref (g5 2), .ref (g5 3), .ref (g5 4), .int 0, .ref (g5 6), .ref (g5 7), .ref (g5 8), .int 0, .int 0, .int 0, .int 0, .int 0, .int 0, .ref (g5 15), .ref (g5 16), .int 0, .int 0])), ((g5 0), .inr (9, [.ref (g6 0), .ref (g6 1), .ref (g6 2), .int 0, .int 0, .int 0, .int 0])), ((g6 0), .inl (cA7, 1201, .inl (fun _ => 0))), ((g6 1), .inl (cA8, 1201, .inl (fun _ => 0))), ((g6 2), .inl (cA9, 1201, .inl (fun _ => 0))), ((g3 8), .inr (7, [.ref (g3 4), .int 0, .int 0, .int 0, .ref (g10 4), .ref (g10 5), .ref (g10 6), .ref (g10 7), .ref (g10 8), .ref (g10 9), .int 0, .int 0, .int 0, .int 0, .null, .int 0, .int 0]))]) [0, 1, 2, 3, 4, 5, 6, 7] rfl
  have hDc := hD.sub (ws' := [(q1, .inr (11, fsX g3)), ((g3 0), .inl (cA4, 1200, .inl (fun _ => 0))), ((g3 5), .inr (5, [.ref (g5 0), .ref (g5 1), .ref (g5 2), .ref (g5 3), .ref (g5 4), .int 0, .ref (g5 6), .ref (g5 7), .ref (g5 8), .int 0, .int 0, .int 0, .int 0, .int 0, .int 0, .ref (g5 15), .ref (g5 16), .int 0, .int 0])), ((g5 0), .inr (9, [.ref (g6 0), .ref (g6 1), .ref (g6 2), .int 0, .int 0, .int 0, .int 0])), ((g6 0), .inl (cA7, 1201, .inl (fun _ => 0))), ((g6 1), .inl (cA8, 1201, .inl (fun _ => 0))), ((g6 2), .inl (cA9, 1201, .inl (fun _ => 0))), ((g3 8), .inr (7, [.ref (g3 4), .int 0, .int 0, .int 0, .ref (g10 4), .ref (g10 5), .ref (g10 6), .ref (g10 7), .ref (g10 8), .ref (g10 9), .int 0, .int 0, .int 0, .int 0, .null, .int 0, .int 0]))]) [0, 1, 2, 3, 4, 5, 6, 7] (by decide) rfl
  have hKc := hK.sub (tys' := [(cA4, .byte), (cA7, .int), (cA8, .int), (cA9, .int)]) [0, 1, 2, 3] rfl
  have hFc := va_free (wc := [(q1, .inr (11, fsX g3)), ((g3 0), .inl (cA4, 1200, .inl (fun _ => 0))), ((g3 5), .inr (5, [.ref (g5 0), .ref (g5 1), .ref (g5 2), .ref (g5 3), .ref (g5 4), .int 0, .ref (g5 6), .ref (g5 7), .ref (g5 8), .int 0, .int 0, .int 0, .int 0, .int 0, .int 0, .ref (g5 15), .ref (g5 16), .int 0, .int 0])), ((g5 0), .inr (9, [.ref (g6 0), .ref (g6 1), .ref (g6 2), .int 0, .int 0, .int 0, .int 0])), ((g6 0), .inl (cA7, 1201, .inl (fun _ => 0))), ((g6 1), .inl (cA8, 1201, .inl (fun _ => 0))), ((g6 2), .inl (cA9, 1201, .inl (fun _ => 0))), ((g3 8), .inr (7, [.ref (g3 4), .int 0, .int 0, .int 0, .ref (g10 4), .ref (g10 5), .ref (g10 6), .ref (g10 7), .ref (g10 8), .ref (g10 9), .int 0, .int 0, .int 0, .int 0, .null, .int 0, .int 0]))]) hD hS hA [0, 1, 2, 3, 4, 5, 6, 7] rfl
  refine va_calli (va_runV (As := []) (rest := []) ⟨hx, hb, hml, hown, hts⟩ (x_read l dC dI q1 g3 g5 g6 g10 cA4 cA7 cA8 cA9 H.size ) (cwV 0 hts g_law_x_read_23 rfl rfl rfl (by decide +kernel) ⟨(Nat.le_of_ble_eq_true rfl), (Nat.le_of_ble_eq_true rfl)⟩) (vx_preV (ci := 11) (q0 := 0) hPc hKc hDc hN rfl rfl) rfl rfl hl.1 rfl (lv_room (Nat.le_of_ble_eq_true rfl)) dL_law_207 ⟨(Nat.le_of_ble_eq_true rfl), (Nat.le_of_ble_eq_true rfl)⟩) hS (fun q _ h => hFc q h) hFc (fun r5001 u t H1 locs ht hvm hw hB hz1 hk1 hS => ?_)
  obtain ⟨hP1, hK1, hD1⟩ := hB
  rw [ht] at hP1
  obtain ⟨hP, hD⟩ := va_join (wr := [(q11, .inr (12, fsM g13)), ((g13 1), .inl (cA14, 1200, .inl (fun _ => 0))), ((g13 35), .inl (cA15, 6, .inl (fun _ => 0))), ((g13 36), .inl (cA16, 6, .inl (fun _ => 0))), ((g13 37), .inl (cA17, 6, .inl (fun _ => 0))), ((g13 48), .inl (cA18, 6, .inl (fun _ => 0)))]) (w1 := []) hP hD [0, 1, 2, 3, 4, 5, 6, 7] [8, 9, 10, 11, 12, 13] rfl rfl (by decide) (by decide) hk1 hFc hP1 hD1
  generalize H1 = H at hP hS ⊢
  have hP : va_P (dC, dI) vwCl [(q11, .inr (12, fsM g13)), ((g13 1), .inl (cA14, 1200, .inl (fun _ => 0))), ((g13 35), .inl (cA15, 6, .inl (fun _ => 0))), ((g13 36), .inl (cA16, 6, .inl (fun _ => 0))), ((g13 37), .inl (cA17, 6, .inl (fun _ => 0))), ((g13 48), .inl (cA18, 6, .inl (fun _ => 0)))] H := hP
  have hD : va_D A [(q11, .inr (12, fsM g13)), ((g13 1), .inl (cA14, 1200, .inl (fun _ => 0))), ((g13 35), .inl (cA15, 6, .inl (fun _ => 0))), ((g13 36), .inl (cA16, 6, .inl (fun _ => 0))), ((g13 37), .inl (cA17, 6, .inl (fun _ => 0))), ((g13 48), .inl (cA18, 6, .inl (fun _ => 0)))] := hD
  refine W.widen (k := 257) (n := 1146073) (by decide) (by decide) ?_
  try dsimp only at hw
  subst hw
  refine lv_aload_n hx hb dL_law_210 rfl (lv_at hl 1 rfl) ?_
  have hPc := hP.sub (ws' := [(q11, .inr (12, fsM g13)), ((g13 35), .inl (cA15, 6, .inl (fun _ => 0))), ((g13 36), .inl (cA16, 6, .inl (fun _ => 0))), ((g13 37), .inl (cA17, 6, .inl (fun _ => 0))), ((g13 48), .inl (cA18, 6, .inl (fun _ => 0)))]) [0, 2, 3, 4, 5] rfl
  have hDc := hD.sub (ws' := [(q11, .inr (12, fsM g13)), ((g13 35), .inl (cA15, 6, .inl (fun _ => 0))), ((g13 36), .inl (cA16, 6, .inl (fun _ => 0))), ((g13 37), .inl (cA17, 6, .inl (fun _ => 0))), ((g13 48), .inl (cA18, 6, .inl (fun _ => 0)))]) [0, 2, 3, 4, 5] (by decide) rfl
  have hKc := hK.sub (tys' := [(cA15, .int), (cA16, .int), (cA17, .int), (cA18, .boolean)]) [5, 6, 7, 8] rfl
  have hFc := va_free (wc := [(q11, .inr (12, fsM g13)), ((g13 35), .inl (cA15, 6, .inl (fun _ => 0))), ((g13 36), .inl (cA16, 6, .inl (fun _ => 0))), ((g13 37), .inl (cA17, 6, .inl (fun _ => 0))), ((g13 48), .inl (cA18, 6, .inl (fun _ => 0)))]) hD hS hA [0, 2, 3, 4, 5] rfl
  refine va_calli (va_runV (As := []) (rest := [.int 0]) ⟨hx, hb, hml, hown, hts⟩ (m_read l dC dI q11 g13 cA15 cA16 cA17 cA18 (fun _ => 0) (fun _ => 0) (fun _ => 0) (fun _ => 0) H.size ) (cwV 0 hts g_law_m_read_27 rfl rfl rfl (by decide +kernel) ⟨(Nat.le_of_ble_eq_true rfl), (Nat.le_of_ble_eq_true rfl)⟩) (vx_preV (ci := 12) (q0 := 0) hPc hKc hDc hN rfl rfl) rfl rfl hl.1 rfl (lv_room (Nat.le_of_ble_eq_true rfl)) dL_law_211 ⟨(Nat.le_of_ble_eq_true rfl), (Nat.le_of_ble_eq_true rfl)⟩) hS (fun q _ h => hFc q h) hFc (fun r5002 u t H1 locs ht hvm hw hB hz1 hk1 hS => ?_)
  obtain ⟨hP1, hK1, hD1⟩ := hB
  rw [ht] at hP1
  obtain ⟨hP, hD⟩ := va_join (wr := [((g13 1), .inl (cA14, 1200, .inl (fun _ => 0)))]) (w1 := []) hP hD [0, 2, 3, 4, 5] [1] rfl rfl (by decide) (by decide) hk1 hFc hP1 hD1
  generalize H1 = H at hP hS ⊢
  have hP : va_P (dC, dI) vwCl [((g13 1), .inl (cA14, 1200, .inl (fun _ => 0)))] H := hP
  have hD : va_D A [((g13 1), .inl (cA14, 1200, .inl (fun _ => 0)))] := hD
  refine W.widen (k := 257) (n := 1146073) (by decide) (by decide) ?_
  try dsimp only at hw
  subst hw
  refine lv_icmp_eq (tgt := 796) hx hb dL_law_214 (by decide) (fun _ => ?_) (fun h => absurd (by decide) h)
  exact law_tail C0 hAe (Nat.le_of_ble_eq_true rfl) (Nat.le_of_ble_eq_true rfl) hS ls (lv_sub hl [0, 3] rfl)
set_option maxHeartbeats 4000000 in
set_option maxRecDepth 100000 in
theorem law_3 {p : Program} {l : Launch} {e : Env} {s : State} {m : MethodId} {below : List Frame} {meth : Method} {c : Code} {dC : Nat → ClassId} {dI : Nat → Nat → Nat} {b : Nat} {xs : Nat → Int32} {A : Nat → Prop} {q11 : Nat} {q1 : Nat} {g3 : Nat → Nat} {cA4 : ClassId} {g5 : Nat → Nat} {g6 : Nat → Nat} {cA7 : ClassId} {cA8 : ClassId} {cA9 : ClassId} {g10 : Nat → Nat} {g13 : Nat → Nat} {cA14 : ClassId} {cA15 : ClassId} {cA16 : ClassId} {cA17 : ClassId} {cA18 : ClassId} (C0 : lw_At p s m meth c b 7 xs) (hAe : A = fun q => s.heap.size ≤ q) (hN : nst s) {H : Heap} {locs : List Loc} (hK : va_K (dC, dI) vwCl [(cA4, .byte), (cA7, .int), (cA8, .int), (cA9, .int), (cA14, .byte), (cA15, .int), (cA16, .int), (cA17, .int), (cA18, .boolean)] s) (hP : va_P (dC, dI) vwCl [(q1, .inr (11, fsX g3)), ((g3 0), .inl (cA4, 1200, .inl (fun _ => 0))), ((g3 5), .inr (5, [.ref (g5 0), .ref (g5 1), .ref (g5 2), .ref (g5 3), .ref (g5 4), .int 0, .ref (g5 6), .ref (g5 7), .ref (g5 8), .int 0, .int 0, .int 0, .int 0, .int 0, .int 0, .ref (g5 15), .ref (g5 16), .int 0, .int 0])), ((g5 0), .inr (9, [.ref (g6 0), .ref (g6 1), .ref (g6 2), .int 0, .int 0, .int 0, .int 0])), ((g6 0), .inl (cA7, 1201, .inl (fun _ => 0))), ((g6 1), .inl (cA8, 1201, .inl (fun _ => 0))), ((g6 2), .inl (cA9, 1201, .inl (fun _ => 0))), ((g3 8), .inr (7, [.ref (g3 4), .int 0, .int 0, .int 0, .ref (g10 4), .ref (g10 5), .ref (g10 6), .ref (g10 7), .ref (g10 8), .ref (g10 9), .int 0, .int 0, .int 0, .int 0, .null, .int 0, .int 0])), (q11, .inr (12, fsM g13)), ((g13 1), .inl (cA14, 1200, .inl (fun _ => 0))), ((g13 35), .inl (cA15, 6, .inl (fun _ => 0))), ((g13 36), .inl (cA16, 6, .inl (fun _ => 0))), ((g13 37), .inl (cA17, 6, .inl (fun _ => 0))), ((g13 48), .inl (cA18, 6, .inl (fun _ => 0)))] H) (hD : va_D A [(q1, .inr (11, fsX g3)), ((g3 0), .inl (cA4, 1200, .inl (fun _ => 0))), ((g3 5), .inr (5, [.ref (g5 0), .ref (g5 1), .ref (g5 2), .ref (g5 3), .ref (g5 4), .int 0, .ref (g5 6), .ref (g5 7), .ref (g5 8), .int 0, .int 0, .int 0, .int 0, .int 0, .int 0, .ref (g5 15), .ref (g5 16), .int 0, .int 0])), ((g5 0), .inr (9, [.ref (g6 0), .ref (g6 1), .ref (g6 2), .int 0, .int 0, .int 0, .int 0])), ((g6 0), .inl (cA7, 1201, .inl (fun _ => 0))), ((g6 1), .inl (cA8, 1201, .inl (fun _ => 0))), ((g6 2), .inl (cA9, 1201, .inl (fun _ => 0))), ((g3 8), .inr (7, [.ref (g3 4), .int 0, .int 0, .int 0, .ref (g10 4), .ref (g10 5), .ref (g10 6), .ref (g10 7), .ref (g10 8), .ref (g10 9), .int 0, .int 0, .int 0, .int 0, .null, .int 0, .int 0])), (q11, .inr (12, fsM g13)), ((g13 1), .inl (cA14, 1200, .inl (fun _ => 0))), ((g13 35), .inl (cA15, 6, .inl (fun _ => 0))), ((g13 36), .inl (cA16, 6, .inl (fun _ => 0))), ((g13 37), .inl (cA17, 6, .inl (fun _ => 0))), ((g13 48), .inl (cA18, 6, .inl (fun _ => 0)))]) (hS : va_S A s.heap H locs) (ls : Array Slot) (hl : lv_has ls 4 [(3, .int 0), (2, .ref q11), (1, .ref q1), (0, .ref b)]) : W p l e room_1 s m #[Value.ref b] below meth c H locs 257 1146073 (lw_Z below #[Value.ref b] s) (F0 m 219 ls []) := by
  obtain ⟨hx, hb, hr, hml, hown, hts, hX, hbl, hlocks, hgv⟩ := id C0
  have hts : ∀ w ∈ w_law, w.before #[Value.ref b] s = true := fun w h => hts w (w_law_in w h)
  have hown : s.vm.findClass RL = some m.cls := hown
  have hA : ∀ q : Nat, s.heap.size ≤ q → A q := fun q h => by rw [hAe]; exact h
  have hbA : ¬ A b := by rw [hAe]; exact Nat.not_le.mpr hbl
  refine lv_aload_n hx hb dL_law_219 rfl (lv_at hl 2 rfl) ?_
  refine lv_aload_n hx hb dL_law_220 rfl (lv_at hl 3 rfl) ?_
  refine lv_iload_n hx hb dL_law_221 rfl (lv_at hl 0 rfl) ?_
  refine lv_iconst (v := 1) hx hb dL_law_222 (by decide) ?_
  refine lv_iadd hx hb dL_law_223 ?_
  refine vx_topc (v := 1) (by decide) ?_
  refine va_sld hx hb hX hbl hbA hS (vx_in (by decide)) dL_law_224 ?_
  have hPc := hP.sub (ws' := [(q1, .inr (11, fsX g3))]) [0] rfl
  have hDc := hD.sub (ws' := [(q1, .inr (11, fsX g3))]) [0] (by decide) rfl
  have hKc := hK.sub (tys' := []) [] rfl
  have hFc := va_free (wc := [(q1, .inr (11, fsX g3))]) hD hS hA [0] rfl
  refine va_calli (va_runV (As := [.int (xs (1 : Int32).toNatClampNeg)]) (rest := []) ⟨hx, hb, hml, hown, hts⟩ (x_fault l dC dI q1 g3 (xs (1 : Int32).toNatClampNeg) H.size ) (cwV 1 hts g_law_x_fault_28 rfl rfl rfl (by decide +kernel) ⟨(Nat.le_of_ble_eq_true rfl), (Nat.le_of_ble_eq_true rfl)⟩) (vx_preV (ci := 11) (q0 := 0) hPc hKc hDc hN rfl rfl) rfl rfl hl.1 rfl (lv_room (Nat.le_of_ble_eq_true rfl)) dL_law_225 ⟨(Nat.le_of_ble_eq_true rfl), (Nat.le_of_ble_eq_true rfl)⟩) hS (fun q _ h => hFc q h) hFc (fun r5001 u t H1 locs ht hvm hw hB hz1 hk1 hS => ?_)
  obtain ⟨hP1, hK1, hD1⟩ := hB
  rw [ht] at hP1
  obtain ⟨hP, hD⟩ := va_join (wr := [((g3 0), .inl (cA4, 1200, .inl (fun _ => 0))), ((g3 5), .inr (5, [.ref (g5 0), .ref (g5 1), .ref (g5 2), .ref (g5 3), .ref (g5 4), .int 0, .ref (g5 6), .ref (g5 7), .ref (g5 8), .int 0, .int 0, .int 0, .int 0, .int 0, .int 0, .ref (g5 15), .ref (g5 16), .int 0, .int 0])), ((g5 0), .inr (9, [.ref (g6 0), .ref (g6 1), .ref (g6 2), .int 0, .int 0, .int 0, .int 0])), ((g6 0), .inl (cA7, 1201, .inl (fun _ => 0))), ((g6 1), .inl (cA8, 1201, .inl (fun _ => 0))), ((g6 2), .inl (cA9, 1201, .inl (fun _ => 0))), ((g3 8), .inr (7, [.ref (g3 4), .int 0, .int 0, .int 0, .ref (g10 4), .ref (g10 5), .ref (g10 6), .ref (g10 7), .ref (g10 8), .ref (g10 9), .int 0, .int 0, .int 0, .int 0, .null, .int 0, .int 0])), (q11, .inr (12, fsM g13)), ((g13 1), .inl (cA14, 1200, .inl (fun _ => 0))), ((g13 35), .inl (cA15, 6, .inl (fun _ => 0))), ((g13 36), .inl (cA16, 6, .inl (fun _ => 0))), ((g13 37), .inl (cA17, 6, .inl (fun _ => 0))), ((g13 48), .inl (cA18, 6, .inl (fun _ => 0)))]) (w1 := []) hP hD [0] [1, 2, 3, 4, 5, 6, 7, 8, 9, 10, 11, 12, 13] rfl rfl (by decide) (by decide) hk1 hFc hP1 hD1
  generalize H1 = H at hP hS ⊢
  have hP : va_P (dC, dI) vwCl [((g3 0), .inl (cA4, 1200, .inl (fun _ => 0))), ((g3 5), .inr (5, [.ref (g5 0), .ref (g5 1), .ref (g5 2), .ref (g5 3), .ref (g5 4), .int 0, .ref (g5 6), .ref (g5 7), .ref (g5 8), .int 0, .int 0, .int 0, .int 0, .int 0, .int 0, .ref (g5 15), .ref (g5 16), .int 0, .int 0])), ((g5 0), .inr (9, [.ref (g6 0), .ref (g6 1), .ref (g6 2), .int 0, .int 0, .int 0, .int 0])), ((g6 0), .inl (cA7, 1201, .inl (fun _ => 0))), ((g6 1), .inl (cA8, 1201, .inl (fun _ => 0))), ((g6 2), .inl (cA9, 1201, .inl (fun _ => 0))), ((g3 8), .inr (7, [.ref (g3 4), .int 0, .int 0, .int 0, .ref (g10 4), .ref (g10 5), .ref (g10 6), .ref (g10 7), .ref (g10 8), .ref (g10 9), .int 0, .int 0, .int 0, .int 0, .null, .int 0, .int 0])), (q11, .inr (12, fsM g13)), ((g13 1), .inl (cA14, 1200, .inl (fun _ => 0))), ((g13 35), .inl (cA15, 6, .inl (fun _ => 0))), ((g13 36), .inl (cA16, 6, .inl (fun _ => 0))), ((g13 37), .inl (cA17, 6, .inl (fun _ => 0))), ((g13 48), .inl (cA18, 6, .inl (fun _ => 0)))] H := hP
  have hD : va_D A [((g3 0), .inl (cA4, 1200, .inl (fun _ => 0))), ((g3 5), .inr (5, [.ref (g5 0), .ref (g5 1), .ref (g5 2), .ref (g5 3), .ref (g5 4), .int 0, .ref (g5 6), .ref (g5 7), .ref (g5 8), .int 0, .int 0, .int 0, .int 0, .int 0, .int 0, .ref (g5 15), .ref (g5 16), .int 0, .int 0])), ((g5 0), .inr (9, [.ref (g6 0), .ref (g6 1), .ref (g6 2), .int 0, .int 0, .int 0, .int 0])), ((g6 0), .inl (cA7, 1201, .inl (fun _ => 0))), ((g6 1), .inl (cA8, 1201, .inl (fun _ => 0))), ((g6 2), .inl (cA9, 1201, .inl (fun _ => 0))), ((g3 8), .inr (7, [.ref (g3 4), .int 0, .int 0, .int 0, .ref (g10 4), .ref (g10 5), .ref (g10 6), .ref (g10 7), .ref (g10 8), .ref (g10 9), .int 0, .int 0, .int 0, .int 0, .null, .int 0, .int 0])), (q11, .inr (12, fsM g13)), ((g13 1), .inl (cA14, 1200, .inl (fun _ => 0))), ((g13 35), .inl (cA15, 6, .inl (fun _ => 0))), ((g13 36), .inl (cA16, 6, .inl (fun _ => 0))), ((g13 37), .inl (cA17, 6, .inl (fun _ => 0))), ((g13 48), .inl (cA18, 6, .inl (fun _ => 0)))] := hD
  refine W.widen (k := 257) (n := 1146073) (by decide) (by decide) ?_
  try dsimp only at hw
  have hw_r5001 := hw
  refine lv_aload_n hx hb dL_law_228 rfl (lv_at hl 1 rfl) ?_
  refine lv_aload_n hx hb dL_law_229 rfl (lv_at hl 3 rfl) ?_
  refine lv_iload_n hx hb dL_law_230 rfl (lv_at hl 0 rfl) ?_
  refine lv_iconst (v := 1) hx hb dL_law_231 (by decide) ?_
  refine lv_iadd hx hb dL_law_232 ?_
  refine vx_topc (v := 1) (by decide) ?_
  refine va_sld hx hb hX hbl hbA hS (vx_in (by decide)) dL_law_233 ?_
  have hPc := hP.sub (ws' := [(q11, .inr (12, fsM g13))]) [7] rfl
  have hDc := hD.sub (ws' := [(q11, .inr (12, fsM g13))]) [7] (by decide) rfl
  have hKc := hK.sub (tys' := []) [] rfl
  have hFc := va_free (wc := [(q11, .inr (12, fsM g13))]) hD hS hA [7] rfl
  refine va_calli (va_runV (As := [.int (xs (1 : Int32).toNatClampNeg)]) (rest := [.int r5001]) ⟨hx, hb, hml, hown, hts⟩ (m_fault l dC dI q11 g13 (xs (1 : Int32).toNatClampNeg) H.size ) (cwV 1 hts g_law_m_fault_31 rfl rfl rfl (by decide +kernel) ⟨(Nat.le_of_ble_eq_true rfl), (Nat.le_of_ble_eq_true rfl)⟩) (vx_preV (ci := 12) (q0 := 0) hPc hKc hDc hN rfl rfl) rfl rfl hl.1 rfl (lv_room (Nat.le_of_ble_eq_true rfl)) dL_law_234 ⟨(Nat.le_of_ble_eq_true rfl), (Nat.le_of_ble_eq_true rfl)⟩) hS (fun q _ h => hFc q h) hFc (fun r5002 u t H1 locs ht hvm hw hB hz1 hk1 hS => ?_)
  obtain ⟨hP1, hK1, hD1⟩ := hB
  rw [ht] at hP1
  obtain ⟨hP, hD⟩ := va_join (wr := [((g3 0), .inl (cA4, 1200, .inl (fun _ => 0))), ((g3 5), .inr (5, [.ref (g5 0), .ref (g5 1), .ref (g5 2), .ref (g5 3), .ref (g5 4), .int 0, .ref (g5 6), .ref (g5 7), .ref (g5 8), .int 0, .int 0, .int 0, .int 0, .int 0, .int 0, .ref (g5 15), .ref (g5 16), .int 0, .int 0])), ((g5 0), .inr (9, [.ref (g6 0), .ref (g6 1), .ref (g6 2), .int 0, .int 0, .int 0, .int 0])), ((g6 0), .inl (cA7, 1201, .inl (fun _ => 0))), ((g6 1), .inl (cA8, 1201, .inl (fun _ => 0))), ((g6 2), .inl (cA9, 1201, .inl (fun _ => 0))), ((g3 8), .inr (7, [.ref (g3 4), .int 0, .int 0, .int 0, .ref (g10 4), .ref (g10 5), .ref (g10 6), .ref (g10 7), .ref (g10 8), .ref (g10 9), .int 0, .int 0, .int 0, .int 0, .null, .int 0, .int 0])), ((g13 1), .inl (cA14, 1200, .inl (fun _ => 0))), ((g13 35), .inl (cA15, 6, .inl (fun _ => 0))), ((g13 36), .inl (cA16, 6, .inl (fun _ => 0))), ((g13 37), .inl (cA17, 6, .inl (fun _ => 0))), ((g13 48), .inl (cA18, 6, .inl (fun _ => 0)))]) (w1 := []) hP hD [7] [0, 1, 2, 3, 4, 5, 6, 8, 9, 10, 11, 12] rfl rfl (by decide) (by decide) hk1 hFc hP1 hD1
  generalize H1 = H at hP hS ⊢
  have hP : va_P (dC, dI) vwCl [((g3 0), .inl (cA4, 1200, .inl (fun _ => 0))), ((g3 5), .inr (5, [.ref (g5 0), .ref (g5 1), .ref (g5 2), .ref (g5 3), .ref (g5 4), .int 0, .ref (g5 6), .ref (g5 7), .ref (g5 8), .int 0, .int 0, .int 0, .int 0, .int 0, .int 0, .ref (g5 15), .ref (g5 16), .int 0, .int 0])), ((g5 0), .inr (9, [.ref (g6 0), .ref (g6 1), .ref (g6 2), .int 0, .int 0, .int 0, .int 0])), ((g6 0), .inl (cA7, 1201, .inl (fun _ => 0))), ((g6 1), .inl (cA8, 1201, .inl (fun _ => 0))), ((g6 2), .inl (cA9, 1201, .inl (fun _ => 0))), ((g3 8), .inr (7, [.ref (g3 4), .int 0, .int 0, .int 0, .ref (g10 4), .ref (g10 5), .ref (g10 6), .ref (g10 7), .ref (g10 8), .ref (g10 9), .int 0, .int 0, .int 0, .int 0, .null, .int 0, .int 0])), ((g13 1), .inl (cA14, 1200, .inl (fun _ => 0))), ((g13 35), .inl (cA15, 6, .inl (fun _ => 0))), ((g13 36), .inl (cA16, 6, .inl (fun _ => 0))), ((g13 37), .inl (cA17, 6, .inl (fun _ => 0))), ((g13 48), .inl (cA18, 6, .inl (fun _ => 0)))] H := hP
  have hD : va_D A [((g3 0), .inl (cA4, 1200, .inl (fun _ => 0))), ((g3 5), .inr (5, [.ref (g5 0), .ref (g5 1), .ref (g5 2), .ref (g5 3), .ref (g5 4), .int 0, .ref (g5 6), .ref (g5 7), .ref (g5 8), .int 0, .int 0, .int 0, .int 0, .int 0, .int 0, .ref (g5 15), .ref (g5 16), .int 0, .int 0])), ((g5 0), .inr (9, [.ref (g6 0), .ref (g6 1), .ref (g6 2), .int 0, .int 0, .int 0, .int 0])), ((g6 0), .inl (cA7, 1201, .inl (fun _ => 0))), ((g6 1), .inl (cA8, 1201, .inl (fun _ => 0))), ((g6 2), .inl (cA9, 1201, .inl (fun _ => 0))), ((g3 8), .inr (7, [.ref (g3 4), .int 0, .int 0, .int 0, .ref (g10 4), .ref (g10 5), .ref (g10 6), .ref (g10 7), .ref (g10 8), .ref (g10 9), .int 0, .int 0, .int 0, .int 0, .null, .int 0, .int 0])), ((g13 1), .inl (cA14, 1200, .inl (fun _ => 0))), ((g13 35), .inl (cA15, 6, .inl (fun _ => 0))), ((g13 36), .inl (cA16, 6, .inl (fun _ => 0))), ((g13 37), .inl (cA17, 6, .inl (fun _ => 0))), ((g13 48), .inl (cA18, 6, .inl (fun _ => 0)))] := hD
  refine W.widen (k := 257) (n := 1146073) (by decide) (by decide) ?_
  try dsimp only at hw
  have hw_r5002 := hw
  refine lv_icmp_eq (tgt := 796) hx hb dL_law_237 (by decide) (fun _ => ?_) (fun h => absurd (hw_r5001.trans hw_r5002.symm) h)
  exact law_tail C0 hAe (Nat.le_of_ble_eq_true rfl) (Nat.le_of_ble_eq_true rfl) hS ls (lv_sub hl [0, 3] rfl)
set_option maxHeartbeats 4000000 in
set_option maxRecDepth 100000 in
theorem law_4 {p : Program} {l : Launch} {e : Env} {s : State} {m : MethodId} {below : List Frame} {meth : Method} {c : Code} {dC : Nat → ClassId} {dI : Nat → Nat → Nat} {b : Nat} {xs : Nat → Int32} {A : Nat → Prop} {q11 : Nat} {q1 : Nat} {g3 : Nat → Nat} {cA4 : ClassId} {g5 : Nat → Nat} {g6 : Nat → Nat} {cA7 : ClassId} {cA8 : ClassId} {cA9 : ClassId} {g10 : Nat → Nat} {g13 : Nat → Nat} {cA14 : ClassId} {cA15 : ClassId} {cA16 : ClassId} {cA17 : ClassId} {cA18 : ClassId} (C0 : lw_At p s m meth c b 7 xs) (hAe : A = fun q => s.heap.size ≤ q) (hN : nst s) {H : Heap} {locs : List Loc} (hK : va_K (dC, dI) vwCl [(cA4, .byte), (cA7, .int), (cA8, .int), (cA9, .int), (cA14, .byte), (cA15, .int), (cA16, .int), (cA17, .int), (cA18, .boolean)] s) (hP : va_P (dC, dI) vwCl [(q1, .inr (11, fsX g3)), ((g3 0), .inl (cA4, 1200, .inl (fun _ => 0))), ((g3 5), .inr (5, [.ref (g5 0), .ref (g5 1), .ref (g5 2), .ref (g5 3), .ref (g5 4), .int 0, .ref (g5 6), .ref (g5 7), .ref (g5 8), .int 0, .int 0, .int 0, .int 0, .int 0, .int 0, .ref (g5 15), .ref (g5 16), .int 0, .int 0])), ((g5 0), .inr (9, [.ref (g6 0), .ref (g6 1), .ref (g6 2), .int 0, .int 0, .int 0, .int 0])), ((g6 0), .inl (cA7, 1201, .inl (fun _ => 0))), ((g6 1), .inl (cA8, 1201, .inl (fun _ => 0))), ((g6 2), .inl (cA9, 1201, .inl (fun _ => 0))), ((g3 8), .inr (7, [.ref (g3 4), .int 0, .int 0, .int 0, .ref (g10 4), .ref (g10 5), .ref (g10 6), .ref (g10 7), .ref (g10 8), .ref (g10 9), .int 0, .int 0, .int 0, .int 0, .null, .int 0, .int 0])), (q11, .inr (12, fsM g13)), ((g13 1), .inl (cA14, 1200, .inl (fun _ => 0))), ((g13 35), .inl (cA15, 6, .inl (fun _ => 0))), ((g13 36), .inl (cA16, 6, .inl (fun _ => 0))), ((g13 37), .inl (cA17, 6, .inl (fun _ => 0))), ((g13 48), .inl (cA18, 6, .inl (fun _ => 0)))] H) (hD : va_D A [(q1, .inr (11, fsX g3)), ((g3 0), .inl (cA4, 1200, .inl (fun _ => 0))), ((g3 5), .inr (5, [.ref (g5 0), .ref (g5 1), .ref (g5 2), .ref (g5 3), .ref (g5 4), .int 0, .ref (g5 6), .ref (g5 7), .ref (g5 8), .int 0, .int 0, .int 0, .int 0, .int 0, .int 0, .ref (g5 15), .ref (g5 16), .int 0, .int 0])), ((g5 0), .inr (9, [.ref (g6 0), .ref (g6 1), .ref (g6 2), .int 0, .int 0, .int 0, .int 0])), ((g6 0), .inl (cA7, 1201, .inl (fun _ => 0))), ((g6 1), .inl (cA8, 1201, .inl (fun _ => 0))), ((g6 2), .inl (cA9, 1201, .inl (fun _ => 0))), ((g3 8), .inr (7, [.ref (g3 4), .int 0, .int 0, .int 0, .ref (g10 4), .ref (g10 5), .ref (g10 6), .ref (g10 7), .ref (g10 8), .ref (g10 9), .int 0, .int 0, .int 0, .int 0, .null, .int 0, .int 0])), (q11, .inr (12, fsM g13)), ((g13 1), .inl (cA14, 1200, .inl (fun _ => 0))), ((g13 35), .inl (cA15, 6, .inl (fun _ => 0))), ((g13 36), .inl (cA16, 6, .inl (fun _ => 0))), ((g13 37), .inl (cA17, 6, .inl (fun _ => 0))), ((g13 48), .inl (cA18, 6, .inl (fun _ => 0)))]) (hS : va_S A s.heap H locs) (ls : Array Slot) (hl : lv_has ls 4 [(3, .int 0), (2, .ref q11), (1, .ref q1), (0, .ref b)]) : W p l e room_1 s m #[Value.ref b] below meth c H locs 257 1146073 (lw_Z below #[Value.ref b] s) (F0 m 242 ls []) := by
  obtain ⟨hx, hb, hr, hml, hown, hts, hX, hbl, hlocks, hgv⟩ := id C0
  have hts : ∀ w ∈ w_law, w.before #[Value.ref b] s = true := fun w h => hts w (w_law_in w h)
  have hown : s.vm.findClass RL = some m.cls := hown
  have hA : ∀ q : Nat, s.heap.size ≤ q → A q := fun q h => by rw [hAe]; exact h
  have hbA : ¬ A b := by rw [hAe]; exact Nat.not_le.mpr hbl
  refine lv_aload_n hx hb dL_law_242 rfl (lv_at hl 2 rfl) ?_
  refine lv_aload_n hx hb dL_law_243 rfl (lv_at hl 3 rfl) ?_
  refine lv_iload_n hx hb dL_law_244 rfl (lv_at hl 0 rfl) ?_
  refine lv_iconst (v := 1) hx hb dL_law_245 (by decide) ?_
  refine lv_iadd hx hb dL_law_246 ?_
  refine vx_topc (v := 1) (by decide) ?_
  refine va_sld hx hb hX hbl hbA hS (vx_in (by decide)) dL_law_247 ?_
  refine lv_aload_n hx hb dL_law_248 rfl (lv_at hl 3 rfl) ?_
  refine lv_iload_n hx hb dL_law_249 rfl (lv_at hl 0 rfl) ?_
  refine lv_iconst (v := 2) hx hb dL_law_250 (by decide) ?_
  refine lv_iadd hx hb dL_law_251 ?_
  refine vx_topc (v := 2) (by decide) ?_
  refine va_sld hx hb hX hbl hbA hS (vx_in (by decide)) dL_law_252 ?_
  have hPc := hP.sub (ws' := [(q1, .inr (11, fsX g3))]) [0] rfl
  have hDc := hD.sub (ws' := [(q1, .inr (11, fsX g3))]) [0] (by decide) rfl
  have hKc := hK.sub (tys' := []) [] rfl
  have hFc := va_free (wc := [(q1, .inr (11, fsX g3))]) hD hS hA [0] rfl
  refine va_calli (va_runV (As := [.int (xs (1 : Int32).toNatClampNeg), .int (xs (2 : Int32).toNatClampNeg)]) (rest := []) ⟨hx, hb, hml, hown, hts⟩ (x_routine l dC dI q1 g3 (xs (1 : Int32).toNatClampNeg) (xs (2 : Int32).toNatClampNeg) H.size ) (cwV 2 hts g_law_x_routine_32 rfl rfl rfl (by decide +kernel) ⟨(Nat.le_of_ble_eq_true rfl), (Nat.le_of_ble_eq_true rfl)⟩) (vx_preV (ci := 11) (q0 := 0) hPc hKc hDc hN rfl rfl) rfl rfl hl.1 rfl (lv_room (Nat.le_of_ble_eq_true rfl)) dL_law_253 ⟨(Nat.le_of_ble_eq_true rfl), (Nat.le_of_ble_eq_true rfl)⟩) hS (fun q _ h => hFc q h) hFc (fun r5001 u t H1 locs ht hvm hw hB hz1 hk1 hS => ?_)
  obtain ⟨hP1, hK1, hD1⟩ := hB
  rw [ht] at hP1
  obtain ⟨hP, hD⟩ := va_join (wr := [((g3 0), .inl (cA4, 1200, .inl (fun _ => 0))), ((g3 5), .inr (5, [.ref (g5 0), .ref (g5 1), .ref (g5 2), .ref (g5 3), .ref (g5 4), .int 0, .ref (g5 6), .ref (g5 7), .ref (g5 8), .int 0, .int 0, .int 0, .int 0, .int 0, .int 0, .ref (g5 15), .ref (g5 16), .int 0, .int 0])), ((g5 0), .inr (9, [.ref (g6 0), .ref (g6 1), .ref (g6 2), .int 0, .int 0, .int 0, .int 0])), ((g6 0), .inl (cA7, 1201, .inl (fun _ => 0))), ((g6 1), .inl (cA8, 1201, .inl (fun _ => 0))), ((g6 2), .inl (cA9, 1201, .inl (fun _ => 0))), ((g3 8), .inr (7, [.ref (g3 4), .int 0, .int 0, .int 0, .ref (g10 4), .ref (g10 5), .ref (g10 6), .ref (g10 7), .ref (g10 8), .ref (g10 9), .int 0, .int 0, .int 0, .int 0, .null, .int 0, .int 0])), (q11, .inr (12, fsM g13)), ((g13 1), .inl (cA14, 1200, .inl (fun _ => 0))), ((g13 35), .inl (cA15, 6, .inl (fun _ => 0))), ((g13 36), .inl (cA16, 6, .inl (fun _ => 0))), ((g13 37), .inl (cA17, 6, .inl (fun _ => 0))), ((g13 48), .inl (cA18, 6, .inl (fun _ => 0)))]) (w1 := []) hP hD [0] [1, 2, 3, 4, 5, 6, 7, 8, 9, 10, 11, 12, 13] rfl rfl (by decide) (by decide) hk1 hFc hP1 hD1
  generalize H1 = H at hP hS ⊢
  have hP : va_P (dC, dI) vwCl [((g3 0), .inl (cA4, 1200, .inl (fun _ => 0))), ((g3 5), .inr (5, [.ref (g5 0), .ref (g5 1), .ref (g5 2), .ref (g5 3), .ref (g5 4), .int 0, .ref (g5 6), .ref (g5 7), .ref (g5 8), .int 0, .int 0, .int 0, .int 0, .int 0, .int 0, .ref (g5 15), .ref (g5 16), .int 0, .int 0])), ((g5 0), .inr (9, [.ref (g6 0), .ref (g6 1), .ref (g6 2), .int 0, .int 0, .int 0, .int 0])), ((g6 0), .inl (cA7, 1201, .inl (fun _ => 0))), ((g6 1), .inl (cA8, 1201, .inl (fun _ => 0))), ((g6 2), .inl (cA9, 1201, .inl (fun _ => 0))), ((g3 8), .inr (7, [.ref (g3 4), .int 0, .int 0, .int 0, .ref (g10 4), .ref (g10 5), .ref (g10 6), .ref (g10 7), .ref (g10 8), .ref (g10 9), .int 0, .int 0, .int 0, .int 0, .null, .int 0, .int 0])), (q11, .inr (12, fsM g13)), ((g13 1), .inl (cA14, 1200, .inl (fun _ => 0))), ((g13 35), .inl (cA15, 6, .inl (fun _ => 0))), ((g13 36), .inl (cA16, 6, .inl (fun _ => 0))), ((g13 37), .inl (cA17, 6, .inl (fun _ => 0))), ((g13 48), .inl (cA18, 6, .inl (fun _ => 0)))] H := hP
  have hD : va_D A [((g3 0), .inl (cA4, 1200, .inl (fun _ => 0))), ((g3 5), .inr (5, [.ref (g5 0), .ref (g5 1), .ref (g5 2), .ref (g5 3), .ref (g5 4), .int 0, .ref (g5 6), .ref (g5 7), .ref (g5 8), .int 0, .int 0, .int 0, .int 0, .int 0, .int 0, .ref (g5 15), .ref (g5 16), .int 0, .int 0])), ((g5 0), .inr (9, [.ref (g6 0), .ref (g6 1), .ref (g6 2), .int 0, .int 0, .int 0, .int 0])), ((g6 0), .inl (cA7, 1201, .inl (fun _ => 0))), ((g6 1), .inl (cA8, 1201, .inl (fun _ => 0))), ((g6 2), .inl (cA9, 1201, .inl (fun _ => 0))), ((g3 8), .inr (7, [.ref (g3 4), .int 0, .int 0, .int 0, .ref (g10 4), .ref (g10 5), .ref (g10 6), .ref (g10 7), .ref (g10 8), .ref (g10 9), .int 0, .int 0, .int 0, .int 0, .null, .int 0, .int 0])), (q11, .inr (12, fsM g13)), ((g13 1), .inl (cA14, 1200, .inl (fun _ => 0))), ((g13 35), .inl (cA15, 6, .inl (fun _ => 0))), ((g13 36), .inl (cA16, 6, .inl (fun _ => 0))), ((g13 37), .inl (cA17, 6, .inl (fun _ => 0))), ((g13 48), .inl (cA18, 6, .inl (fun _ => 0)))] := hD
  refine W.widen (k := 257) (n := 1146073) (by decide) (by decide) ?_
  try dsimp only at hw
  subst hw
  refine lv_aload_n hx hb dL_law_256 rfl (lv_at hl 1 rfl) ?_
  refine lv_aload_n hx hb dL_law_257 rfl (lv_at hl 3 rfl) ?_
  refine lv_iload_n hx hb dL_law_258 rfl (lv_at hl 0 rfl) ?_
  refine lv_iconst (v := 1) hx hb dL_law_259 (by decide) ?_
  refine lv_iadd hx hb dL_law_260 ?_
  refine vx_topc (v := 1) (by decide) ?_
  refine va_sld hx hb hX hbl hbA hS (vx_in (by decide)) dL_law_261 ?_
  refine lv_aload_n hx hb dL_law_262 rfl (lv_at hl 3 rfl) ?_
  refine lv_iload_n hx hb dL_law_263 rfl (lv_at hl 0 rfl) ?_
  refine lv_iconst (v := 2) hx hb dL_law_264 (by decide) ?_
  refine lv_iadd hx hb dL_law_265 ?_
  refine vx_topc (v := 2) (by decide) ?_
  refine va_sld hx hb hX hbl hbA hS (vx_in (by decide)) dL_law_266 ?_
  have hPc := hP.sub (ws' := [(q11, .inr (12, fsM g13))]) [7] rfl
  have hDc := hD.sub (ws' := [(q11, .inr (12, fsM g13))]) [7] (by decide) rfl
  have hKc := hK.sub (tys' := []) [] rfl
  have hFc := va_free (wc := [(q11, .inr (12, fsM g13))]) hD hS hA [7] rfl
  refine va_calli (va_runV (As := [.int (xs (1 : Int32).toNatClampNeg), .int (xs (2 : Int32).toNatClampNeg)]) (rest := [.int (-1)]) ⟨hx, hb, hml, hown, hts⟩ (m_routine l dC dI q11 g13 (xs (1 : Int32).toNatClampNeg) (xs (2 : Int32).toNatClampNeg) H.size ) (cwV 2 hts g_law_m_routine_36 rfl rfl rfl (by decide +kernel) ⟨(Nat.le_of_ble_eq_true rfl), (Nat.le_of_ble_eq_true rfl)⟩) (vx_preV (ci := 12) (q0 := 0) hPc hKc hDc hN rfl rfl) rfl rfl hl.1 rfl (lv_room (Nat.le_of_ble_eq_true rfl)) dL_law_267 ⟨(Nat.le_of_ble_eq_true rfl), (Nat.le_of_ble_eq_true rfl)⟩) hS (fun q _ h => hFc q h) hFc (fun r5002 u t H1 locs ht hvm hw hB hz1 hk1 hS => ?_)
  obtain ⟨hP1, hK1, hD1⟩ := hB
  rw [ht] at hP1
  obtain ⟨hP, hD⟩ := va_join (wr := [((g3 0), .inl (cA4, 1200, .inl (fun _ => 0))), ((g3 5), .inr (5, [.ref (g5 0), .ref (g5 1), .ref (g5 2), .ref (g5 3), .ref (g5 4), .int 0, .ref (g5 6), .ref (g5 7), .ref (g5 8), .int 0, .int 0, .int 0, .int 0, .int 0, .int 0, .ref (g5 15), .ref (g5 16), .int 0, .int 0])), ((g5 0), .inr (9, [.ref (g6 0), .ref (g6 1), .ref (g6 2), .int 0, .int 0, .int 0, .int 0])), ((g6 0), .inl (cA7, 1201, .inl (fun _ => 0))), ((g6 1), .inl (cA8, 1201, .inl (fun _ => 0))), ((g6 2), .inl (cA9, 1201, .inl (fun _ => 0))), ((g3 8), .inr (7, [.ref (g3 4), .int 0, .int 0, .int 0, .ref (g10 4), .ref (g10 5), .ref (g10 6), .ref (g10 7), .ref (g10 8), .ref (g10 9), .int 0, .int 0, .int 0, .int 0, .null, .int 0, .int 0])), ((g13 1), .inl (cA14, 1200, .inl (fun _ => 0))), ((g13 35), .inl (cA15, 6, .inl (fun _ => 0))), ((g13 36), .inl (cA16, 6, .inl (fun _ => 0))), ((g13 37), .inl (cA17, 6, .inl (fun _ => 0))), ((g13 48), .inl (cA18, 6, .inl (fun _ => 0)))]) (w1 := []) hP hD [7] [0, 1, 2, 3, 4, 5, 6, 8, 9, 10, 11, 12] rfl rfl (by decide) (by decide) hk1 hFc hP1 hD1
  generalize H1 = H at hP hS ⊢
  have hP : va_P (dC, dI) vwCl [((g3 0), .inl (cA4, 1200, .inl (fun _ => 0))), ((g3 5), .inr (5, [.ref (g5 0), .ref (g5 1), .ref (g5 2), .ref (g5 3), .ref (g5 4), .int 0, .ref (g5 6), .ref (g5 7), .ref (g5 8), .int 0, .int 0, .int 0, .int 0, .int 0, .int 0, .ref (g5 15), .ref (g5 16), .int 0, .int 0])), ((g5 0), .inr (9, [.ref (g6 0), .ref (g6 1), .ref (g6 2), .int 0, .int 0, .int 0, .int 0])), ((g6 0), .inl (cA7, 1201, .inl (fun _ => 0))), ((g6 1), .inl (cA8, 1201, .inl (fun _ => 0))), ((g6 2), .inl (cA9, 1201, .inl (fun _ => 0))), ((g3 8), .inr (7, [.ref (g3 4), .int 0, .int 0, .int 0, .ref (g10 4), .ref (g10 5), .ref (g10 6), .ref (g10 7), .ref (g10 8), .ref (g10 9), .int 0, .int 0, .int 0, .int 0, .null, .int 0, .int 0])), ((g13 1), .inl (cA14, 1200, .inl (fun _ => 0))), ((g13 35), .inl (cA15, 6, .inl (fun _ => 0))), ((g13 36), .inl (cA16, 6, .inl (fun _ => 0))), ((g13 37), .inl (cA17, 6, .inl (fun _ => 0))), ((g13 48), .inl (cA18, 6, .inl (fun _ => 0)))] H := hP
  have hD : va_D A [((g3 0), .inl (cA4, 1200, .inl (fun _ => 0))), ((g3 5), .inr (5, [.ref (g5 0), .ref (g5 1), .ref (g5 2), .ref (g5 3), .ref (g5 4), .int 0, .ref (g5 6), .ref (g5 7), .ref (g5 8), .int 0, .int 0, .int 0, .int 0, .int 0, .int 0, .ref (g5 15), .ref (g5 16), .int 0, .int 0])), ((g5 0), .inr (9, [.ref (g6 0), .ref (g6 1), .ref (g6 2), .int 0, .int 0, .int 0, .int 0])), ((g6 0), .inl (cA7, 1201, .inl (fun _ => 0))), ((g6 1), .inl (cA8, 1201, .inl (fun _ => 0))), ((g6 2), .inl (cA9, 1201, .inl (fun _ => 0))), ((g3 8), .inr (7, [.ref (g3 4), .int 0, .int 0, .int 0, .ref (g10 4), .ref (g10 5), .ref (g10 6), .ref (g10 7), .ref (g10 8), .ref (g10 9), .int 0, .int 0, .int 0, .int 0, .null, .int 0, .int 0])), ((g13 1), .inl (cA14, 1200, .inl (fun _ => 0))), ((g13 35), .inl (cA15, 6, .inl (fun _ => 0))), ((g13 36), .inl (cA16, 6, .inl (fun _ => 0))), ((g13 37), .inl (cA17, 6, .inl (fun _ => 0))), ((g13 48), .inl (cA18, 6, .inl (fun _ => 0)))] := hD
  refine W.widen (k := 257) (n := 1146073) (by decide) (by decide) ?_
  try dsimp only at hw
  subst hw
  refine lv_icmp_eq (tgt := 796) hx hb dL_law_270 (by decide) (fun _ => ?_) (fun h => absurd (by decide) h)
  exact law_tail C0 hAe (Nat.le_of_ble_eq_true rfl) (Nat.le_of_ble_eq_true rfl) hS ls (lv_sub hl [0, 3] rfl)
set_option maxHeartbeats 4000000 in
set_option maxRecDepth 100000 in
theorem law_5 {p : Program} {l : Launch} {e : Env} {s : State} {m : MethodId} {below : List Frame} {meth : Method} {c : Code} {dC : Nat → ClassId} {dI : Nat → Nat → Nat} {b : Nat} {xs : Nat → Int32} {A : Nat → Prop} {q11 : Nat} {q1 : Nat} {g3 : Nat → Nat} {cA4 : ClassId} {g5 : Nat → Nat} {g6 : Nat → Nat} {cA7 : ClassId} {cA8 : ClassId} {cA9 : ClassId} {g10 : Nat → Nat} {g13 : Nat → Nat} {cA14 : ClassId} {cA15 : ClassId} {cA16 : ClassId} {cA17 : ClassId} {cA18 : ClassId} (C0 : lw_At p s m meth c b 7 xs) (hAe : A = fun q => s.heap.size ≤ q) (hN : nst s) {H : Heap} {locs : List Loc} (hK : va_K (dC, dI) vwCl [(cA4, .byte), (cA7, .int), (cA8, .int), (cA9, .int), (cA14, .byte), (cA15, .int), (cA16, .int), (cA17, .int), (cA18, .boolean)] s) (hP : va_P (dC, dI) vwCl [(q1, .inr (11, fsX g3)), ((g3 0), .inl (cA4, 1200, .inl (fun _ => 0))), ((g3 5), .inr (5, [.ref (g5 0), .ref (g5 1), .ref (g5 2), .ref (g5 3), .ref (g5 4), .int 0, .ref (g5 6), .ref (g5 7), .ref (g5 8), .int 0, .int 0, .int 0, .int 0, .int 0, .int 0, .ref (g5 15), .ref (g5 16), .int 0, .int 0])), ((g5 0), .inr (9, [.ref (g6 0), .ref (g6 1), .ref (g6 2), .int 0, .int 0, .int 0, .int 0])), ((g6 0), .inl (cA7, 1201, .inl (fun _ => 0))), ((g6 1), .inl (cA8, 1201, .inl (fun _ => 0))), ((g6 2), .inl (cA9, 1201, .inl (fun _ => 0))), ((g3 8), .inr (7, [.ref (g3 4), .int 0, .int 0, .int 0, .ref (g10 4), .ref (g10 5), .ref (g10 6), .ref (g10 7), .ref (g10 8), .ref (g10 9), .int 0, .int 0, .int 0, .int 0, .null, .int 0, .int 0])), (q11, .inr (12, fsM g13)), ((g13 1), .inl (cA14, 1200, .inl (fun _ => 0))), ((g13 35), .inl (cA15, 6, .inl (fun _ => 0))), ((g13 36), .inl (cA16, 6, .inl (fun _ => 0))), ((g13 37), .inl (cA17, 6, .inl (fun _ => 0))), ((g13 48), .inl (cA18, 6, .inl (fun _ => 0)))] H) (hD : va_D A [(q1, .inr (11, fsX g3)), ((g3 0), .inl (cA4, 1200, .inl (fun _ => 0))), ((g3 5), .inr (5, [.ref (g5 0), .ref (g5 1), .ref (g5 2), .ref (g5 3), .ref (g5 4), .int 0, .ref (g5 6), .ref (g5 7), .ref (g5 8), .int 0, .int 0, .int 0, .int 0, .int 0, .int 0, .ref (g5 15), .ref (g5 16), .int 0, .int 0])), ((g5 0), .inr (9, [.ref (g6 0), .ref (g6 1), .ref (g6 2), .int 0, .int 0, .int 0, .int 0])), ((g6 0), .inl (cA7, 1201, .inl (fun _ => 0))), ((g6 1), .inl (cA8, 1201, .inl (fun _ => 0))), ((g6 2), .inl (cA9, 1201, .inl (fun _ => 0))), ((g3 8), .inr (7, [.ref (g3 4), .int 0, .int 0, .int 0, .ref (g10 4), .ref (g10 5), .ref (g10 6), .ref (g10 7), .ref (g10 8), .ref (g10 9), .int 0, .int 0, .int 0, .int 0, .null, .int 0, .int 0])), (q11, .inr (12, fsM g13)), ((g13 1), .inl (cA14, 1200, .inl (fun _ => 0))), ((g13 35), .inl (cA15, 6, .inl (fun _ => 0))), ((g13 36), .inl (cA16, 6, .inl (fun _ => 0))), ((g13 37), .inl (cA17, 6, .inl (fun _ => 0))), ((g13 48), .inl (cA18, 6, .inl (fun _ => 0)))]) (hS : va_S A s.heap H locs) (ls : Array Slot) (hl : lv_has ls 4 [(3, .int 0), (2, .ref q11), (1, .ref q1), (0, .ref b)]) : W p l e room_1 s m #[Value.ref b] below meth c H locs 257 1146073 (lw_Z below #[Value.ref b] s) (F0 m 275 ls []) := by
  obtain ⟨hx, hb, hr, hml, hown, hts, hX, hbl, hlocks, hgv⟩ := id C0
  have hts : ∀ w ∈ w_law, w.before #[Value.ref b] s = true := fun w h => hts w (w_law_in w h)
  have hown : s.vm.findClass RL = some m.cls := hown
  have hA : ∀ q : Nat, s.heap.size ≤ q → A q := fun q h => by rw [hAe]; exact h
  have hbA : ¬ A b := by rw [hAe]; exact Nat.not_le.mpr hbl
  refine lv_aload_n hx hb dL_law_275 rfl (lv_at hl 2 rfl) ?_
  refine lv_aload_n hx hb dL_law_276 rfl (lv_at hl 3 rfl) ?_
  refine lv_iload_n hx hb dL_law_277 rfl (lv_at hl 0 rfl) ?_
  refine lv_iconst (v := 1) hx hb dL_law_278 (by decide) ?_
  refine lv_iadd hx hb dL_law_279 ?_
  refine vx_topc (v := 1) (by decide) ?_
  refine va_sld hx hb hX hbl hbA hS (vx_in (by decide)) dL_law_280 ?_
  refine lv_aload_n hx hb dL_law_281 rfl (lv_at hl 3 rfl) ?_
  refine lv_iload_n hx hb dL_law_282 rfl (lv_at hl 0 rfl) ?_
  refine lv_iconst (v := 2) hx hb dL_law_283 (by decide) ?_
  refine lv_iadd hx hb dL_law_284 ?_
  refine vx_topc (v := 2) (by decide) ?_
  refine va_sld hx hb hX hbl hbA hS (vx_in (by decide)) dL_law_285 ?_
  refine lv_aload_n hx hb dL_law_286 rfl (lv_at hl 3 rfl) ?_
  refine lv_iload_n hx hb dL_law_287 rfl (lv_at hl 0 rfl) ?_
  refine lv_iconst (v := 3) hx hb dL_law_288 (by decide) ?_
  refine lv_iadd hx hb dL_law_289 ?_
  refine vx_topc (v := 3) (by decide) ?_
  refine va_sld hx hb hX hbl hbA hS (vx_in (by decide)) dL_law_290 ?_
  have hPc := hP.sub (ws' := [(q1, .inr (11, fsX g3))]) [0] rfl
  have hDc := hD.sub (ws' := [(q1, .inr (11, fsX g3))]) [0] (by decide) rfl
  have hKc := hK.sub (tys' := []) [] rfl
  have hFc := va_free (wc := [(q1, .inr (11, fsX g3))]) hD hS hA [0] rfl
  refine va_calli (va_runV (As := [.int (xs (1 : Int32).toNatClampNeg), .int (xs (2 : Int32).toNatClampNeg), .int (xs (3 : Int32).toNatClampNeg)]) (rest := []) ⟨hx, hb, hml, hown, hts⟩ (x_item l dC dI q1 g3 (xs (1 : Int32).toNatClampNeg) (xs (2 : Int32).toNatClampNeg) (xs (3 : Int32).toNatClampNeg) H.size ) (cwV 3 hts g_law_x_item_37 rfl rfl rfl (by decide +kernel) ⟨(Nat.le_of_ble_eq_true rfl), (Nat.le_of_ble_eq_true rfl)⟩) (vx_preV (ci := 11) (q0 := 0) hPc hKc hDc hN rfl rfl) rfl rfl hl.1 rfl (lv_room (Nat.le_of_ble_eq_true rfl)) dL_law_291 ⟨(Nat.le_of_ble_eq_true rfl), (Nat.le_of_ble_eq_true rfl)⟩) hS (fun q _ h => hFc q h) hFc (fun r5001 u t H1 locs ht hvm hw hB hz1 hk1 hS => ?_)
  obtain ⟨hP1, hK1, hD1⟩ := hB
  rw [ht] at hP1
  obtain ⟨hP, hD⟩ := va_join (wr := [((g3 0), .inl (cA4, 1200, .inl (fun _ => 0))), ((g3 5), .inr (5, [.ref (g5 0), .ref (g5 1), .ref (g5 2), .ref (g5 3), .ref (g5 4), .int 0, .ref (g5 6), .ref (g5 7), .ref (g5 8), .int 0, .int 0, .int 0, .int 0, .int 0, .int 0, .ref (g5 15), .ref (g5 16), .int 0, .int 0])), ((g5 0), .inr (9, [.ref (g6 0), .ref (g6 1), .ref (g6 2), .int 0, .int 0, .int 0, .int 0])), ((g6 0), .inl (cA7, 1201, .inl (fun _ => 0))), ((g6 1), .inl (cA8, 1201, .inl (fun _ => 0))), ((g6 2), .inl (cA9, 1201, .inl (fun _ => 0))), ((g3 8), .inr (7, [.ref (g3 4), .int 0, .int 0, .int 0, .ref (g10 4), .ref (g10 5), .ref (g10 6), .ref (g10 7), .ref (g10 8), .ref (g10 9), .int 0, .int 0, .int 0, .int 0, .null, .int 0, .int 0])), (q11, .inr (12, fsM g13)), ((g13 1), .inl (cA14, 1200, .inl (fun _ => 0))), ((g13 35), .inl (cA15, 6, .inl (fun _ => 0))), ((g13 36), .inl (cA16, 6, .inl (fun _ => 0))), ((g13 37), .inl (cA17, 6, .inl (fun _ => 0))), ((g13 48), .inl (cA18, 6, .inl (fun _ => 0)))]) (w1 := []) hP hD [0] [1, 2, 3, 4, 5, 6, 7, 8, 9, 10, 11, 12, 13] rfl rfl (by decide) (by decide) hk1 hFc hP1 hD1
  generalize H1 = H at hP hS ⊢
  have hP : va_P (dC, dI) vwCl [((g3 0), .inl (cA4, 1200, .inl (fun _ => 0))), ((g3 5), .inr (5, [.ref (g5 0), .ref (g5 1), .ref (g5 2), .ref (g5 3), .ref (g5 4), .int 0, .ref (g5 6), .ref (g5 7), .ref (g5 8), .int 0, .int 0, .int 0, .int 0, .int 0, .int 0, .ref (g5 15), .ref (g5 16), .int 0, .int 0])), ((g5 0), .inr (9, [.ref (g6 0), .ref (g6 1), .ref (g6 2), .int 0, .int 0, .int 0, .int 0])), ((g6 0), .inl (cA7, 1201, .inl (fun _ => 0))), ((g6 1), .inl (cA8, 1201, .inl (fun _ => 0))), ((g6 2), .inl (cA9, 1201, .inl (fun _ => 0))), ((g3 8), .inr (7, [.ref (g3 4), .int 0, .int 0, .int 0, .ref (g10 4), .ref (g10 5), .ref (g10 6), .ref (g10 7), .ref (g10 8), .ref (g10 9), .int 0, .int 0, .int 0, .int 0, .null, .int 0, .int 0])), (q11, .inr (12, fsM g13)), ((g13 1), .inl (cA14, 1200, .inl (fun _ => 0))), ((g13 35), .inl (cA15, 6, .inl (fun _ => 0))), ((g13 36), .inl (cA16, 6, .inl (fun _ => 0))), ((g13 37), .inl (cA17, 6, .inl (fun _ => 0))), ((g13 48), .inl (cA18, 6, .inl (fun _ => 0)))] H := hP
  have hD : va_D A [((g3 0), .inl (cA4, 1200, .inl (fun _ => 0))), ((g3 5), .inr (5, [.ref (g5 0), .ref (g5 1), .ref (g5 2), .ref (g5 3), .ref (g5 4), .int 0, .ref (g5 6), .ref (g5 7), .ref (g5 8), .int 0, .int 0, .int 0, .int 0, .int 0, .int 0, .ref (g5 15), .ref (g5 16), .int 0, .int 0])), ((g5 0), .inr (9, [.ref (g6 0), .ref (g6 1), .ref (g6 2), .int 0, .int 0, .int 0, .int 0])), ((g6 0), .inl (cA7, 1201, .inl (fun _ => 0))), ((g6 1), .inl (cA8, 1201, .inl (fun _ => 0))), ((g6 2), .inl (cA9, 1201, .inl (fun _ => 0))), ((g3 8), .inr (7, [.ref (g3 4), .int 0, .int 0, .int 0, .ref (g10 4), .ref (g10 5), .ref (g10 6), .ref (g10 7), .ref (g10 8), .ref (g10 9), .int 0, .int 0, .int 0, .int 0, .null, .int 0, .int 0])), (q11, .inr (12, fsM g13)), ((g13 1), .inl (cA14, 1200, .inl (fun _ => 0))), ((g13 35), .inl (cA15, 6, .inl (fun _ => 0))), ((g13 36), .inl (cA16, 6, .inl (fun _ => 0))), ((g13 37), .inl (cA17, 6, .inl (fun _ => 0))), ((g13 48), .inl (cA18, 6, .inl (fun _ => 0)))] := hD
  refine W.widen (k := 257) (n := 1146073) (by decide) (by decide) ?_
  try dsimp only at hw
  subst hw
  refine lv_aload_n hx hb dL_law_294 rfl (lv_at hl 1 rfl) ?_
  refine lv_aload_n hx hb dL_law_295 rfl (lv_at hl 3 rfl) ?_
  refine lv_iload_n hx hb dL_law_296 rfl (lv_at hl 0 rfl) ?_
  refine lv_iconst (v := 1) hx hb dL_law_297 (by decide) ?_
  refine lv_iadd hx hb dL_law_298 ?_
  refine vx_topc (v := 1) (by decide) ?_
  refine va_sld hx hb hX hbl hbA hS (vx_in (by decide)) dL_law_299 ?_
  refine lv_aload_n hx hb dL_law_300 rfl (lv_at hl 3 rfl) ?_
  refine lv_iload_n hx hb dL_law_301 rfl (lv_at hl 0 rfl) ?_
  refine lv_iconst (v := 2) hx hb dL_law_302 (by decide) ?_
  refine lv_iadd hx hb dL_law_303 ?_
  refine vx_topc (v := 2) (by decide) ?_
  refine va_sld hx hb hX hbl hbA hS (vx_in (by decide)) dL_law_304 ?_
  refine lv_aload_n hx hb dL_law_305 rfl (lv_at hl 3 rfl) ?_
  refine lv_iload_n hx hb dL_law_306 rfl (lv_at hl 0 rfl) ?_
  refine lv_iconst (v := 3) hx hb dL_law_307 (by decide) ?_
  refine lv_iadd hx hb dL_law_308 ?_
  refine vx_topc (v := 3) (by decide) ?_
  refine va_sld hx hb hX hbl hbA hS (vx_in (by decide)) dL_law_309 ?_
  have hPc := hP.sub (ws' := [(q11, .inr (12, fsM g13))]) [7] rfl
  have hDc := hD.sub (ws' := [(q11, .inr (12, fsM g13))]) [7] (by decide) rfl
  have hKc := hK.sub (tys' := []) [] rfl
  have hFc := va_free (wc := [(q11, .inr (12, fsM g13))]) hD hS hA [7] rfl
  refine va_calli (va_runV (As := [.int (xs (1 : Int32).toNatClampNeg), .int (xs (2 : Int32).toNatClampNeg), .int (xs (3 : Int32).toNatClampNeg)]) (rest := [.int (-1)]) ⟨hx, hb, hml, hown, hts⟩ (m_item l dC dI q11 g13 (xs (1 : Int32).toNatClampNeg) (xs (2 : Int32).toNatClampNeg) (xs (3 : Int32).toNatClampNeg) H.size ) (cwV 3 hts g_law_m_item_41 rfl rfl rfl (by decide +kernel) ⟨(Nat.le_of_ble_eq_true rfl), (Nat.le_of_ble_eq_true rfl)⟩) (vx_preV (ci := 12) (q0 := 0) hPc hKc hDc hN rfl rfl) rfl rfl hl.1 rfl (lv_room (Nat.le_of_ble_eq_true rfl)) dL_law_310 ⟨(Nat.le_of_ble_eq_true rfl), (Nat.le_of_ble_eq_true rfl)⟩) hS (fun q _ h => hFc q h) hFc (fun r5002 u t H1 locs ht hvm hw hB hz1 hk1 hS => ?_)
  obtain ⟨hP1, hK1, hD1⟩ := hB
  rw [ht] at hP1
  obtain ⟨hP, hD⟩ := va_join (wr := [((g3 0), .inl (cA4, 1200, .inl (fun _ => 0))), ((g3 5), .inr (5, [.ref (g5 0), .ref (g5 1), .ref (g5 2), .ref (g5 3), .ref (g5 4), .int 0, .ref (g5 6), .ref (g5 7), .ref (g5 8), .int 0, .int 0, .int 0, .int 0, .int 0, .int 0, .ref (g5 15), .ref (g5 16), .int 0, .int 0])), ((g5 0), .inr (9, [.ref (g6 0), .ref (g6 1), .ref (g6 2), .int 0, .int 0, .int 0, .int 0])), ((g6 0), .inl (cA7, 1201, .inl (fun _ => 0))), ((g6 1), .inl (cA8, 1201, .inl (fun _ => 0))), ((g6 2), .inl (cA9, 1201, .inl (fun _ => 0))), ((g3 8), .inr (7, [.ref (g3 4), .int 0, .int 0, .int 0, .ref (g10 4), .ref (g10 5), .ref (g10 6), .ref (g10 7), .ref (g10 8), .ref (g10 9), .int 0, .int 0, .int 0, .int 0, .null, .int 0, .int 0])), ((g13 1), .inl (cA14, 1200, .inl (fun _ => 0))), ((g13 35), .inl (cA15, 6, .inl (fun _ => 0))), ((g13 36), .inl (cA16, 6, .inl (fun _ => 0))), ((g13 37), .inl (cA17, 6, .inl (fun _ => 0))), ((g13 48), .inl (cA18, 6, .inl (fun _ => 0)))]) (w1 := []) hP hD [7] [0, 1, 2, 3, 4, 5, 6, 8, 9, 10, 11, 12] rfl rfl (by decide) (by decide) hk1 hFc hP1 hD1
  generalize H1 = H at hP hS ⊢
  have hP : va_P (dC, dI) vwCl [((g3 0), .inl (cA4, 1200, .inl (fun _ => 0))), ((g3 5), .inr (5, [.ref (g5 0), .ref (g5 1), .ref (g5 2), .ref (g5 3), .ref (g5 4), .int 0, .ref (g5 6), .ref (g5 7), .ref (g5 8), .int 0, .int 0, .int 0, .int 0, .int 0, .int 0, .ref (g5 15), .ref (g5 16), .int 0, .int 0])), ((g5 0), .inr (9, [.ref (g6 0), .ref (g6 1), .ref (g6 2), .int 0, .int 0, .int 0, .int 0])), ((g6 0), .inl (cA7, 1201, .inl (fun _ => 0))), ((g6 1), .inl (cA8, 1201, .inl (fun _ => 0))), ((g6 2), .inl (cA9, 1201, .inl (fun _ => 0))), ((g3 8), .inr (7, [.ref (g3 4), .int 0, .int 0, .int 0, .ref (g10 4), .ref (g10 5), .ref (g10 6), .ref (g10 7), .ref (g10 8), .ref (g10 9), .int 0, .int 0, .int 0, .int 0, .null, .int 0, .int 0])), ((g13 1), .inl (cA14, 1200, .inl (fun _ => 0))), ((g13 35), .inl (cA15, 6, .inl (fun _ => 0))), ((g13 36), .inl (cA16, 6, .inl (fun _ => 0))), ((g13 37), .inl (cA17, 6, .inl (fun _ => 0))), ((g13 48), .inl (cA18, 6, .inl (fun _ => 0)))] H := hP
  have hD : va_D A [((g3 0), .inl (cA4, 1200, .inl (fun _ => 0))), ((g3 5), .inr (5, [.ref (g5 0), .ref (g5 1), .ref (g5 2), .ref (g5 3), .ref (g5 4), .int 0, .ref (g5 6), .ref (g5 7), .ref (g5 8), .int 0, .int 0, .int 0, .int 0, .int 0, .int 0, .ref (g5 15), .ref (g5 16), .int 0, .int 0])), ((g5 0), .inr (9, [.ref (g6 0), .ref (g6 1), .ref (g6 2), .int 0, .int 0, .int 0, .int 0])), ((g6 0), .inl (cA7, 1201, .inl (fun _ => 0))), ((g6 1), .inl (cA8, 1201, .inl (fun _ => 0))), ((g6 2), .inl (cA9, 1201, .inl (fun _ => 0))), ((g3 8), .inr (7, [.ref (g3 4), .int 0, .int 0, .int 0, .ref (g10 4), .ref (g10 5), .ref (g10 6), .ref (g10 7), .ref (g10 8), .ref (g10 9), .int 0, .int 0, .int 0, .int 0, .null, .int 0, .int 0])), ((g13 1), .inl (cA14, 1200, .inl (fun _ => 0))), ((g13 35), .inl (cA15, 6, .inl (fun _ => 0))), ((g13 36), .inl (cA16, 6, .inl (fun _ => 0))), ((g13 37), .inl (cA17, 6, .inl (fun _ => 0))), ((g13 48), .inl (cA18, 6, .inl (fun _ => 0)))] := hD
  refine W.widen (k := 257) (n := 1146073) (by decide) (by decide) ?_
  try dsimp only at hw
  subst hw
  refine lv_icmp_eq (tgt := 796) hx hb dL_law_313 (by decide) (fun _ => ?_) (fun h => absurd (by decide) h)
  exact law_tail C0 hAe (Nat.le_of_ble_eq_true rfl) (Nat.le_of_ble_eq_true rfl) hS ls (lv_sub hl [0, 3] rfl)
set_option maxHeartbeats 4000000 in
set_option maxRecDepth 100000 in
theorem law_6 {p : Program} {l : Launch} {e : Env} {s : State} {m : MethodId} {below : List Frame} {meth : Method} {c : Code} {dC : Nat → ClassId} {dI : Nat → Nat → Nat} {b : Nat} {xs : Nat → Int32} {A : Nat → Prop} {q11 : Nat} {q1 : Nat} {g3 : Nat → Nat} {cA4 : ClassId} {g5 : Nat → Nat} {g6 : Nat → Nat} {cA7 : ClassId} {cA8 : ClassId} {cA9 : ClassId} {g10 : Nat → Nat} {g13 : Nat → Nat} {cA14 : ClassId} {cA15 : ClassId} {cA16 : ClassId} {cA17 : ClassId} {cA18 : ClassId} (C0 : lw_At p s m meth c b 7 xs) (hAe : A = fun q => s.heap.size ≤ q) (hN : nst s) {H : Heap} {locs : List Loc} (hK : va_K (dC, dI) vwCl [(cA4, .byte), (cA7, .int), (cA8, .int), (cA9, .int), (cA14, .byte), (cA15, .int), (cA16, .int), (cA17, .int), (cA18, .boolean)] s) (hP : va_P (dC, dI) vwCl [(q1, .inr (11, fsX g3)), ((g3 0), .inl (cA4, 1200, .inl (fun _ => 0))), ((g3 5), .inr (5, [.ref (g5 0), .ref (g5 1), .ref (g5 2), .ref (g5 3), .ref (g5 4), .int 0, .ref (g5 6), .ref (g5 7), .ref (g5 8), .int 0, .int 0, .int 0, .int 0, .int 0, .int 0, .ref (g5 15), .ref (g5 16), .int 0, .int 0])), ((g5 0), .inr (9, [.ref (g6 0), .ref (g6 1), .ref (g6 2), .int 0, .int 0, .int 0, .int 0])), ((g6 0), .inl (cA7, 1201, .inl (fun _ => 0))), ((g6 1), .inl (cA8, 1201, .inl (fun _ => 0))), ((g6 2), .inl (cA9, 1201, .inl (fun _ => 0))), ((g3 8), .inr (7, [.ref (g3 4), .int 0, .int 0, .int 0, .ref (g10 4), .ref (g10 5), .ref (g10 6), .ref (g10 7), .ref (g10 8), .ref (g10 9), .int 0, .int 0, .int 0, .int 0, .null, .int 0, .int 0])), (q11, .inr (12, fsM g13)), ((g13 1), .inl (cA14, 1200, .inl (fun _ => 0))), ((g13 35), .inl (cA15, 6, .inl (fun _ => 0))), ((g13 36), .inl (cA16, 6, .inl (fun _ => 0))), ((g13 37), .inl (cA17, 6, .inl (fun _ => 0))), ((g13 48), .inl (cA18, 6, .inl (fun _ => 0)))] H) (hD : va_D A [(q1, .inr (11, fsX g3)), ((g3 0), .inl (cA4, 1200, .inl (fun _ => 0))), ((g3 5), .inr (5, [.ref (g5 0), .ref (g5 1), .ref (g5 2), .ref (g5 3), .ref (g5 4), .int 0, .ref (g5 6), .ref (g5 7), .ref (g5 8), .int 0, .int 0, .int 0, .int 0, .int 0, .int 0, .ref (g5 15), .ref (g5 16), .int 0, .int 0])), ((g5 0), .inr (9, [.ref (g6 0), .ref (g6 1), .ref (g6 2), .int 0, .int 0, .int 0, .int 0])), ((g6 0), .inl (cA7, 1201, .inl (fun _ => 0))), ((g6 1), .inl (cA8, 1201, .inl (fun _ => 0))), ((g6 2), .inl (cA9, 1201, .inl (fun _ => 0))), ((g3 8), .inr (7, [.ref (g3 4), .int 0, .int 0, .int 0, .ref (g10 4), .ref (g10 5), .ref (g10 6), .ref (g10 7), .ref (g10 8), .ref (g10 9), .int 0, .int 0, .int 0, .int 0, .null, .int 0, .int 0])), (q11, .inr (12, fsM g13)), ((g13 1), .inl (cA14, 1200, .inl (fun _ => 0))), ((g13 35), .inl (cA15, 6, .inl (fun _ => 0))), ((g13 36), .inl (cA16, 6, .inl (fun _ => 0))), ((g13 37), .inl (cA17, 6, .inl (fun _ => 0))), ((g13 48), .inl (cA18, 6, .inl (fun _ => 0)))]) (hS : va_S A s.heap H locs) (ls : Array Slot) (hl : lv_has ls 4 [(3, .int 0), (2, .ref q11), (1, .ref q1), (0, .ref b)]) : W p l e room_1 s m #[Value.ref b] below meth c H locs 257 1146073 (lw_Z below #[Value.ref b] s) (F0 m 318 ls []) := by
  obtain ⟨hx, hb, hr, hml, hown, hts, hX, hbl, hlocks, hgv⟩ := id C0
  have hts : ∀ w ∈ w_law, w.before #[Value.ref b] s = true := fun w h => hts w (w_law_in w h)
  have hown : s.vm.findClass RL = some m.cls := hown
  have hA : ∀ q : Nat, s.heap.size ≤ q → A q := fun q h => by rw [hAe]; exact h
  have hbA : ¬ A b := by rw [hAe]; exact Nat.not_le.mpr hbl
  refine lv_aload_n hx hb dL_law_318 rfl (lv_at hl 2 rfl) ?_
  refine lv_aload_n hx hb dL_law_319 rfl (lv_at hl 3 rfl) ?_
  refine lv_iload_n hx hb dL_law_320 rfl (lv_at hl 0 rfl) ?_
  refine lv_iconst (v := 1) hx hb dL_law_321 (by decide) ?_
  refine lv_iadd hx hb dL_law_322 ?_
  refine vx_topc (v := 1) (by decide) ?_
  refine va_sld hx hb hX hbl hbA hS (vx_in (by decide)) dL_law_323 ?_
  refine lv_aload_n hx hb dL_law_324 rfl (lv_at hl 3 rfl) ?_
  refine lv_iload_n hx hb dL_law_325 rfl (lv_at hl 0 rfl) ?_
  refine lv_iconst (v := 2) hx hb dL_law_326 (by decide) ?_
  refine lv_iadd hx hb dL_law_327 ?_
  refine vx_topc (v := 2) (by decide) ?_
  refine va_sld hx hb hX hbl hbA hS (vx_in (by decide)) dL_law_328 ?_
  refine lv_aload_n hx hb dL_law_329 rfl (lv_at hl 3 rfl) ?_
  refine lv_iload_n hx hb dL_law_330 rfl (lv_at hl 0 rfl) ?_
  refine lv_iconst (v := 3) hx hb dL_law_331 (by decide) ?_
  refine lv_iadd hx hb dL_law_332 ?_
  refine vx_topc (v := 3) (by decide) ?_
  refine va_sld hx hb hX hbl hbA hS (vx_in (by decide)) dL_law_333 ?_
  have hPc := hP.sub (ws' := [(q1, .inr (11, fsX g3))]) [0] rfl
  have hDc := hD.sub (ws' := [(q1, .inr (11, fsX g3))]) [0] (by decide) rfl
  have hKc := hK.sub (tys' := []) [] rfl
  have hFc := va_free (wc := [(q1, .inr (11, fsX g3))]) hD hS hA [0] rfl
  refine va_calli (va_runV (As := [.int (xs (1 : Int32).toNatClampNeg), .int (xs (2 : Int32).toNatClampNeg), .int (xs (3 : Int32).toNatClampNeg)]) (rest := []) ⟨hx, hb, hml, hown, hts⟩ (x_frame l dC dI q1 g3 (xs (1 : Int32).toNatClampNeg) (xs (2 : Int32).toNatClampNeg) (xs (3 : Int32).toNatClampNeg) H.size ) (cwV 3 hts g_law_x_frame_42 rfl rfl rfl (by decide +kernel) ⟨(Nat.le_of_ble_eq_true rfl), (Nat.le_of_ble_eq_true rfl)⟩) (vx_preV (ci := 11) (q0 := 0) hPc hKc hDc hN rfl rfl) rfl rfl hl.1 rfl (lv_room (Nat.le_of_ble_eq_true rfl)) dL_law_334 ⟨(Nat.le_of_ble_eq_true rfl), (Nat.le_of_ble_eq_true rfl)⟩) hS (fun q _ h => hFc q h) hFc (fun r5001 u t H1 locs ht hvm hw hB hz1 hk1 hS => ?_)
  obtain ⟨hP1, hK1, hD1⟩ := hB
  rw [ht] at hP1
  obtain ⟨hP, hD⟩ := va_join (wr := [((g3 0), .inl (cA4, 1200, .inl (fun _ => 0))), ((g3 5), .inr (5, [.ref (g5 0), .ref (g5 1), .ref (g5 2), .ref (g5 3), .ref (g5 4), .int 0, .ref (g5 6), .ref (g5 7), .ref (g5 8), .int 0, .int 0, .int 0, .int 0, .int 0, .int 0, .ref (g5 15), .ref (g5 16), .int 0, .int 0])), ((g5 0), .inr (9, [.ref (g6 0), .ref (g6 1), .ref (g6 2), .int 0, .int 0, .int 0, .int 0])), ((g6 0), .inl (cA7, 1201, .inl (fun _ => 0))), ((g6 1), .inl (cA8, 1201, .inl (fun _ => 0))), ((g6 2), .inl (cA9, 1201, .inl (fun _ => 0))), ((g3 8), .inr (7, [.ref (g3 4), .int 0, .int 0, .int 0, .ref (g10 4), .ref (g10 5), .ref (g10 6), .ref (g10 7), .ref (g10 8), .ref (g10 9), .int 0, .int 0, .int 0, .int 0, .null, .int 0, .int 0])), (q11, .inr (12, fsM g13)), ((g13 1), .inl (cA14, 1200, .inl (fun _ => 0))), ((g13 35), .inl (cA15, 6, .inl (fun _ => 0))), ((g13 36), .inl (cA16, 6, .inl (fun _ => 0))), ((g13 37), .inl (cA17, 6, .inl (fun _ => 0))), ((g13 48), .inl (cA18, 6, .inl (fun _ => 0)))]) (w1 := []) hP hD [0] [1, 2, 3, 4, 5, 6, 7, 8, 9, 10, 11, 12, 13] rfl rfl (by decide) (by decide) hk1 hFc hP1 hD1
  generalize H1 = H at hP hS ⊢
  have hP : va_P (dC, dI) vwCl [((g3 0), .inl (cA4, 1200, .inl (fun _ => 0))), ((g3 5), .inr (5, [.ref (g5 0), .ref (g5 1), .ref (g5 2), .ref (g5 3), .ref (g5 4), .int 0, .ref (g5 6), .ref (g5 7), .ref (g5 8), .int 0, .int 0, .int 0, .int 0, .int 0, .int 0, .ref (g5 15), .ref (g5 16), .int 0, .int 0])), ((g5 0), .inr (9, [.ref (g6 0), .ref (g6 1), .ref (g6 2), .int 0, .int 0, .int 0, .int 0])), ((g6 0), .inl (cA7, 1201, .inl (fun _ => 0))), ((g6 1), .inl (cA8, 1201, .inl (fun _ => 0))), ((g6 2), .inl (cA9, 1201, .inl (fun _ => 0))), ((g3 8), .inr (7, [.ref (g3 4), .int 0, .int 0, .int 0, .ref (g10 4), .ref (g10 5), .ref (g10 6), .ref (g10 7), .ref (g10 8), .ref (g10 9), .int 0, .int 0, .int 0, .int 0, .null, .int 0, .int 0])), (q11, .inr (12, fsM g13)), ((g13 1), .inl (cA14, 1200, .inl (fun _ => 0))), ((g13 35), .inl (cA15, 6, .inl (fun _ => 0))), ((g13 36), .inl (cA16, 6, .inl (fun _ => 0))), ((g13 37), .inl (cA17, 6, .inl (fun _ => 0))), ((g13 48), .inl (cA18, 6, .inl (fun _ => 0)))] H := hP
  have hD : va_D A [((g3 0), .inl (cA4, 1200, .inl (fun _ => 0))), ((g3 5), .inr (5, [.ref (g5 0), .ref (g5 1), .ref (g5 2), .ref (g5 3), .ref (g5 4), .int 0, .ref (g5 6), .ref (g5 7), .ref (g5 8), .int 0, .int 0, .int 0, .int 0, .int 0, .int 0, .ref (g5 15), .ref (g5 16), .int 0, .int 0])), ((g5 0), .inr (9, [.ref (g6 0), .ref (g6 1), .ref (g6 2), .int 0, .int 0, .int 0, .int 0])), ((g6 0), .inl (cA7, 1201, .inl (fun _ => 0))), ((g6 1), .inl (cA8, 1201, .inl (fun _ => 0))), ((g6 2), .inl (cA9, 1201, .inl (fun _ => 0))), ((g3 8), .inr (7, [.ref (g3 4), .int 0, .int 0, .int 0, .ref (g10 4), .ref (g10 5), .ref (g10 6), .ref (g10 7), .ref (g10 8), .ref (g10 9), .int 0, .int 0, .int 0, .int 0, .null, .int 0, .int 0])), (q11, .inr (12, fsM g13)), ((g13 1), .inl (cA14, 1200, .inl (fun _ => 0))), ((g13 35), .inl (cA15, 6, .inl (fun _ => 0))), ((g13 36), .inl (cA16, 6, .inl (fun _ => 0))), ((g13 37), .inl (cA17, 6, .inl (fun _ => 0))), ((g13 48), .inl (cA18, 6, .inl (fun _ => 0)))] := hD
  refine W.widen (k := 257) (n := 1146073) (by decide) (by decide) ?_
  try dsimp only at hw
  subst hw
  refine lv_aload_n hx hb dL_law_337 rfl (lv_at hl 1 rfl) ?_
  refine lv_aload_n hx hb dL_law_338 rfl (lv_at hl 3 rfl) ?_
  refine lv_iload_n hx hb dL_law_339 rfl (lv_at hl 0 rfl) ?_
  refine lv_iconst (v := 1) hx hb dL_law_340 (by decide) ?_
  refine lv_iadd hx hb dL_law_341 ?_
  refine vx_topc (v := 1) (by decide) ?_
  refine va_sld hx hb hX hbl hbA hS (vx_in (by decide)) dL_law_342 ?_
  refine lv_aload_n hx hb dL_law_343 rfl (lv_at hl 3 rfl) ?_
  refine lv_iload_n hx hb dL_law_344 rfl (lv_at hl 0 rfl) ?_
  refine lv_iconst (v := 2) hx hb dL_law_345 (by decide) ?_
  refine lv_iadd hx hb dL_law_346 ?_
  refine vx_topc (v := 2) (by decide) ?_
  refine va_sld hx hb hX hbl hbA hS (vx_in (by decide)) dL_law_347 ?_
  refine lv_aload_n hx hb dL_law_348 rfl (lv_at hl 3 rfl) ?_
  refine lv_iload_n hx hb dL_law_349 rfl (lv_at hl 0 rfl) ?_
  refine lv_iconst (v := 3) hx hb dL_law_350 (by decide) ?_
  refine lv_iadd hx hb dL_law_351 ?_
  refine vx_topc (v := 3) (by decide) ?_
  refine va_sld hx hb hX hbl hbA hS (vx_in (by decide)) dL_law_352 ?_
  have hPc := hP.sub (ws' := [(q11, .inr (12, fsM g13))]) [7] rfl
  have hDc := hD.sub (ws' := [(q11, .inr (12, fsM g13))]) [7] (by decide) rfl
  have hKc := hK.sub (tys' := []) [] rfl
  have hFc := va_free (wc := [(q11, .inr (12, fsM g13))]) hD hS hA [7] rfl
  refine va_calli (va_runV (As := [.int (xs (1 : Int32).toNatClampNeg), .int (xs (2 : Int32).toNatClampNeg), .int (xs (3 : Int32).toNatClampNeg)]) (rest := [.int (-1)]) ⟨hx, hb, hml, hown, hts⟩ (m_frame l dC dI q11 g13 (xs (1 : Int32).toNatClampNeg) (xs (2 : Int32).toNatClampNeg) (xs (3 : Int32).toNatClampNeg) H.size ) (cwV 3 hts g_law_m_frame_45 rfl rfl rfl (by decide +kernel) ⟨(Nat.le_of_ble_eq_true rfl), (Nat.le_of_ble_eq_true rfl)⟩) (vx_preV (ci := 12) (q0 := 0) hPc hKc hDc hN rfl rfl) rfl rfl hl.1 rfl (lv_room (Nat.le_of_ble_eq_true rfl)) dL_law_353 ⟨(Nat.le_of_ble_eq_true rfl), (Nat.le_of_ble_eq_true rfl)⟩) hS (fun q _ h => hFc q h) hFc (fun r5002 u t H1 locs ht hvm hw hB hz1 hk1 hS => ?_)
  obtain ⟨hP1, hK1, hD1⟩ := hB
  rw [ht] at hP1
  obtain ⟨hP, hD⟩ := va_join (wr := [((g3 0), .inl (cA4, 1200, .inl (fun _ => 0))), ((g3 5), .inr (5, [.ref (g5 0), .ref (g5 1), .ref (g5 2), .ref (g5 3), .ref (g5 4), .int 0, .ref (g5 6), .ref (g5 7), .ref (g5 8), .int 0, .int 0, .int 0, .int 0, .int 0, .int 0, .ref (g5 15), .ref (g5 16), .int 0, .int 0])), ((g5 0), .inr (9, [.ref (g6 0), .ref (g6 1), .ref (g6 2), .int 0, .int 0, .int 0, .int 0])), ((g6 0), .inl (cA7, 1201, .inl (fun _ => 0))), ((g6 1), .inl (cA8, 1201, .inl (fun _ => 0))), ((g6 2), .inl (cA9, 1201, .inl (fun _ => 0))), ((g3 8), .inr (7, [.ref (g3 4), .int 0, .int 0, .int 0, .ref (g10 4), .ref (g10 5), .ref (g10 6), .ref (g10 7), .ref (g10 8), .ref (g10 9), .int 0, .int 0, .int 0, .int 0, .null, .int 0, .int 0])), ((g13 1), .inl (cA14, 1200, .inl (fun _ => 0))), ((g13 35), .inl (cA15, 6, .inl (fun _ => 0))), ((g13 36), .inl (cA16, 6, .inl (fun _ => 0))), ((g13 37), .inl (cA17, 6, .inl (fun _ => 0))), ((g13 48), .inl (cA18, 6, .inl (fun _ => 0)))]) (w1 := []) hP hD [7] [0, 1, 2, 3, 4, 5, 6, 8, 9, 10, 11, 12] rfl rfl (by decide) (by decide) hk1 hFc hP1 hD1
  generalize H1 = H at hP hS ⊢
  have hP : va_P (dC, dI) vwCl [((g3 0), .inl (cA4, 1200, .inl (fun _ => 0))), ((g3 5), .inr (5, [.ref (g5 0), .ref (g5 1), .ref (g5 2), .ref (g5 3), .ref (g5 4), .int 0, .ref (g5 6), .ref (g5 7), .ref (g5 8), .int 0, .int 0, .int 0, .int 0, .int 0, .int 0, .ref (g5 15), .ref (g5 16), .int 0, .int 0])), ((g5 0), .inr (9, [.ref (g6 0), .ref (g6 1), .ref (g6 2), .int 0, .int 0, .int 0, .int 0])), ((g6 0), .inl (cA7, 1201, .inl (fun _ => 0))), ((g6 1), .inl (cA8, 1201, .inl (fun _ => 0))), ((g6 2), .inl (cA9, 1201, .inl (fun _ => 0))), ((g3 8), .inr (7, [.ref (g3 4), .int 0, .int 0, .int 0, .ref (g10 4), .ref (g10 5), .ref (g10 6), .ref (g10 7), .ref (g10 8), .ref (g10 9), .int 0, .int 0, .int 0, .int 0, .null, .int 0, .int 0])), ((g13 1), .inl (cA14, 1200, .inl (fun _ => 0))), ((g13 35), .inl (cA15, 6, .inl (fun _ => 0))), ((g13 36), .inl (cA16, 6, .inl (fun _ => 0))), ((g13 37), .inl (cA17, 6, .inl (fun _ => 0))), ((g13 48), .inl (cA18, 6, .inl (fun _ => 0)))] H := hP
  have hD : va_D A [((g3 0), .inl (cA4, 1200, .inl (fun _ => 0))), ((g3 5), .inr (5, [.ref (g5 0), .ref (g5 1), .ref (g5 2), .ref (g5 3), .ref (g5 4), .int 0, .ref (g5 6), .ref (g5 7), .ref (g5 8), .int 0, .int 0, .int 0, .int 0, .int 0, .int 0, .ref (g5 15), .ref (g5 16), .int 0, .int 0])), ((g5 0), .inr (9, [.ref (g6 0), .ref (g6 1), .ref (g6 2), .int 0, .int 0, .int 0, .int 0])), ((g6 0), .inl (cA7, 1201, .inl (fun _ => 0))), ((g6 1), .inl (cA8, 1201, .inl (fun _ => 0))), ((g6 2), .inl (cA9, 1201, .inl (fun _ => 0))), ((g3 8), .inr (7, [.ref (g3 4), .int 0, .int 0, .int 0, .ref (g10 4), .ref (g10 5), .ref (g10 6), .ref (g10 7), .ref (g10 8), .ref (g10 9), .int 0, .int 0, .int 0, .int 0, .null, .int 0, .int 0])), ((g13 1), .inl (cA14, 1200, .inl (fun _ => 0))), ((g13 35), .inl (cA15, 6, .inl (fun _ => 0))), ((g13 36), .inl (cA16, 6, .inl (fun _ => 0))), ((g13 37), .inl (cA17, 6, .inl (fun _ => 0))), ((g13 48), .inl (cA18, 6, .inl (fun _ => 0)))] := hD
  refine W.widen (k := 257) (n := 1146073) (by decide) (by decide) ?_
  try dsimp only at hw
  subst hw
  refine lv_icmp_eq (tgt := 796) hx hb dL_law_356 (by decide) (fun _ => ?_) (fun h => absurd (by decide) h)
  exact law_tail C0 hAe (Nat.le_of_ble_eq_true rfl) (Nat.le_of_ble_eq_true rfl) hS ls (lv_sub hl [0, 3] rfl)
set_option maxHeartbeats 4000000 in
set_option maxRecDepth 100000 in
theorem law_7 {p : Program} {l : Launch} {e : Env} {s : State} {m : MethodId} {below : List Frame} {meth : Method} {c : Code} {dC : Nat → ClassId} {dI : Nat → Nat → Nat} {b : Nat} {xs : Nat → Int32} {A : Nat → Prop} {q11 : Nat} {q1 : Nat} {g3 : Nat → Nat} {cA4 : ClassId} {g5 : Nat → Nat} {g6 : Nat → Nat} {cA7 : ClassId} {cA8 : ClassId} {cA9 : ClassId} {g10 : Nat → Nat} {g13 : Nat → Nat} {cA14 : ClassId} {cA15 : ClassId} {cA16 : ClassId} {cA17 : ClassId} {cA18 : ClassId} (C0 : lw_At p s m meth c b 7 xs) (hAe : A = fun q => s.heap.size ≤ q) (hN : nst s) {H : Heap} {locs : List Loc} (hK : va_K (dC, dI) vwCl [(cA4, .byte), (cA7, .int), (cA8, .int), (cA9, .int), (cA14, .byte), (cA15, .int), (cA16, .int), (cA17, .int), (cA18, .boolean)] s) (hP : va_P (dC, dI) vwCl [(q1, .inr (11, fsX g3)), ((g3 0), .inl (cA4, 1200, .inl (fun _ => 0))), ((g3 5), .inr (5, [.ref (g5 0), .ref (g5 1), .ref (g5 2), .ref (g5 3), .ref (g5 4), .int 0, .ref (g5 6), .ref (g5 7), .ref (g5 8), .int 0, .int 0, .int 0, .int 0, .int 0, .int 0, .ref (g5 15), .ref (g5 16), .int 0, .int 0])), ((g5 0), .inr (9, [.ref (g6 0), .ref (g6 1), .ref (g6 2), .int 0, .int 0, .int 0, .int 0])), ((g6 0), .inl (cA7, 1201, .inl (fun _ => 0))), ((g6 1), .inl (cA8, 1201, .inl (fun _ => 0))), ((g6 2), .inl (cA9, 1201, .inl (fun _ => 0))), ((g3 8), .inr (7, [.ref (g3 4), .int 0, .int 0, .int 0, .ref (g10 4), .ref (g10 5), .ref (g10 6), .ref (g10 7), .ref (g10 8), .ref (g10 9), .int 0, .int 0, .int 0, .int 0, .null, .int 0, .int 0])), (q11, .inr (12, fsM g13)), ((g13 1), .inl (cA14, 1200, .inl (fun _ => 0))), ((g13 35), .inl (cA15, 6, .inl (fun _ => 0))), ((g13 36), .inl (cA16, 6, .inl (fun _ => 0))), ((g13 37), .inl (cA17, 6, .inl (fun _ => 0))), ((g13 48), .inl (cA18, 6, .inl (fun _ => 0)))] H) (hD : va_D A [(q1, .inr (11, fsX g3)), ((g3 0), .inl (cA4, 1200, .inl (fun _ => 0))), ((g3 5), .inr (5, [.ref (g5 0), .ref (g5 1), .ref (g5 2), .ref (g5 3), .ref (g5 4), .int 0, .ref (g5 6), .ref (g5 7), .ref (g5 8), .int 0, .int 0, .int 0, .int 0, .int 0, .int 0, .ref (g5 15), .ref (g5 16), .int 0, .int 0])), ((g5 0), .inr (9, [.ref (g6 0), .ref (g6 1), .ref (g6 2), .int 0, .int 0, .int 0, .int 0])), ((g6 0), .inl (cA7, 1201, .inl (fun _ => 0))), ((g6 1), .inl (cA8, 1201, .inl (fun _ => 0))), ((g6 2), .inl (cA9, 1201, .inl (fun _ => 0))), ((g3 8), .inr (7, [.ref (g3 4), .int 0, .int 0, .int 0, .ref (g10 4), .ref (g10 5), .ref (g10 6), .ref (g10 7), .ref (g10 8), .ref (g10 9), .int 0, .int 0, .int 0, .int 0, .null, .int 0, .int 0])), (q11, .inr (12, fsM g13)), ((g13 1), .inl (cA14, 1200, .inl (fun _ => 0))), ((g13 35), .inl (cA15, 6, .inl (fun _ => 0))), ((g13 36), .inl (cA16, 6, .inl (fun _ => 0))), ((g13 37), .inl (cA17, 6, .inl (fun _ => 0))), ((g13 48), .inl (cA18, 6, .inl (fun _ => 0)))]) (hS : va_S A s.heap H locs) (ls : Array Slot) (hl : lv_has ls 4 [(3, .int 0), (2, .ref q11), (1, .ref q1), (0, .ref b)]) : W p l e room_1 s m #[Value.ref b] below meth c H locs 257 1146073 (lw_Z below #[Value.ref b] s) (F0 m 361 ls []) := by
  obtain ⟨hx, hb, hr, hml, hown, hts, hX, hbl, hlocks, hgv⟩ := id C0
  have hts : ∀ w ∈ w_law, w.before #[Value.ref b] s = true := fun w h => hts w (w_law_in w h)
  have hown : s.vm.findClass RL = some m.cls := hown
  have hA : ∀ q : Nat, s.heap.size ≤ q → A q := fun q h => by rw [hAe]; exact h
  have hbA : ¬ A b := by rw [hAe]; exact Nat.not_le.mpr hbl
  refine lv_aload_n hx hb dL_law_361 rfl (lv_at hl 2 rfl) ?_
  refine lv_aload_n hx hb dL_law_362 rfl (lv_at hl 3 rfl) ?_
  refine lv_iload_n hx hb dL_law_363 rfl (lv_at hl 0 rfl) ?_
  refine lv_iconst (v := 1) hx hb dL_law_364 (by decide) ?_
  refine lv_iadd hx hb dL_law_365 ?_
  refine vx_topc (v := 1) (by decide) ?_
  refine va_sld hx hb hX hbl hbA hS (vx_in (by decide)) dL_law_366 ?_
  refine lv_aload_n hx hb dL_law_367 rfl (lv_at hl 3 rfl) ?_
  refine lv_iload_n hx hb dL_law_368 rfl (lv_at hl 0 rfl) ?_
  refine lv_iconst (v := 2) hx hb dL_law_369 (by decide) ?_
  refine lv_iadd hx hb dL_law_370 ?_
  refine vx_topc (v := 2) (by decide) ?_
  refine va_sld hx hb hX hbl hbA hS (vx_in (by decide)) dL_law_371 ?_
  refine lv_aload_n hx hb dL_law_372 rfl (lv_at hl 3 rfl) ?_
  refine lv_iload_n hx hb dL_law_373 rfl (lv_at hl 0 rfl) ?_
  refine lv_iconst (v := 3) hx hb dL_law_374 (by decide) ?_
  refine lv_iadd hx hb dL_law_375 ?_
  refine vx_topc (v := 3) (by decide) ?_
  refine va_sld hx hb hX hbl hbA hS (vx_in (by decide)) dL_law_376 ?_
  refine lv_aload_n hx hb dL_law_377 rfl (lv_at hl 3 rfl) ?_
  refine lv_iload_n hx hb dL_law_378 rfl (lv_at hl 0 rfl) ?_
  refine lv_iconst (v := 4) hx hb dL_law_379 (by decide) ?_
  refine lv_iadd hx hb dL_law_380 ?_
  refine vx_topc (v := 4) (by decide) ?_
  refine va_sld hx hb hX hbl hbA hS (vx_in (by decide)) dL_law_381 ?_
  refine lv_aload_n hx hb dL_law_382 rfl (lv_at hl 3 rfl) ?_
  refine lv_iload_n hx hb dL_law_383 rfl (lv_at hl 0 rfl) ?_
  refine lv_iconst (v := 5) hx hb dL_law_384 (by decide) ?_
  refine lv_iadd hx hb dL_law_385 ?_
  refine vx_topc (v := 5) (by decide) ?_
  refine va_sld hx hb hX hbl hbA hS (vx_in (by decide)) dL_law_386 ?_
  have hPc := hP.sub (ws' := [(q1, .inr (11, fsX g3))]) [0] rfl
  have hDc := hD.sub (ws' := [(q1, .inr (11, fsX g3))]) [0] (by decide) rfl
  have hKc := hK.sub (tys' := []) [] rfl
  have hFc := va_free (wc := [(q1, .inr (11, fsX g3))]) hD hS hA [0] rfl
  refine va_calli (va_runV (As := [.int (xs (1 : Int32).toNatClampNeg), .int (xs (2 : Int32).toNatClampNeg), .int (xs (3 : Int32).toNatClampNeg), .int (xs (4 : Int32).toNatClampNeg), .int (xs (5 : Int32).toNatClampNeg)]) (rest := []) ⟨hx, hb, hml, hown, hts⟩ (x_told l dC dI q1 g3 (xs (1 : Int32).toNatClampNeg) (xs (2 : Int32).toNatClampNeg) (xs (3 : Int32).toNatClampNeg) (xs (4 : Int32).toNatClampNeg) (xs (5 : Int32).toNatClampNeg) H.size ) (cwV 5 hts g_law_x_told_46 rfl rfl rfl (by decide +kernel) ⟨(Nat.le_of_ble_eq_true rfl), (Nat.le_of_ble_eq_true rfl)⟩) (vx_preV (ci := 11) (q0 := 0) hPc hKc hDc hN rfl rfl) rfl rfl hl.1 rfl (lv_room (Nat.le_of_ble_eq_true rfl)) dL_law_387 ⟨(Nat.le_of_ble_eq_true rfl), (Nat.le_of_ble_eq_true rfl)⟩) hS (fun q _ h => hFc q h) hFc (fun r5001 u t H1 locs ht hvm hw hB hz1 hk1 hS => ?_)
  obtain ⟨hP1, hK1, hD1⟩ := hB
  rw [ht] at hP1
  obtain ⟨hP, hD⟩ := va_join (wr := [((g3 0), .inl (cA4, 1200, .inl (fun _ => 0))), ((g3 5), .inr (5, [.ref (g5 0), .ref (g5 1), .ref (g5 2), .ref (g5 3), .ref (g5 4), .int 0, .ref (g5 6), .ref (g5 7), .ref (g5 8), .int 0, .int 0, .int 0, .int 0, .int 0, .int 0, .ref (g5 15), .ref (g5 16), .int 0, .int 0])), ((g5 0), .inr (9, [.ref (g6 0), .ref (g6 1), .ref (g6 2), .int 0, .int 0, .int 0, .int 0])), ((g6 0), .inl (cA7, 1201, .inl (fun _ => 0))), ((g6 1), .inl (cA8, 1201, .inl (fun _ => 0))), ((g6 2), .inl (cA9, 1201, .inl (fun _ => 0))), ((g3 8), .inr (7, [.ref (g3 4), .int 0, .int 0, .int 0, .ref (g10 4), .ref (g10 5), .ref (g10 6), .ref (g10 7), .ref (g10 8), .ref (g10 9), .int 0, .int 0, .int 0, .int 0, .null, .int 0, .int 0])), (q11, .inr (12, fsM g13)), ((g13 1), .inl (cA14, 1200, .inl (fun _ => 0))), ((g13 35), .inl (cA15, 6, .inl (fun _ => 0))), ((g13 36), .inl (cA16, 6, .inl (fun _ => 0))), ((g13 37), .inl (cA17, 6, .inl (fun _ => 0))), ((g13 48), .inl (cA18, 6, .inl (fun _ => 0)))]) (w1 := []) hP hD [0] [1, 2, 3, 4, 5, 6, 7, 8, 9, 10, 11, 12, 13] rfl rfl (by decide) (by decide) hk1 hFc hP1 hD1
  generalize H1 = H at hP hS ⊢
  have hP : va_P (dC, dI) vwCl [((g3 0), .inl (cA4, 1200, .inl (fun _ => 0))), ((g3 5), .inr (5, [.ref (g5 0), .ref (g5 1), .ref (g5 2), .ref (g5 3), .ref (g5 4), .int 0, .ref (g5 6), .ref (g5 7), .ref (g5 8), .int 0, .int 0, .int 0, .int 0, .int 0, .int 0, .ref (g5 15), .ref (g5 16), .int 0, .int 0])), ((g5 0), .inr (9, [.ref (g6 0), .ref (g6 1), .ref (g6 2), .int 0, .int 0, .int 0, .int 0])), ((g6 0), .inl (cA7, 1201, .inl (fun _ => 0))), ((g6 1), .inl (cA8, 1201, .inl (fun _ => 0))), ((g6 2), .inl (cA9, 1201, .inl (fun _ => 0))), ((g3 8), .inr (7, [.ref (g3 4), .int 0, .int 0, .int 0, .ref (g10 4), .ref (g10 5), .ref (g10 6), .ref (g10 7), .ref (g10 8), .ref (g10 9), .int 0, .int 0, .int 0, .int 0, .null, .int 0, .int 0])), (q11, .inr (12, fsM g13)), ((g13 1), .inl (cA14, 1200, .inl (fun _ => 0))), ((g13 35), .inl (cA15, 6, .inl (fun _ => 0))), ((g13 36), .inl (cA16, 6, .inl (fun _ => 0))), ((g13 37), .inl (cA17, 6, .inl (fun _ => 0))), ((g13 48), .inl (cA18, 6, .inl (fun _ => 0)))] H := hP
  have hD : va_D A [((g3 0), .inl (cA4, 1200, .inl (fun _ => 0))), ((g3 5), .inr (5, [.ref (g5 0), .ref (g5 1), .ref (g5 2), .ref (g5 3), .ref (g5 4), .int 0, .ref (g5 6), .ref (g5 7), .ref (g5 8), .int 0, .int 0, .int 0, .int 0, .int 0, .int 0, .ref (g5 15), .ref (g5 16), .int 0, .int 0])), ((g5 0), .inr (9, [.ref (g6 0), .ref (g6 1), .ref (g6 2), .int 0, .int 0, .int 0, .int 0])), ((g6 0), .inl (cA7, 1201, .inl (fun _ => 0))), ((g6 1), .inl (cA8, 1201, .inl (fun _ => 0))), ((g6 2), .inl (cA9, 1201, .inl (fun _ => 0))), ((g3 8), .inr (7, [.ref (g3 4), .int 0, .int 0, .int 0, .ref (g10 4), .ref (g10 5), .ref (g10 6), .ref (g10 7), .ref (g10 8), .ref (g10 9), .int 0, .int 0, .int 0, .int 0, .null, .int 0, .int 0])), (q11, .inr (12, fsM g13)), ((g13 1), .inl (cA14, 1200, .inl (fun _ => 0))), ((g13 35), .inl (cA15, 6, .inl (fun _ => 0))), ((g13 36), .inl (cA16, 6, .inl (fun _ => 0))), ((g13 37), .inl (cA17, 6, .inl (fun _ => 0))), ((g13 48), .inl (cA18, 6, .inl (fun _ => 0)))] := hD
  refine W.widen (k := 257) (n := 1146073) (by decide) (by decide) ?_
  try dsimp only at hw
  subst hw
  refine lv_aload_n hx hb dL_law_390 rfl (lv_at hl 1 rfl) ?_
  refine lv_aload_n hx hb dL_law_391 rfl (lv_at hl 3 rfl) ?_
  refine lv_iload_n hx hb dL_law_392 rfl (lv_at hl 0 rfl) ?_
  refine lv_iconst (v := 1) hx hb dL_law_393 (by decide) ?_
  refine lv_iadd hx hb dL_law_394 ?_
  refine vx_topc (v := 1) (by decide) ?_
  refine va_sld hx hb hX hbl hbA hS (vx_in (by decide)) dL_law_395 ?_
  refine lv_aload_n hx hb dL_law_396 rfl (lv_at hl 3 rfl) ?_
  refine lv_iload_n hx hb dL_law_397 rfl (lv_at hl 0 rfl) ?_
  refine lv_iconst (v := 2) hx hb dL_law_398 (by decide) ?_
  refine lv_iadd hx hb dL_law_399 ?_
  refine vx_topc (v := 2) (by decide) ?_
  refine va_sld hx hb hX hbl hbA hS (vx_in (by decide)) dL_law_400 ?_
  refine lv_aload_n hx hb dL_law_401 rfl (lv_at hl 3 rfl) ?_
  refine lv_iload_n hx hb dL_law_402 rfl (lv_at hl 0 rfl) ?_
  refine lv_iconst (v := 3) hx hb dL_law_403 (by decide) ?_
  refine lv_iadd hx hb dL_law_404 ?_
  refine vx_topc (v := 3) (by decide) ?_
  refine va_sld hx hb hX hbl hbA hS (vx_in (by decide)) dL_law_405 ?_
  refine lv_aload_n hx hb dL_law_406 rfl (lv_at hl 3 rfl) ?_
  refine lv_iload_n hx hb dL_law_407 rfl (lv_at hl 0 rfl) ?_
  refine lv_iconst (v := 4) hx hb dL_law_408 (by decide) ?_
  refine lv_iadd hx hb dL_law_409 ?_
  refine vx_topc (v := 4) (by decide) ?_
  refine va_sld hx hb hX hbl hbA hS (vx_in (by decide)) dL_law_410 ?_
  refine lv_aload_n hx hb dL_law_411 rfl (lv_at hl 3 rfl) ?_
  refine lv_iload_n hx hb dL_law_412 rfl (lv_at hl 0 rfl) ?_
  refine lv_iconst (v := 5) hx hb dL_law_413 (by decide) ?_
  refine lv_iadd hx hb dL_law_414 ?_
  refine vx_topc (v := 5) (by decide) ?_
  refine va_sld hx hb hX hbl hbA hS (vx_in (by decide)) dL_law_415 ?_
  have hPc := hP.sub (ws' := [(q11, .inr (12, fsM g13))]) [7] rfl
  have hDc := hD.sub (ws' := [(q11, .inr (12, fsM g13))]) [7] (by decide) rfl
  have hKc := hK.sub (tys' := []) [] rfl
  have hFc := va_free (wc := [(q11, .inr (12, fsM g13))]) hD hS hA [7] rfl
  refine va_calli (va_runV (As := [.int (xs (1 : Int32).toNatClampNeg), .int (xs (2 : Int32).toNatClampNeg), .int (xs (3 : Int32).toNatClampNeg), .int (xs (4 : Int32).toNatClampNeg), .int (xs (5 : Int32).toNatClampNeg)]) (rest := [.int (-1)]) ⟨hx, hb, hml, hown, hts⟩ (m_told l dC dI q11 g13 (xs (1 : Int32).toNatClampNeg) (xs (2 : Int32).toNatClampNeg) (xs (3 : Int32).toNatClampNeg) (xs (4 : Int32).toNatClampNeg) (xs (5 : Int32).toNatClampNeg) H.size ) (cwV 5 hts g_law_m_told_49 rfl rfl rfl (by decide +kernel) ⟨(Nat.le_of_ble_eq_true rfl), (Nat.le_of_ble_eq_true rfl)⟩) (vx_preV (ci := 12) (q0 := 0) hPc hKc hDc hN rfl rfl) rfl rfl hl.1 rfl (lv_room (Nat.le_of_ble_eq_true rfl)) dL_law_416 ⟨(Nat.le_of_ble_eq_true rfl), (Nat.le_of_ble_eq_true rfl)⟩) hS (fun q _ h => hFc q h) hFc (fun r5002 u t H1 locs ht hvm hw hB hz1 hk1 hS => ?_)
  obtain ⟨hP1, hK1, hD1⟩ := hB
  rw [ht] at hP1
  obtain ⟨hP, hD⟩ := va_join (wr := [((g3 0), .inl (cA4, 1200, .inl (fun _ => 0))), ((g3 5), .inr (5, [.ref (g5 0), .ref (g5 1), .ref (g5 2), .ref (g5 3), .ref (g5 4), .int 0, .ref (g5 6), .ref (g5 7), .ref (g5 8), .int 0, .int 0, .int 0, .int 0, .int 0, .int 0, .ref (g5 15), .ref (g5 16), .int 0, .int 0])), ((g5 0), .inr (9, [.ref (g6 0), .ref (g6 1), .ref (g6 2), .int 0, .int 0, .int 0, .int 0])), ((g6 0), .inl (cA7, 1201, .inl (fun _ => 0))), ((g6 1), .inl (cA8, 1201, .inl (fun _ => 0))), ((g6 2), .inl (cA9, 1201, .inl (fun _ => 0))), ((g3 8), .inr (7, [.ref (g3 4), .int 0, .int 0, .int 0, .ref (g10 4), .ref (g10 5), .ref (g10 6), .ref (g10 7), .ref (g10 8), .ref (g10 9), .int 0, .int 0, .int 0, .int 0, .null, .int 0, .int 0])), ((g13 1), .inl (cA14, 1200, .inl (fun _ => 0))), ((g13 35), .inl (cA15, 6, .inl (fun _ => 0))), ((g13 36), .inl (cA16, 6, .inl (fun _ => 0))), ((g13 37), .inl (cA17, 6, .inl (fun _ => 0))), ((g13 48), .inl (cA18, 6, .inl (fun _ => 0)))]) (w1 := []) hP hD [7] [0, 1, 2, 3, 4, 5, 6, 8, 9, 10, 11, 12] rfl rfl (by decide) (by decide) hk1 hFc hP1 hD1
  generalize H1 = H at hP hS ⊢
  have hP : va_P (dC, dI) vwCl [((g3 0), .inl (cA4, 1200, .inl (fun _ => 0))), ((g3 5), .inr (5, [.ref (g5 0), .ref (g5 1), .ref (g5 2), .ref (g5 3), .ref (g5 4), .int 0, .ref (g5 6), .ref (g5 7), .ref (g5 8), .int 0, .int 0, .int 0, .int 0, .int 0, .int 0, .ref (g5 15), .ref (g5 16), .int 0, .int 0])), ((g5 0), .inr (9, [.ref (g6 0), .ref (g6 1), .ref (g6 2), .int 0, .int 0, .int 0, .int 0])), ((g6 0), .inl (cA7, 1201, .inl (fun _ => 0))), ((g6 1), .inl (cA8, 1201, .inl (fun _ => 0))), ((g6 2), .inl (cA9, 1201, .inl (fun _ => 0))), ((g3 8), .inr (7, [.ref (g3 4), .int 0, .int 0, .int 0, .ref (g10 4), .ref (g10 5), .ref (g10 6), .ref (g10 7), .ref (g10 8), .ref (g10 9), .int 0, .int 0, .int 0, .int 0, .null, .int 0, .int 0])), ((g13 1), .inl (cA14, 1200, .inl (fun _ => 0))), ((g13 35), .inl (cA15, 6, .inl (fun _ => 0))), ((g13 36), .inl (cA16, 6, .inl (fun _ => 0))), ((g13 37), .inl (cA17, 6, .inl (fun _ => 0))), ((g13 48), .inl (cA18, 6, .inl (fun _ => 0)))] H := hP
  have hD : va_D A [((g3 0), .inl (cA4, 1200, .inl (fun _ => 0))), ((g3 5), .inr (5, [.ref (g5 0), .ref (g5 1), .ref (g5 2), .ref (g5 3), .ref (g5 4), .int 0, .ref (g5 6), .ref (g5 7), .ref (g5 8), .int 0, .int 0, .int 0, .int 0, .int 0, .int 0, .ref (g5 15), .ref (g5 16), .int 0, .int 0])), ((g5 0), .inr (9, [.ref (g6 0), .ref (g6 1), .ref (g6 2), .int 0, .int 0, .int 0, .int 0])), ((g6 0), .inl (cA7, 1201, .inl (fun _ => 0))), ((g6 1), .inl (cA8, 1201, .inl (fun _ => 0))), ((g6 2), .inl (cA9, 1201, .inl (fun _ => 0))), ((g3 8), .inr (7, [.ref (g3 4), .int 0, .int 0, .int 0, .ref (g10 4), .ref (g10 5), .ref (g10 6), .ref (g10 7), .ref (g10 8), .ref (g10 9), .int 0, .int 0, .int 0, .int 0, .null, .int 0, .int 0])), ((g13 1), .inl (cA14, 1200, .inl (fun _ => 0))), ((g13 35), .inl (cA15, 6, .inl (fun _ => 0))), ((g13 36), .inl (cA16, 6, .inl (fun _ => 0))), ((g13 37), .inl (cA17, 6, .inl (fun _ => 0))), ((g13 48), .inl (cA18, 6, .inl (fun _ => 0)))] := hD
  refine W.widen (k := 257) (n := 1146073) (by decide) (by decide) ?_
  try dsimp only at hw
  subst hw
  refine lv_icmp_eq (tgt := 796) hx hb dL_law_419 (by decide) (fun _ => ?_) (fun h => absurd (by decide) h)
  exact law_tail C0 hAe (Nat.le_of_ble_eq_true rfl) (Nat.le_of_ble_eq_true rfl) hS ls (lv_sub hl [0, 3] rfl)
set_option maxHeartbeats 4000000 in
set_option maxRecDepth 100000 in
theorem law_8 {p : Program} {l : Launch} {e : Env} {s : State} {m : MethodId} {below : List Frame} {meth : Method} {c : Code} {dC : Nat → ClassId} {dI : Nat → Nat → Nat} {b : Nat} {xs : Nat → Int32} {A : Nat → Prop} {q11 : Nat} {q1 : Nat} {g3 : Nat → Nat} {cA4 : ClassId} {g5 : Nat → Nat} {g6 : Nat → Nat} {cA7 : ClassId} {cA8 : ClassId} {cA9 : ClassId} {g10 : Nat → Nat} {g13 : Nat → Nat} {cA14 : ClassId} {cA15 : ClassId} {cA16 : ClassId} {cA17 : ClassId} {cA18 : ClassId} (C0 : lw_At p s m meth c b 7 xs) (hAe : A = fun q => s.heap.size ≤ q) (hN : nst s) {H : Heap} {locs : List Loc} (hK : va_K (dC, dI) vwCl [(cA4, .byte), (cA7, .int), (cA8, .int), (cA9, .int), (cA14, .byte), (cA15, .int), (cA16, .int), (cA17, .int), (cA18, .boolean)] s) (hP : va_P (dC, dI) vwCl [(q1, .inr (11, fsX g3)), ((g3 0), .inl (cA4, 1200, .inl (fun _ => 0))), ((g3 5), .inr (5, [.ref (g5 0), .ref (g5 1), .ref (g5 2), .ref (g5 3), .ref (g5 4), .int 0, .ref (g5 6), .ref (g5 7), .ref (g5 8), .int 0, .int 0, .int 0, .int 0, .int 0, .int 0, .ref (g5 15), .ref (g5 16), .int 0, .int 0])), ((g5 0), .inr (9, [.ref (g6 0), .ref (g6 1), .ref (g6 2), .int 0, .int 0, .int 0, .int 0])), ((g6 0), .inl (cA7, 1201, .inl (fun _ => 0))), ((g6 1), .inl (cA8, 1201, .inl (fun _ => 0))), ((g6 2), .inl (cA9, 1201, .inl (fun _ => 0))), ((g3 8), .inr (7, [.ref (g3 4), .int 0, .int 0, .int 0, .ref (g10 4), .ref (g10 5), .ref (g10 6), .ref (g10 7), .ref (g10 8), .ref (g10 9), .int 0, .int 0, .int 0, .int 0, .null, .int 0, .int 0])), (q11, .inr (12, fsM g13)), ((g13 1), .inl (cA14, 1200, .inl (fun _ => 0))), ((g13 35), .inl (cA15, 6, .inl (fun _ => 0))), ((g13 36), .inl (cA16, 6, .inl (fun _ => 0))), ((g13 37), .inl (cA17, 6, .inl (fun _ => 0))), ((g13 48), .inl (cA18, 6, .inl (fun _ => 0)))] H) (hD : va_D A [(q1, .inr (11, fsX g3)), ((g3 0), .inl (cA4, 1200, .inl (fun _ => 0))), ((g3 5), .inr (5, [.ref (g5 0), .ref (g5 1), .ref (g5 2), .ref (g5 3), .ref (g5 4), .int 0, .ref (g5 6), .ref (g5 7), .ref (g5 8), .int 0, .int 0, .int 0, .int 0, .int 0, .int 0, .ref (g5 15), .ref (g5 16), .int 0, .int 0])), ((g5 0), .inr (9, [.ref (g6 0), .ref (g6 1), .ref (g6 2), .int 0, .int 0, .int 0, .int 0])), ((g6 0), .inl (cA7, 1201, .inl (fun _ => 0))), ((g6 1), .inl (cA8, 1201, .inl (fun _ => 0))), ((g6 2), .inl (cA9, 1201, .inl (fun _ => 0))), ((g3 8), .inr (7, [.ref (g3 4), .int 0, .int 0, .int 0, .ref (g10 4), .ref (g10 5), .ref (g10 6), .ref (g10 7), .ref (g10 8), .ref (g10 9), .int 0, .int 0, .int 0, .int 0, .null, .int 0, .int 0])), (q11, .inr (12, fsM g13)), ((g13 1), .inl (cA14, 1200, .inl (fun _ => 0))), ((g13 35), .inl (cA15, 6, .inl (fun _ => 0))), ((g13 36), .inl (cA16, 6, .inl (fun _ => 0))), ((g13 37), .inl (cA17, 6, .inl (fun _ => 0))), ((g13 48), .inl (cA18, 6, .inl (fun _ => 0)))]) (hS : va_S A s.heap H locs) (ls : Array Slot) (hl : lv_has ls 4 [(3, .int 0), (2, .ref q11), (1, .ref q1), (0, .ref b)]) : W p l e room_1 s m #[Value.ref b] below meth c H locs 257 1146073 (lw_Z below #[Value.ref b] s) (F0 m 424 ls []) := by
  obtain ⟨hx, hb, hr, hml, hown, hts, hX, hbl, hlocks, hgv⟩ := id C0
  have hts : ∀ w ∈ w_law, w.before #[Value.ref b] s = true := fun w h => hts w (w_law_in w h)
  have hown : s.vm.findClass RL = some m.cls := hown
  have hA : ∀ q : Nat, s.heap.size ≤ q → A q := fun q h => by rw [hAe]; exact h
  have hbA : ¬ A b := by rw [hAe]; exact Nat.not_le.mpr hbl
  refine lv_aload_n hx hb dL_law_424 rfl (lv_at hl 2 rfl) ?_
  refine lv_aload_n hx hb dL_law_425 rfl (lv_at hl 3 rfl) ?_
  refine lv_iload_n hx hb dL_law_426 rfl (lv_at hl 0 rfl) ?_
  refine lv_iconst (v := 1) hx hb dL_law_427 (by decide) ?_
  refine lv_iadd hx hb dL_law_428 ?_
  refine vx_topc (v := 1) (by decide) ?_
  refine va_sld hx hb hX hbl hbA hS (vx_in (by decide)) dL_law_429 ?_
  refine lv_aload_n hx hb dL_law_430 rfl (lv_at hl 3 rfl) ?_
  refine lv_iload_n hx hb dL_law_431 rfl (lv_at hl 0 rfl) ?_
  refine lv_iconst (v := 2) hx hb dL_law_432 (by decide) ?_
  refine lv_iadd hx hb dL_law_433 ?_
  refine vx_topc (v := 2) (by decide) ?_
  refine va_sld hx hb hX hbl hbA hS (vx_in (by decide)) dL_law_434 ?_
  have hPc := hP.sub (ws' := [(q1, .inr (11, fsX g3))]) [0] rfl
  have hDc := hD.sub (ws' := [(q1, .inr (11, fsX g3))]) [0] (by decide) rfl
  have hKc := hK.sub (tys' := []) [] rfl
  have hFc := va_free (wc := [(q1, .inr (11, fsX g3))]) hD hS hA [0] rfl
  refine va_calli (va_runV (As := [.int (xs (1 : Int32).toNatClampNeg), .int (xs (2 : Int32).toNatClampNeg)]) (rest := []) ⟨hx, hb, hml, hown, hts⟩ (x_pass l dC dI q1 g3 (xs (1 : Int32).toNatClampNeg) (xs (2 : Int32).toNatClampNeg) H.size ) (cwV 2 hts g_law_x_pass_50 rfl rfl rfl (by decide +kernel) ⟨(Nat.le_of_ble_eq_true rfl), (Nat.le_of_ble_eq_true rfl)⟩) (vx_preV (ci := 11) (q0 := 0) hPc hKc hDc hN rfl rfl) rfl rfl hl.1 rfl (lv_room (Nat.le_of_ble_eq_true rfl)) dL_law_435 ⟨(Nat.le_of_ble_eq_true rfl), (Nat.le_of_ble_eq_true rfl)⟩) hS (fun q _ h => hFc q h) hFc (fun r5001 u t H1 locs ht hvm hw hB hz1 hk1 hS => ?_)
  obtain ⟨hP1, hK1, hD1⟩ := hB
  rw [ht] at hP1
  obtain ⟨hP, hD⟩ := va_join (wr := [((g3 0), .inl (cA4, 1200, .inl (fun _ => 0))), ((g3 5), .inr (5, [.ref (g5 0), .ref (g5 1), .ref (g5 2), .ref (g5 3), .ref (g5 4), .int 0, .ref (g5 6), .ref (g5 7), .ref (g5 8), .int 0, .int 0, .int 0, .int 0, .int 0, .int 0, .ref (g5 15), .ref (g5 16), .int 0, .int 0])), ((g5 0), .inr (9, [.ref (g6 0), .ref (g6 1), .ref (g6 2), .int 0, .int 0, .int 0, .int 0])), ((g6 0), .inl (cA7, 1201, .inl (fun _ => 0))), ((g6 1), .inl (cA8, 1201, .inl (fun _ => 0))), ((g6 2), .inl (cA9, 1201, .inl (fun _ => 0))), ((g3 8), .inr (7, [.ref (g3 4), .int 0, .int 0, .int 0, .ref (g10 4), .ref (g10 5), .ref (g10 6), .ref (g10 7), .ref (g10 8), .ref (g10 9), .int 0, .int 0, .int 0, .int 0, .null, .int 0, .int 0])), (q11, .inr (12, fsM g13)), ((g13 1), .inl (cA14, 1200, .inl (fun _ => 0))), ((g13 35), .inl (cA15, 6, .inl (fun _ => 0))), ((g13 36), .inl (cA16, 6, .inl (fun _ => 0))), ((g13 37), .inl (cA17, 6, .inl (fun _ => 0))), ((g13 48), .inl (cA18, 6, .inl (fun _ => 0)))]) (w1 := []) hP hD [0] [1, 2, 3, 4, 5, 6, 7, 8, 9, 10, 11, 12, 13] rfl rfl (by decide) (by decide) hk1 hFc hP1 hD1
  generalize H1 = H at hP hS ⊢
  have hP : va_P (dC, dI) vwCl [((g3 0), .inl (cA4, 1200, .inl (fun _ => 0))), ((g3 5), .inr (5, [.ref (g5 0), .ref (g5 1), .ref (g5 2), .ref (g5 3), .ref (g5 4), .int 0, .ref (g5 6), .ref (g5 7), .ref (g5 8), .int 0, .int 0, .int 0, .int 0, .int 0, .int 0, .ref (g5 15), .ref (g5 16), .int 0, .int 0])), ((g5 0), .inr (9, [.ref (g6 0), .ref (g6 1), .ref (g6 2), .int 0, .int 0, .int 0, .int 0])), ((g6 0), .inl (cA7, 1201, .inl (fun _ => 0))), ((g6 1), .inl (cA8, 1201, .inl (fun _ => 0))), ((g6 2), .inl (cA9, 1201, .inl (fun _ => 0))), ((g3 8), .inr (7, [.ref (g3 4), .int 0, .int 0, .int 0, .ref (g10 4), .ref (g10 5), .ref (g10 6), .ref (g10 7), .ref (g10 8), .ref (g10 9), .int 0, .int 0, .int 0, .int 0, .null, .int 0, .int 0])), (q11, .inr (12, fsM g13)), ((g13 1), .inl (cA14, 1200, .inl (fun _ => 0))), ((g13 35), .inl (cA15, 6, .inl (fun _ => 0))), ((g13 36), .inl (cA16, 6, .inl (fun _ => 0))), ((g13 37), .inl (cA17, 6, .inl (fun _ => 0))), ((g13 48), .inl (cA18, 6, .inl (fun _ => 0)))] H := hP
  have hD : va_D A [((g3 0), .inl (cA4, 1200, .inl (fun _ => 0))), ((g3 5), .inr (5, [.ref (g5 0), .ref (g5 1), .ref (g5 2), .ref (g5 3), .ref (g5 4), .int 0, .ref (g5 6), .ref (g5 7), .ref (g5 8), .int 0, .int 0, .int 0, .int 0, .int 0, .int 0, .ref (g5 15), .ref (g5 16), .int 0, .int 0])), ((g5 0), .inr (9, [.ref (g6 0), .ref (g6 1), .ref (g6 2), .int 0, .int 0, .int 0, .int 0])), ((g6 0), .inl (cA7, 1201, .inl (fun _ => 0))), ((g6 1), .inl (cA8, 1201, .inl (fun _ => 0))), ((g6 2), .inl (cA9, 1201, .inl (fun _ => 0))), ((g3 8), .inr (7, [.ref (g3 4), .int 0, .int 0, .int 0, .ref (g10 4), .ref (g10 5), .ref (g10 6), .ref (g10 7), .ref (g10 8), .ref (g10 9), .int 0, .int 0, .int 0, .int 0, .null, .int 0, .int 0])), (q11, .inr (12, fsM g13)), ((g13 1), .inl (cA14, 1200, .inl (fun _ => 0))), ((g13 35), .inl (cA15, 6, .inl (fun _ => 0))), ((g13 36), .inl (cA16, 6, .inl (fun _ => 0))), ((g13 37), .inl (cA17, 6, .inl (fun _ => 0))), ((g13 48), .inl (cA18, 6, .inl (fun _ => 0)))] := hD
  refine W.widen (k := 257) (n := 1146073) (by decide) (by decide) ?_
  try dsimp only at hw
  subst hw
  refine lv_aload_n hx hb dL_law_438 rfl (lv_at hl 1 rfl) ?_
  refine lv_aload_n hx hb dL_law_439 rfl (lv_at hl 3 rfl) ?_
  refine lv_iload_n hx hb dL_law_440 rfl (lv_at hl 0 rfl) ?_
  refine lv_iconst (v := 1) hx hb dL_law_441 (by decide) ?_
  refine lv_iadd hx hb dL_law_442 ?_
  refine vx_topc (v := 1) (by decide) ?_
  refine va_sld hx hb hX hbl hbA hS (vx_in (by decide)) dL_law_443 ?_
  refine lv_aload_n hx hb dL_law_444 rfl (lv_at hl 3 rfl) ?_
  refine lv_iload_n hx hb dL_law_445 rfl (lv_at hl 0 rfl) ?_
  refine lv_iconst (v := 2) hx hb dL_law_446 (by decide) ?_
  refine lv_iadd hx hb dL_law_447 ?_
  refine vx_topc (v := 2) (by decide) ?_
  refine va_sld hx hb hX hbl hbA hS (vx_in (by decide)) dL_law_448 ?_
  have hPc := hP.sub (ws' := [(q11, .inr (12, fsM g13))]) [7] rfl
  have hDc := hD.sub (ws' := [(q11, .inr (12, fsM g13))]) [7] (by decide) rfl
  have hKc := hK.sub (tys' := []) [] rfl
  have hFc := va_free (wc := [(q11, .inr (12, fsM g13))]) hD hS hA [7] rfl
  refine va_calli (va_runV (As := [.int (xs (1 : Int32).toNatClampNeg), .int (xs (2 : Int32).toNatClampNeg)]) (rest := [.int (-1)]) ⟨hx, hb, hml, hown, hts⟩ (m_pass l dC dI q11 g13 (xs (1 : Int32).toNatClampNeg) (xs (2 : Int32).toNatClampNeg) H.size ) (cwV 2 hts g_law_m_pass_53 rfl rfl rfl (by decide +kernel) ⟨(Nat.le_of_ble_eq_true rfl), (Nat.le_of_ble_eq_true rfl)⟩) (vx_preV (ci := 12) (q0 := 0) hPc hKc hDc hN rfl rfl) rfl rfl hl.1 rfl (lv_room (Nat.le_of_ble_eq_true rfl)) dL_law_449 ⟨(Nat.le_of_ble_eq_true rfl), (Nat.le_of_ble_eq_true rfl)⟩) hS (fun q _ h => hFc q h) hFc (fun r5002 u t H1 locs ht hvm hw hB hz1 hk1 hS => ?_)
  obtain ⟨hP1, hK1, hD1⟩ := hB
  rw [ht] at hP1
  obtain ⟨hP, hD⟩ := va_join (wr := [((g3 0), .inl (cA4, 1200, .inl (fun _ => 0))), ((g3 5), .inr (5, [.ref (g5 0), .ref (g5 1), .ref (g5 2), .ref (g5 3), .ref (g5 4), .int 0, .ref (g5 6), .ref (g5 7), .ref (g5 8), .int 0, .int 0, .int 0, .int 0, .int 0, .int 0, .ref (g5 15), .ref (g5 16), .int 0, .int 0])), ((g5 0), .inr (9, [.ref (g6 0), .ref (g6 1), .ref (g6 2), .int 0, .int 0, .int 0, .int 0])), ((g6 0), .inl (cA7, 1201, .inl (fun _ => 0))), ((g6 1), .inl (cA8, 1201, .inl (fun _ => 0))), ((g6 2), .inl (cA9, 1201, .inl (fun _ => 0))), ((g3 8), .inr (7, [.ref (g3 4), .int 0, .int 0, .int 0, .ref (g10 4), .ref (g10 5), .ref (g10 6), .ref (g10 7), .ref (g10 8), .ref (g10 9), .int 0, .int 0, .int 0, .int 0, .null, .int 0, .int 0])), ((g13 1), .inl (cA14, 1200, .inl (fun _ => 0))), ((g13 35), .inl (cA15, 6, .inl (fun _ => 0))), ((g13 36), .inl (cA16, 6, .inl (fun _ => 0))), ((g13 37), .inl (cA17, 6, .inl (fun _ => 0))), ((g13 48), .inl (cA18, 6, .inl (fun _ => 0)))]) (w1 := []) hP hD [7] [0, 1, 2, 3, 4, 5, 6, 8, 9, 10, 11, 12] rfl rfl (by decide) (by decide) hk1 hFc hP1 hD1
  generalize H1 = H at hP hS ⊢
  have hP : va_P (dC, dI) vwCl [((g3 0), .inl (cA4, 1200, .inl (fun _ => 0))), ((g3 5), .inr (5, [.ref (g5 0), .ref (g5 1), .ref (g5 2), .ref (g5 3), .ref (g5 4), .int 0, .ref (g5 6), .ref (g5 7), .ref (g5 8), .int 0, .int 0, .int 0, .int 0, .int 0, .int 0, .ref (g5 15), .ref (g5 16), .int 0, .int 0])), ((g5 0), .inr (9, [.ref (g6 0), .ref (g6 1), .ref (g6 2), .int 0, .int 0, .int 0, .int 0])), ((g6 0), .inl (cA7, 1201, .inl (fun _ => 0))), ((g6 1), .inl (cA8, 1201, .inl (fun _ => 0))), ((g6 2), .inl (cA9, 1201, .inl (fun _ => 0))), ((g3 8), .inr (7, [.ref (g3 4), .int 0, .int 0, .int 0, .ref (g10 4), .ref (g10 5), .ref (g10 6), .ref (g10 7), .ref (g10 8), .ref (g10 9), .int 0, .int 0, .int 0, .int 0, .null, .int 0, .int 0])), ((g13 1), .inl (cA14, 1200, .inl (fun _ => 0))), ((g13 35), .inl (cA15, 6, .inl (fun _ => 0))), ((g13 36), .inl (cA16, 6, .inl (fun _ => 0))), ((g13 37), .inl (cA17, 6, .inl (fun _ => 0))), ((g13 48), .inl (cA18, 6, .inl (fun _ => 0)))] H := hP
  have hD : va_D A [((g3 0), .inl (cA4, 1200, .inl (fun _ => 0))), ((g3 5), .inr (5, [.ref (g5 0), .ref (g5 1), .ref (g5 2), .ref (g5 3), .ref (g5 4), .int 0, .ref (g5 6), .ref (g5 7), .ref (g5 8), .int 0, .int 0, .int 0, .int 0, .int 0, .int 0, .ref (g5 15), .ref (g5 16), .int 0, .int 0])), ((g5 0), .inr (9, [.ref (g6 0), .ref (g6 1), .ref (g6 2), .int 0, .int 0, .int 0, .int 0])), ((g6 0), .inl (cA7, 1201, .inl (fun _ => 0))), ((g6 1), .inl (cA8, 1201, .inl (fun _ => 0))), ((g6 2), .inl (cA9, 1201, .inl (fun _ => 0))), ((g3 8), .inr (7, [.ref (g3 4), .int 0, .int 0, .int 0, .ref (g10 4), .ref (g10 5), .ref (g10 6), .ref (g10 7), .ref (g10 8), .ref (g10 9), .int 0, .int 0, .int 0, .int 0, .null, .int 0, .int 0])), ((g13 1), .inl (cA14, 1200, .inl (fun _ => 0))), ((g13 35), .inl (cA15, 6, .inl (fun _ => 0))), ((g13 36), .inl (cA16, 6, .inl (fun _ => 0))), ((g13 37), .inl (cA17, 6, .inl (fun _ => 0))), ((g13 48), .inl (cA18, 6, .inl (fun _ => 0)))] := hD
  refine W.widen (k := 257) (n := 1146073) (by decide) (by decide) ?_
  try dsimp only at hw
  subst hw
  refine lv_icmp_eq (tgt := 796) hx hb dL_law_452 (by decide) (fun _ => ?_) (fun h => absurd (by decide) h)
  exact law_tail C0 hAe (Nat.le_of_ble_eq_true rfl) (Nat.le_of_ble_eq_true rfl) hS ls (lv_sub hl [0, 3] rfl)
set_option maxHeartbeats 4000000 in
set_option maxRecDepth 100000 in
theorem law_9 {p : Program} {l : Launch} {e : Env} {s : State} {m : MethodId} {below : List Frame} {meth : Method} {c : Code} {dC : Nat → ClassId} {dI : Nat → Nat → Nat} {b : Nat} {xs : Nat → Int32} {A : Nat → Prop} {q11 : Nat} {q1 : Nat} {g3 : Nat → Nat} {cA4 : ClassId} {g5 : Nat → Nat} {g6 : Nat → Nat} {cA7 : ClassId} {cA8 : ClassId} {cA9 : ClassId} {g10 : Nat → Nat} {g13 : Nat → Nat} {cA14 : ClassId} {cA15 : ClassId} {cA16 : ClassId} {cA17 : ClassId} {cA18 : ClassId} (C0 : lw_At p s m meth c b 7 xs) (hAe : A = fun q => s.heap.size ≤ q) (hN : nst s) {H : Heap} {locs : List Loc} (hK : va_K (dC, dI) vwCl [(cA4, .byte), (cA7, .int), (cA8, .int), (cA9, .int), (cA14, .byte), (cA15, .int), (cA16, .int), (cA17, .int), (cA18, .boolean)] s) (hP : va_P (dC, dI) vwCl [(q1, .inr (11, fsX g3)), ((g3 0), .inl (cA4, 1200, .inl (fun _ => 0))), ((g3 5), .inr (5, [.ref (g5 0), .ref (g5 1), .ref (g5 2), .ref (g5 3), .ref (g5 4), .int 0, .ref (g5 6), .ref (g5 7), .ref (g5 8), .int 0, .int 0, .int 0, .int 0, .int 0, .int 0, .ref (g5 15), .ref (g5 16), .int 0, .int 0])), ((g5 0), .inr (9, [.ref (g6 0), .ref (g6 1), .ref (g6 2), .int 0, .int 0, .int 0, .int 0])), ((g6 0), .inl (cA7, 1201, .inl (fun _ => 0))), ((g6 1), .inl (cA8, 1201, .inl (fun _ => 0))), ((g6 2), .inl (cA9, 1201, .inl (fun _ => 0))), ((g3 8), .inr (7, [.ref (g3 4), .int 0, .int 0, .int 0, .ref (g10 4), .ref (g10 5), .ref (g10 6), .ref (g10 7), .ref (g10 8), .ref (g10 9), .int 0, .int 0, .int 0, .int 0, .null, .int 0, .int 0])), (q11, .inr (12, fsM g13)), ((g13 1), .inl (cA14, 1200, .inl (fun _ => 0))), ((g13 35), .inl (cA15, 6, .inl (fun _ => 0))), ((g13 36), .inl (cA16, 6, .inl (fun _ => 0))), ((g13 37), .inl (cA17, 6, .inl (fun _ => 0))), ((g13 48), .inl (cA18, 6, .inl (fun _ => 0)))] H) (hD : va_D A [(q1, .inr (11, fsX g3)), ((g3 0), .inl (cA4, 1200, .inl (fun _ => 0))), ((g3 5), .inr (5, [.ref (g5 0), .ref (g5 1), .ref (g5 2), .ref (g5 3), .ref (g5 4), .int 0, .ref (g5 6), .ref (g5 7), .ref (g5 8), .int 0, .int 0, .int 0, .int 0, .int 0, .int 0, .ref (g5 15), .ref (g5 16), .int 0, .int 0])), ((g5 0), .inr (9, [.ref (g6 0), .ref (g6 1), .ref (g6 2), .int 0, .int 0, .int 0, .int 0])), ((g6 0), .inl (cA7, 1201, .inl (fun _ => 0))), ((g6 1), .inl (cA8, 1201, .inl (fun _ => 0))), ((g6 2), .inl (cA9, 1201, .inl (fun _ => 0))), ((g3 8), .inr (7, [.ref (g3 4), .int 0, .int 0, .int 0, .ref (g10 4), .ref (g10 5), .ref (g10 6), .ref (g10 7), .ref (g10 8), .ref (g10 9), .int 0, .int 0, .int 0, .int 0, .null, .int 0, .int 0])), (q11, .inr (12, fsM g13)), ((g13 1), .inl (cA14, 1200, .inl (fun _ => 0))), ((g13 35), .inl (cA15, 6, .inl (fun _ => 0))), ((g13 36), .inl (cA16, 6, .inl (fun _ => 0))), ((g13 37), .inl (cA17, 6, .inl (fun _ => 0))), ((g13 48), .inl (cA18, 6, .inl (fun _ => 0)))]) (hS : va_S A s.heap H locs) (ls : Array Slot) (hl : lv_has ls 4 [(3, .int 0), (2, .ref q11), (1, .ref q1), (0, .ref b)]) : W p l e room_1 s m #[Value.ref b] below meth c H locs 257 1146073 (lw_Z below #[Value.ref b] s) (F0 m 457 ls []) := by
  obtain ⟨hx, hb, hr, hml, hown, hts, hX, hbl, hlocks, hgv⟩ := id C0
  have hts : ∀ w ∈ w_law, w.before #[Value.ref b] s = true := fun w h => hts w (w_law_in w h)
  have hown : s.vm.findClass RL = some m.cls := hown
  have hA : ∀ q : Nat, s.heap.size ≤ q → A q := fun q h => by rw [hAe]; exact h
  have hbA : ¬ A b := by rw [hAe]; exact Nat.not_le.mpr hbl
  refine lv_aload_n hx hb dL_law_457 rfl (lv_at hl 2 rfl) ?_
  refine lv_aload_n hx hb dL_law_458 rfl (lv_at hl 3 rfl) ?_
  refine lv_iload_n hx hb dL_law_459 rfl (lv_at hl 0 rfl) ?_
  refine lv_iconst (v := 1) hx hb dL_law_460 (by decide) ?_
  refine lv_iadd hx hb dL_law_461 ?_
  refine vx_topc (v := 1) (by decide) ?_
  refine va_sld hx hb hX hbl hbA hS (vx_in (by decide)) dL_law_462 ?_
  refine lv_aload_n hx hb dL_law_463 rfl (lv_at hl 3 rfl) ?_
  refine lv_iload_n hx hb dL_law_464 rfl (lv_at hl 0 rfl) ?_
  refine lv_iconst (v := 2) hx hb dL_law_465 (by decide) ?_
  refine lv_iadd hx hb dL_law_466 ?_
  refine vx_topc (v := 2) (by decide) ?_
  refine va_sld hx hb hX hbl hbA hS (vx_in (by decide)) dL_law_467 ?_
  refine lv_aload_n hx hb dL_law_468 rfl (lv_at hl 3 rfl) ?_
  refine lv_iload_n hx hb dL_law_469 rfl (lv_at hl 0 rfl) ?_
  refine lv_iconst (v := 3) hx hb dL_law_470 (by decide) ?_
  refine lv_iadd hx hb dL_law_471 ?_
  refine vx_topc (v := 3) (by decide) ?_
  refine va_sld hx hb hX hbl hbA hS (vx_in (by decide)) dL_law_472 ?_
  refine lv_aload_n hx hb dL_law_473 rfl (lv_at hl 3 rfl) ?_
  refine lv_iload_n hx hb dL_law_474 rfl (lv_at hl 0 rfl) ?_
  refine lv_iconst (v := 4) hx hb dL_law_475 (by decide) ?_
  refine lv_iadd hx hb dL_law_476 ?_
  refine vx_topc (v := 4) (by decide) ?_
  refine va_sld hx hb hX hbl hbA hS (vx_in (by decide)) dL_law_477 ?_
  refine lv_aload_n hx hb dL_law_478 rfl (lv_at hl 3 rfl) ?_
  refine lv_iload_n hx hb dL_law_479 rfl (lv_at hl 0 rfl) ?_
  refine lv_iconst (v := 5) hx hb dL_law_480 (by decide) ?_
  refine lv_iadd hx hb dL_law_481 ?_
  refine vx_topc (v := 5) (by decide) ?_
  refine va_sld hx hb hX hbl hbA hS (vx_in (by decide)) dL_law_482 ?_
  have hPc := hP.sub (ws' := [(q1, .inr (11, fsX g3))]) [0] rfl
  have hDc := hD.sub (ws' := [(q1, .inr (11, fsX g3))]) [0] (by decide) rfl
  have hKc := hK.sub (tys' := []) [] rfl
  have hFc := va_free (wc := [(q1, .inr (11, fsX g3))]) hD hS hA [0] rfl
  refine va_calli (va_runV (As := [.int (xs (1 : Int32).toNatClampNeg), .int (xs (2 : Int32).toNatClampNeg), .int (xs (3 : Int32).toNatClampNeg), .int (xs (4 : Int32).toNatClampNeg), .int (xs (5 : Int32).toNatClampNeg)]) (rest := []) ⟨hx, hb, hml, hown, hts⟩ (x_start l dC dI q1 g3 (xs (1 : Int32).toNatClampNeg) (xs (2 : Int32).toNatClampNeg) (xs (3 : Int32).toNatClampNeg) (xs (4 : Int32).toNatClampNeg) (xs (5 : Int32).toNatClampNeg) H.size ) (cwV 5 hts g_law_x_start_54 rfl rfl rfl (by decide +kernel) ⟨(Nat.le_of_ble_eq_true rfl), (Nat.le_of_ble_eq_true rfl)⟩) (vx_preV (ci := 11) (q0 := 0) hPc hKc hDc hN rfl rfl) rfl rfl hl.1 rfl (lv_room (Nat.le_of_ble_eq_true rfl)) dL_law_483 ⟨(Nat.le_of_ble_eq_true rfl), (Nat.le_of_ble_eq_true rfl)⟩) hS (fun q _ h => hFc q h) hFc (fun r5001 u t H1 locs ht hvm hw hB hz1 hk1 hS => ?_)
  obtain ⟨hP1, hK1, hD1⟩ := hB
  rw [ht] at hP1
  obtain ⟨hP, hD⟩ := va_join (wr := [((g3 0), .inl (cA4, 1200, .inl (fun _ => 0))), ((g3 5), .inr (5, [.ref (g5 0), .ref (g5 1), .ref (g5 2), .ref (g5 3), .ref (g5 4), .int 0, .ref (g5 6), .ref (g5 7), .ref (g5 8), .int 0, .int 0, .int 0, .int 0, .int 0, .int 0, .ref (g5 15), .ref (g5 16), .int 0, .int 0])), ((g5 0), .inr (9, [.ref (g6 0), .ref (g6 1), .ref (g6 2), .int 0, .int 0, .int 0, .int 0])), ((g6 0), .inl (cA7, 1201, .inl (fun _ => 0))), ((g6 1), .inl (cA8, 1201, .inl (fun _ => 0))), ((g6 2), .inl (cA9, 1201, .inl (fun _ => 0))), ((g3 8), .inr (7, [.ref (g3 4), .int 0, .int 0, .int 0, .ref (g10 4), .ref (g10 5), .ref (g10 6), .ref (g10 7), .ref (g10 8), .ref (g10 9), .int 0, .int 0, .int 0, .int 0, .null, .int 0, .int 0])), (q11, .inr (12, fsM g13)), ((g13 1), .inl (cA14, 1200, .inl (fun _ => 0))), ((g13 35), .inl (cA15, 6, .inl (fun _ => 0))), ((g13 36), .inl (cA16, 6, .inl (fun _ => 0))), ((g13 37), .inl (cA17, 6, .inl (fun _ => 0))), ((g13 48), .inl (cA18, 6, .inl (fun _ => 0)))]) (w1 := []) hP hD [0] [1, 2, 3, 4, 5, 6, 7, 8, 9, 10, 11, 12, 13] rfl rfl (by decide) (by decide) hk1 hFc hP1 hD1
  generalize H1 = H at hP hS ⊢
  have hP : va_P (dC, dI) vwCl [((g3 0), .inl (cA4, 1200, .inl (fun _ => 0))), ((g3 5), .inr (5, [.ref (g5 0), .ref (g5 1), .ref (g5 2), .ref (g5 3), .ref (g5 4), .int 0, .ref (g5 6), .ref (g5 7), .ref (g5 8), .int 0, .int 0, .int 0, .int 0, .int 0, .int 0, .ref (g5 15), .ref (g5 16), .int 0, .int 0])), ((g5 0), .inr (9, [.ref (g6 0), .ref (g6 1), .ref (g6 2), .int 0, .int 0, .int 0, .int 0])), ((g6 0), .inl (cA7, 1201, .inl (fun _ => 0))), ((g6 1), .inl (cA8, 1201, .inl (fun _ => 0))), ((g6 2), .inl (cA9, 1201, .inl (fun _ => 0))), ((g3 8), .inr (7, [.ref (g3 4), .int 0, .int 0, .int 0, .ref (g10 4), .ref (g10 5), .ref (g10 6), .ref (g10 7), .ref (g10 8), .ref (g10 9), .int 0, .int 0, .int 0, .int 0, .null, .int 0, .int 0])), (q11, .inr (12, fsM g13)), ((g13 1), .inl (cA14, 1200, .inl (fun _ => 0))), ((g13 35), .inl (cA15, 6, .inl (fun _ => 0))), ((g13 36), .inl (cA16, 6, .inl (fun _ => 0))), ((g13 37), .inl (cA17, 6, .inl (fun _ => 0))), ((g13 48), .inl (cA18, 6, .inl (fun _ => 0)))] H := hP
  have hD : va_D A [((g3 0), .inl (cA4, 1200, .inl (fun _ => 0))), ((g3 5), .inr (5, [.ref (g5 0), .ref (g5 1), .ref (g5 2), .ref (g5 3), .ref (g5 4), .int 0, .ref (g5 6), .ref (g5 7), .ref (g5 8), .int 0, .int 0, .int 0, .int 0, .int 0, .int 0, .ref (g5 15), .ref (g5 16), .int 0, .int 0])), ((g5 0), .inr (9, [.ref (g6 0), .ref (g6 1), .ref (g6 2), .int 0, .int 0, .int 0, .int 0])), ((g6 0), .inl (cA7, 1201, .inl (fun _ => 0))), ((g6 1), .inl (cA8, 1201, .inl (fun _ => 0))), ((g6 2), .inl (cA9, 1201, .inl (fun _ => 0))), ((g3 8), .inr (7, [.ref (g3 4), .int 0, .int 0, .int 0, .ref (g10 4), .ref (g10 5), .ref (g10 6), .ref (g10 7), .ref (g10 8), .ref (g10 9), .int 0, .int 0, .int 0, .int 0, .null, .int 0, .int 0])), (q11, .inr (12, fsM g13)), ((g13 1), .inl (cA14, 1200, .inl (fun _ => 0))), ((g13 35), .inl (cA15, 6, .inl (fun _ => 0))), ((g13 36), .inl (cA16, 6, .inl (fun _ => 0))), ((g13 37), .inl (cA17, 6, .inl (fun _ => 0))), ((g13 48), .inl (cA18, 6, .inl (fun _ => 0)))] := hD
  refine W.widen (k := 257) (n := 1146073) (by decide) (by decide) ?_
  try dsimp only at hw
  subst hw
  refine lv_aload_n hx hb dL_law_486 rfl (lv_at hl 1 rfl) ?_
  refine lv_aload_n hx hb dL_law_487 rfl (lv_at hl 3 rfl) ?_
  refine lv_iload_n hx hb dL_law_488 rfl (lv_at hl 0 rfl) ?_
  refine lv_iconst (v := 1) hx hb dL_law_489 (by decide) ?_
  refine lv_iadd hx hb dL_law_490 ?_
  refine vx_topc (v := 1) (by decide) ?_
  refine va_sld hx hb hX hbl hbA hS (vx_in (by decide)) dL_law_491 ?_
  refine lv_aload_n hx hb dL_law_492 rfl (lv_at hl 3 rfl) ?_
  refine lv_iload_n hx hb dL_law_493 rfl (lv_at hl 0 rfl) ?_
  refine lv_iconst (v := 2) hx hb dL_law_494 (by decide) ?_
  refine lv_iadd hx hb dL_law_495 ?_
  refine vx_topc (v := 2) (by decide) ?_
  refine va_sld hx hb hX hbl hbA hS (vx_in (by decide)) dL_law_496 ?_
  refine lv_aload_n hx hb dL_law_497 rfl (lv_at hl 3 rfl) ?_
  refine lv_iload_n hx hb dL_law_498 rfl (lv_at hl 0 rfl) ?_
  refine lv_iconst (v := 3) hx hb dL_law_499 (by decide) ?_
  refine lv_iadd hx hb dL_law_500 ?_
  refine vx_topc (v := 3) (by decide) ?_
  refine va_sld hx hb hX hbl hbA hS (vx_in (by decide)) dL_law_501 ?_
  refine lv_aload_n hx hb dL_law_502 rfl (lv_at hl 3 rfl) ?_
  refine lv_iload_n hx hb dL_law_503 rfl (lv_at hl 0 rfl) ?_
  refine lv_iconst (v := 4) hx hb dL_law_504 (by decide) ?_
  refine lv_iadd hx hb dL_law_505 ?_
  refine vx_topc (v := 4) (by decide) ?_
  refine va_sld hx hb hX hbl hbA hS (vx_in (by decide)) dL_law_506 ?_
  refine lv_aload_n hx hb dL_law_507 rfl (lv_at hl 3 rfl) ?_
  refine lv_iload_n hx hb dL_law_508 rfl (lv_at hl 0 rfl) ?_
  refine lv_iconst (v := 5) hx hb dL_law_509 (by decide) ?_
  refine lv_iadd hx hb dL_law_510 ?_
  refine vx_topc (v := 5) (by decide) ?_
  refine va_sld hx hb hX hbl hbA hS (vx_in (by decide)) dL_law_511 ?_
  have hPc := hP.sub (ws' := [(q11, .inr (12, fsM g13))]) [7] rfl
  have hDc := hD.sub (ws' := [(q11, .inr (12, fsM g13))]) [7] (by decide) rfl
  have hKc := hK.sub (tys' := []) [] rfl
  have hFc := va_free (wc := [(q11, .inr (12, fsM g13))]) hD hS hA [7] rfl
  refine va_calli (va_runV (As := [.int (xs (1 : Int32).toNatClampNeg), .int (xs (2 : Int32).toNatClampNeg), .int (xs (3 : Int32).toNatClampNeg), .int (xs (4 : Int32).toNatClampNeg), .int (xs (5 : Int32).toNatClampNeg)]) (rest := [.int 0]) ⟨hx, hb, hml, hown, hts⟩ (m_start l dC dI q11 g13 (xs (1 : Int32).toNatClampNeg) (xs (2 : Int32).toNatClampNeg) (xs (3 : Int32).toNatClampNeg) (xs (4 : Int32).toNatClampNeg) (xs (5 : Int32).toNatClampNeg) H.size ) (cwV 5 hts g_law_m_start_58 rfl rfl rfl (by decide +kernel) ⟨(Nat.le_of_ble_eq_true rfl), (Nat.le_of_ble_eq_true rfl)⟩) (vx_preV (ci := 12) (q0 := 0) hPc hKc hDc hN rfl rfl) rfl rfl hl.1 rfl (lv_room (Nat.le_of_ble_eq_true rfl)) dL_law_512 ⟨(Nat.le_of_ble_eq_true rfl), (Nat.le_of_ble_eq_true rfl)⟩) hS (fun q _ h => hFc q h) hFc (fun r5002 u t H1 locs ht hvm hw hB hz1 hk1 hS => ?_)
  obtain ⟨hP1, hK1, hD1⟩ := hB
  rw [ht] at hP1
  obtain ⟨hP, hD⟩ := va_join (wr := [((g3 0), .inl (cA4, 1200, .inl (fun _ => 0))), ((g3 5), .inr (5, [.ref (g5 0), .ref (g5 1), .ref (g5 2), .ref (g5 3), .ref (g5 4), .int 0, .ref (g5 6), .ref (g5 7), .ref (g5 8), .int 0, .int 0, .int 0, .int 0, .int 0, .int 0, .ref (g5 15), .ref (g5 16), .int 0, .int 0])), ((g5 0), .inr (9, [.ref (g6 0), .ref (g6 1), .ref (g6 2), .int 0, .int 0, .int 0, .int 0])), ((g6 0), .inl (cA7, 1201, .inl (fun _ => 0))), ((g6 1), .inl (cA8, 1201, .inl (fun _ => 0))), ((g6 2), .inl (cA9, 1201, .inl (fun _ => 0))), ((g3 8), .inr (7, [.ref (g3 4), .int 0, .int 0, .int 0, .ref (g10 4), .ref (g10 5), .ref (g10 6), .ref (g10 7), .ref (g10 8), .ref (g10 9), .int 0, .int 0, .int 0, .int 0, .null, .int 0, .int 0])), ((g13 1), .inl (cA14, 1200, .inl (fun _ => 0))), ((g13 35), .inl (cA15, 6, .inl (fun _ => 0))), ((g13 36), .inl (cA16, 6, .inl (fun _ => 0))), ((g13 37), .inl (cA17, 6, .inl (fun _ => 0))), ((g13 48), .inl (cA18, 6, .inl (fun _ => 0)))]) (w1 := []) hP hD [7] [0, 1, 2, 3, 4, 5, 6, 8, 9, 10, 11, 12] rfl rfl (by decide) (by decide) hk1 hFc hP1 hD1
  generalize H1 = H at hP hS ⊢
  have hP : va_P (dC, dI) vwCl [((g3 0), .inl (cA4, 1200, .inl (fun _ => 0))), ((g3 5), .inr (5, [.ref (g5 0), .ref (g5 1), .ref (g5 2), .ref (g5 3), .ref (g5 4), .int 0, .ref (g5 6), .ref (g5 7), .ref (g5 8), .int 0, .int 0, .int 0, .int 0, .int 0, .int 0, .ref (g5 15), .ref (g5 16), .int 0, .int 0])), ((g5 0), .inr (9, [.ref (g6 0), .ref (g6 1), .ref (g6 2), .int 0, .int 0, .int 0, .int 0])), ((g6 0), .inl (cA7, 1201, .inl (fun _ => 0))), ((g6 1), .inl (cA8, 1201, .inl (fun _ => 0))), ((g6 2), .inl (cA9, 1201, .inl (fun _ => 0))), ((g3 8), .inr (7, [.ref (g3 4), .int 0, .int 0, .int 0, .ref (g10 4), .ref (g10 5), .ref (g10 6), .ref (g10 7), .ref (g10 8), .ref (g10 9), .int 0, .int 0, .int 0, .int 0, .null, .int 0, .int 0])), ((g13 1), .inl (cA14, 1200, .inl (fun _ => 0))), ((g13 35), .inl (cA15, 6, .inl (fun _ => 0))), ((g13 36), .inl (cA16, 6, .inl (fun _ => 0))), ((g13 37), .inl (cA17, 6, .inl (fun _ => 0))), ((g13 48), .inl (cA18, 6, .inl (fun _ => 0)))] H := hP
  have hD : va_D A [((g3 0), .inl (cA4, 1200, .inl (fun _ => 0))), ((g3 5), .inr (5, [.ref (g5 0), .ref (g5 1), .ref (g5 2), .ref (g5 3), .ref (g5 4), .int 0, .ref (g5 6), .ref (g5 7), .ref (g5 8), .int 0, .int 0, .int 0, .int 0, .int 0, .int 0, .ref (g5 15), .ref (g5 16), .int 0, .int 0])), ((g5 0), .inr (9, [.ref (g6 0), .ref (g6 1), .ref (g6 2), .int 0, .int 0, .int 0, .int 0])), ((g6 0), .inl (cA7, 1201, .inl (fun _ => 0))), ((g6 1), .inl (cA8, 1201, .inl (fun _ => 0))), ((g6 2), .inl (cA9, 1201, .inl (fun _ => 0))), ((g3 8), .inr (7, [.ref (g3 4), .int 0, .int 0, .int 0, .ref (g10 4), .ref (g10 5), .ref (g10 6), .ref (g10 7), .ref (g10 8), .ref (g10 9), .int 0, .int 0, .int 0, .int 0, .null, .int 0, .int 0])), ((g13 1), .inl (cA14, 1200, .inl (fun _ => 0))), ((g13 35), .inl (cA15, 6, .inl (fun _ => 0))), ((g13 36), .inl (cA16, 6, .inl (fun _ => 0))), ((g13 37), .inl (cA17, 6, .inl (fun _ => 0))), ((g13 48), .inl (cA18, 6, .inl (fun _ => 0)))] := hD
  refine W.widen (k := 257) (n := 1146073) (by decide) (by decide) ?_
  try dsimp only at hw
  subst hw
  refine lv_icmp_eq (tgt := 796) hx hb dL_law_515 (by decide) (fun _ => ?_) (fun h => absurd (by decide) h)
  exact law_tail C0 hAe (Nat.le_of_ble_eq_true rfl) (Nat.le_of_ble_eq_true rfl) hS ls (lv_sub hl [0, 3] rfl)
set_option maxHeartbeats 4000000 in
set_option maxRecDepth 100000 in
theorem law_10 {p : Program} {l : Launch} {e : Env} {s : State} {m : MethodId} {below : List Frame} {meth : Method} {c : Code} {dC : Nat → ClassId} {dI : Nat → Nat → Nat} {b : Nat} {xs : Nat → Int32} {A : Nat → Prop} {q11 : Nat} {q1 : Nat} {g3 : Nat → Nat} {cA4 : ClassId} {g5 : Nat → Nat} {g6 : Nat → Nat} {cA7 : ClassId} {cA8 : ClassId} {cA9 : ClassId} {g10 : Nat → Nat} {g13 : Nat → Nat} {cA14 : ClassId} {cA15 : ClassId} {cA16 : ClassId} {cA17 : ClassId} {cA18 : ClassId} (C0 : lw_At p s m meth c b 7 xs) (hAe : A = fun q => s.heap.size ≤ q) (hN : nst s) {H : Heap} {locs : List Loc} (hK : va_K (dC, dI) vwCl [(cA4, .byte), (cA7, .int), (cA8, .int), (cA9, .int), (cA14, .byte), (cA15, .int), (cA16, .int), (cA17, .int), (cA18, .boolean)] s) (hP : va_P (dC, dI) vwCl [(q1, .inr (11, fsX g3)), ((g3 0), .inl (cA4, 1200, .inl (fun _ => 0))), ((g3 5), .inr (5, [.ref (g5 0), .ref (g5 1), .ref (g5 2), .ref (g5 3), .ref (g5 4), .int 0, .ref (g5 6), .ref (g5 7), .ref (g5 8), .int 0, .int 0, .int 0, .int 0, .int 0, .int 0, .ref (g5 15), .ref (g5 16), .int 0, .int 0])), ((g5 0), .inr (9, [.ref (g6 0), .ref (g6 1), .ref (g6 2), .int 0, .int 0, .int 0, .int 0])), ((g6 0), .inl (cA7, 1201, .inl (fun _ => 0))), ((g6 1), .inl (cA8, 1201, .inl (fun _ => 0))), ((g6 2), .inl (cA9, 1201, .inl (fun _ => 0))), ((g3 8), .inr (7, [.ref (g3 4), .int 0, .int 0, .int 0, .ref (g10 4), .ref (g10 5), .ref (g10 6), .ref (g10 7), .ref (g10 8), .ref (g10 9), .int 0, .int 0, .int 0, .int 0, .null, .int 0, .int 0])), (q11, .inr (12, fsM g13)), ((g13 1), .inl (cA14, 1200, .inl (fun _ => 0))), ((g13 35), .inl (cA15, 6, .inl (fun _ => 0))), ((g13 36), .inl (cA16, 6, .inl (fun _ => 0))), ((g13 37), .inl (cA17, 6, .inl (fun _ => 0))), ((g13 48), .inl (cA18, 6, .inl (fun _ => 0)))] H) (hD : va_D A [(q1, .inr (11, fsX g3)), ((g3 0), .inl (cA4, 1200, .inl (fun _ => 0))), ((g3 5), .inr (5, [.ref (g5 0), .ref (g5 1), .ref (g5 2), .ref (g5 3), .ref (g5 4), .int 0, .ref (g5 6), .ref (g5 7), .ref (g5 8), .int 0, .int 0, .int 0, .int 0, .int 0, .int 0, .ref (g5 15), .ref (g5 16), .int 0, .int 0])), ((g5 0), .inr (9, [.ref (g6 0), .ref (g6 1), .ref (g6 2), .int 0, .int 0, .int 0, .int 0])), ((g6 0), .inl (cA7, 1201, .inl (fun _ => 0))), ((g6 1), .inl (cA8, 1201, .inl (fun _ => 0))), ((g6 2), .inl (cA9, 1201, .inl (fun _ => 0))), ((g3 8), .inr (7, [.ref (g3 4), .int 0, .int 0, .int 0, .ref (g10 4), .ref (g10 5), .ref (g10 6), .ref (g10 7), .ref (g10 8), .ref (g10 9), .int 0, .int 0, .int 0, .int 0, .null, .int 0, .int 0])), (q11, .inr (12, fsM g13)), ((g13 1), .inl (cA14, 1200, .inl (fun _ => 0))), ((g13 35), .inl (cA15, 6, .inl (fun _ => 0))), ((g13 36), .inl (cA16, 6, .inl (fun _ => 0))), ((g13 37), .inl (cA17, 6, .inl (fun _ => 0))), ((g13 48), .inl (cA18, 6, .inl (fun _ => 0)))]) (hS : va_S A s.heap H locs) (ls : Array Slot) (hl : lv_has ls 4 [(3, .int 0), (2, .ref q11), (1, .ref q1), (0, .ref b)]) : W p l e room_1 s m #[Value.ref b] below meth c H locs 257 1146073 (lw_Z below #[Value.ref b] s) (F0 m 520 ls []) := by
  obtain ⟨hx, hb, hr, hml, hown, hts, hX, hbl, hlocks, hgv⟩ := id C0
  have hts : ∀ w ∈ w_law, w.before #[Value.ref b] s = true := fun w h => hts w (w_law_in w h)
  have hown : s.vm.findClass RL = some m.cls := hown
  have hA : ∀ q : Nat, s.heap.size ≤ q → A q := fun q h => by rw [hAe]; exact h
  have hbA : ¬ A b := by rw [hAe]; exact Nat.not_le.mpr hbl
  refine lv_aload_n hx hb dL_law_520 rfl (lv_at hl 2 rfl) ?_
  refine lv_aload_n hx hb dL_law_521 rfl (lv_at hl 3 rfl) ?_
  refine lv_iload_n hx hb dL_law_522 rfl (lv_at hl 0 rfl) ?_
  refine lv_iconst (v := 1) hx hb dL_law_523 (by decide) ?_
  refine lv_iadd hx hb dL_law_524 ?_
  refine vx_topc (v := 1) (by decide) ?_
  refine va_sld hx hb hX hbl hbA hS (vx_in (by decide)) dL_law_525 ?_
  refine lv_aload_n hx hb dL_law_526 rfl (lv_at hl 3 rfl) ?_
  refine lv_iload_n hx hb dL_law_527 rfl (lv_at hl 0 rfl) ?_
  refine lv_iconst (v := 2) hx hb dL_law_528 (by decide) ?_
  refine lv_iadd hx hb dL_law_529 ?_
  refine vx_topc (v := 2) (by decide) ?_
  refine va_sld hx hb hX hbl hbA hS (vx_in (by decide)) dL_law_530 ?_
  have hPc := hP.sub (ws' := [(q1, .inr (11, fsX g3)), ((g3 8), .inr (7, [.ref (g3 4), .int 0, .int 0, .int 0, .ref (g10 4), .ref (g10 5), .ref (g10 6), .ref (g10 7), .ref (g10 8), .ref (g10 9), .int 0, .int 0, .int 0, .int 0, .null, .int 0, .int 0]))]) [0, 7] rfl
  have hDc := hD.sub (ws' := [(q1, .inr (11, fsX g3)), ((g3 8), .inr (7, [.ref (g3 4), .int 0, .int 0, .int 0, .ref (g10 4), .ref (g10 5), .ref (g10 6), .ref (g10 7), .ref (g10 8), .ref (g10 9), .int 0, .int 0, .int 0, .int 0, .null, .int 0, .int 0]))]) [0, 7] (by decide) rfl
  have hKc := hK.sub (tys' := []) [] rfl
  have hFc := va_free (wc := [(q1, .inr (11, fsX g3)), ((g3 8), .inr (7, [.ref (g3 4), .int 0, .int 0, .int 0, .ref (g10 4), .ref (g10 5), .ref (g10 6), .ref (g10 7), .ref (g10 8), .ref (g10 9), .int 0, .int 0, .int 0, .int 0, .null, .int 0, .int 0]))]) hD hS hA [0, 7] rfl
  refine va_calli (va_runV (As := [.int (xs (1 : Int32).toNatClampNeg), .int (xs (2 : Int32).toNatClampNeg)]) (rest := []) ⟨hx, hb, hml, hown, hts⟩ (x_go l dC dI q1 g3 g10 (xs (1 : Int32).toNatClampNeg) (xs (2 : Int32).toNatClampNeg) H.size ) (cwV 2 hts g_law_x_go_59 rfl rfl rfl (by decide +kernel) ⟨(Nat.le_of_ble_eq_true rfl), (Nat.le_of_ble_eq_true rfl)⟩) (vx_preV (ci := 11) (q0 := 0) hPc hKc hDc hN rfl rfl) rfl rfl hl.1 rfl (lv_room (Nat.le_of_ble_eq_true rfl)) dL_law_531 ⟨(Nat.le_of_ble_eq_true rfl), (Nat.le_of_ble_eq_true rfl)⟩) hS (fun q _ h => hFc q h) hFc (fun r5001 u t H1 locs ht hvm hw hB hz1 hk1 hS => ?_)
  obtain ⟨hP1, hK1, hD1⟩ := hB
  rw [ht] at hP1
  obtain ⟨hP, hD⟩ := va_join (wr := [((g3 0), .inl (cA4, 1200, .inl (fun _ => 0))), ((g3 5), .inr (5, [.ref (g5 0), .ref (g5 1), .ref (g5 2), .ref (g5 3), .ref (g5 4), .int 0, .ref (g5 6), .ref (g5 7), .ref (g5 8), .int 0, .int 0, .int 0, .int 0, .int 0, .int 0, .ref (g5 15), .ref (g5 16), .int 0, .int 0])), ((g5 0), .inr (9, [.ref (g6 0), .ref (g6 1), .ref (g6 2), .int 0, .int 0, .int 0, .int 0])), ((g6 0), .inl (cA7, 1201, .inl (fun _ => 0))), ((g6 1), .inl (cA8, 1201, .inl (fun _ => 0))), ((g6 2), .inl (cA9, 1201, .inl (fun _ => 0))), (q11, .inr (12, fsM g13)), ((g13 1), .inl (cA14, 1200, .inl (fun _ => 0))), ((g13 35), .inl (cA15, 6, .inl (fun _ => 0))), ((g13 36), .inl (cA16, 6, .inl (fun _ => 0))), ((g13 37), .inl (cA17, 6, .inl (fun _ => 0))), ((g13 48), .inl (cA18, 6, .inl (fun _ => 0)))]) (w1 := []) hP hD [0, 7] [1, 2, 3, 4, 5, 6, 8, 9, 10, 11, 12, 13] rfl rfl (by decide) (by decide) hk1 hFc hP1 hD1
  generalize H1 = H at hP hS ⊢
  have hP : va_P (dC, dI) vwCl [((g3 0), .inl (cA4, 1200, .inl (fun _ => 0))), ((g3 5), .inr (5, [.ref (g5 0), .ref (g5 1), .ref (g5 2), .ref (g5 3), .ref (g5 4), .int 0, .ref (g5 6), .ref (g5 7), .ref (g5 8), .int 0, .int 0, .int 0, .int 0, .int 0, .int 0, .ref (g5 15), .ref (g5 16), .int 0, .int 0])), ((g5 0), .inr (9, [.ref (g6 0), .ref (g6 1), .ref (g6 2), .int 0, .int 0, .int 0, .int 0])), ((g6 0), .inl (cA7, 1201, .inl (fun _ => 0))), ((g6 1), .inl (cA8, 1201, .inl (fun _ => 0))), ((g6 2), .inl (cA9, 1201, .inl (fun _ => 0))), (q11, .inr (12, fsM g13)), ((g13 1), .inl (cA14, 1200, .inl (fun _ => 0))), ((g13 35), .inl (cA15, 6, .inl (fun _ => 0))), ((g13 36), .inl (cA16, 6, .inl (fun _ => 0))), ((g13 37), .inl (cA17, 6, .inl (fun _ => 0))), ((g13 48), .inl (cA18, 6, .inl (fun _ => 0)))] H := hP
  have hD : va_D A [((g3 0), .inl (cA4, 1200, .inl (fun _ => 0))), ((g3 5), .inr (5, [.ref (g5 0), .ref (g5 1), .ref (g5 2), .ref (g5 3), .ref (g5 4), .int 0, .ref (g5 6), .ref (g5 7), .ref (g5 8), .int 0, .int 0, .int 0, .int 0, .int 0, .int 0, .ref (g5 15), .ref (g5 16), .int 0, .int 0])), ((g5 0), .inr (9, [.ref (g6 0), .ref (g6 1), .ref (g6 2), .int 0, .int 0, .int 0, .int 0])), ((g6 0), .inl (cA7, 1201, .inl (fun _ => 0))), ((g6 1), .inl (cA8, 1201, .inl (fun _ => 0))), ((g6 2), .inl (cA9, 1201, .inl (fun _ => 0))), (q11, .inr (12, fsM g13)), ((g13 1), .inl (cA14, 1200, .inl (fun _ => 0))), ((g13 35), .inl (cA15, 6, .inl (fun _ => 0))), ((g13 36), .inl (cA16, 6, .inl (fun _ => 0))), ((g13 37), .inl (cA17, 6, .inl (fun _ => 0))), ((g13 48), .inl (cA18, 6, .inl (fun _ => 0)))] := hD
  refine W.widen (k := 257) (n := 1146073) (by decide) (by decide) ?_
  try dsimp only at hw
  subst hw
  refine lv_aload_n hx hb dL_law_534 rfl (lv_at hl 1 rfl) ?_
  refine lv_aload_n hx hb dL_law_535 rfl (lv_at hl 3 rfl) ?_
  refine lv_iload_n hx hb dL_law_536 rfl (lv_at hl 0 rfl) ?_
  refine lv_iconst (v := 1) hx hb dL_law_537 (by decide) ?_
  refine lv_iadd hx hb dL_law_538 ?_
  refine vx_topc (v := 1) (by decide) ?_
  refine va_sld hx hb hX hbl hbA hS (vx_in (by decide)) dL_law_539 ?_
  refine lv_aload_n hx hb dL_law_540 rfl (lv_at hl 3 rfl) ?_
  refine lv_iload_n hx hb dL_law_541 rfl (lv_at hl 0 rfl) ?_
  refine lv_iconst (v := 2) hx hb dL_law_542 (by decide) ?_
  refine lv_iadd hx hb dL_law_543 ?_
  refine vx_topc (v := 2) (by decide) ?_
  refine va_sld hx hb hX hbl hbA hS (vx_in (by decide)) dL_law_544 ?_
  have hPc := hP.sub (ws' := [(q11, .inr (12, fsM g13))]) [6] rfl
  have hDc := hD.sub (ws' := [(q11, .inr (12, fsM g13))]) [6] (by decide) rfl
  have hKc := hK.sub (tys' := []) [] rfl
  have hFc := va_free (wc := [(q11, .inr (12, fsM g13))]) hD hS hA [6] rfl
  refine va_calli (va_runV (As := [.int (xs (1 : Int32).toNatClampNeg), .int (xs (2 : Int32).toNatClampNeg)]) (rest := [.int (-1)]) ⟨hx, hb, hml, hown, hts⟩ (m_go l dC dI q11 g13 (xs (1 : Int32).toNatClampNeg) (xs (2 : Int32).toNatClampNeg) H.size ) (cwV 2 hts g_law_m_go_62 rfl rfl rfl (by decide +kernel) ⟨(Nat.le_of_ble_eq_true rfl), (Nat.le_of_ble_eq_true rfl)⟩) (vx_preV (ci := 12) (q0 := 0) hPc hKc hDc hN rfl rfl) rfl rfl hl.1 rfl (lv_room (Nat.le_of_ble_eq_true rfl)) dL_law_545 ⟨(Nat.le_of_ble_eq_true rfl), (Nat.le_of_ble_eq_true rfl)⟩) hS (fun q _ h => hFc q h) hFc (fun r5002 u t H1 locs ht hvm hw hB hz1 hk1 hS => ?_)
  obtain ⟨hP1, hK1, hD1⟩ := hB
  rw [ht] at hP1
  obtain ⟨hP, hD⟩ := va_join (wr := [((g3 0), .inl (cA4, 1200, .inl (fun _ => 0))), ((g3 5), .inr (5, [.ref (g5 0), .ref (g5 1), .ref (g5 2), .ref (g5 3), .ref (g5 4), .int 0, .ref (g5 6), .ref (g5 7), .ref (g5 8), .int 0, .int 0, .int 0, .int 0, .int 0, .int 0, .ref (g5 15), .ref (g5 16), .int 0, .int 0])), ((g5 0), .inr (9, [.ref (g6 0), .ref (g6 1), .ref (g6 2), .int 0, .int 0, .int 0, .int 0])), ((g6 0), .inl (cA7, 1201, .inl (fun _ => 0))), ((g6 1), .inl (cA8, 1201, .inl (fun _ => 0))), ((g6 2), .inl (cA9, 1201, .inl (fun _ => 0))), ((g13 1), .inl (cA14, 1200, .inl (fun _ => 0))), ((g13 35), .inl (cA15, 6, .inl (fun _ => 0))), ((g13 36), .inl (cA16, 6, .inl (fun _ => 0))), ((g13 37), .inl (cA17, 6, .inl (fun _ => 0))), ((g13 48), .inl (cA18, 6, .inl (fun _ => 0)))]) (w1 := []) hP hD [6] [0, 1, 2, 3, 4, 5, 7, 8, 9, 10, 11] rfl rfl (by decide) (by decide) hk1 hFc hP1 hD1
  generalize H1 = H at hP hS ⊢
  have hP : va_P (dC, dI) vwCl [((g3 0), .inl (cA4, 1200, .inl (fun _ => 0))), ((g3 5), .inr (5, [.ref (g5 0), .ref (g5 1), .ref (g5 2), .ref (g5 3), .ref (g5 4), .int 0, .ref (g5 6), .ref (g5 7), .ref (g5 8), .int 0, .int 0, .int 0, .int 0, .int 0, .int 0, .ref (g5 15), .ref (g5 16), .int 0, .int 0])), ((g5 0), .inr (9, [.ref (g6 0), .ref (g6 1), .ref (g6 2), .int 0, .int 0, .int 0, .int 0])), ((g6 0), .inl (cA7, 1201, .inl (fun _ => 0))), ((g6 1), .inl (cA8, 1201, .inl (fun _ => 0))), ((g6 2), .inl (cA9, 1201, .inl (fun _ => 0))), ((g13 1), .inl (cA14, 1200, .inl (fun _ => 0))), ((g13 35), .inl (cA15, 6, .inl (fun _ => 0))), ((g13 36), .inl (cA16, 6, .inl (fun _ => 0))), ((g13 37), .inl (cA17, 6, .inl (fun _ => 0))), ((g13 48), .inl (cA18, 6, .inl (fun _ => 0)))] H := hP
  have hD : va_D A [((g3 0), .inl (cA4, 1200, .inl (fun _ => 0))), ((g3 5), .inr (5, [.ref (g5 0), .ref (g5 1), .ref (g5 2), .ref (g5 3), .ref (g5 4), .int 0, .ref (g5 6), .ref (g5 7), .ref (g5 8), .int 0, .int 0, .int 0, .int 0, .int 0, .int 0, .ref (g5 15), .ref (g5 16), .int 0, .int 0])), ((g5 0), .inr (9, [.ref (g6 0), .ref (g6 1), .ref (g6 2), .int 0, .int 0, .int 0, .int 0])), ((g6 0), .inl (cA7, 1201, .inl (fun _ => 0))), ((g6 1), .inl (cA8, 1201, .inl (fun _ => 0))), ((g6 2), .inl (cA9, 1201, .inl (fun _ => 0))), ((g13 1), .inl (cA14, 1200, .inl (fun _ => 0))), ((g13 35), .inl (cA15, 6, .inl (fun _ => 0))), ((g13 36), .inl (cA16, 6, .inl (fun _ => 0))), ((g13 37), .inl (cA17, 6, .inl (fun _ => 0))), ((g13 48), .inl (cA18, 6, .inl (fun _ => 0)))] := hD
  refine W.widen (k := 257) (n := 1146073) (by decide) (by decide) ?_
  try dsimp only at hw
  subst hw
  refine lv_icmp_eq (tgt := 796) hx hb dL_law_548 (by decide) (fun _ => ?_) (fun h => absurd (by decide) h)
  exact law_tail C0 hAe (Nat.le_of_ble_eq_true rfl) (Nat.le_of_ble_eq_true rfl) hS ls (lv_sub hl [0, 3] rfl)
set_option maxHeartbeats 4000000 in
set_option maxRecDepth 100000 in
theorem law_11 {p : Program} {l : Launch} {e : Env} {s : State} {m : MethodId} {below : List Frame} {meth : Method} {c : Code} {dC : Nat → ClassId} {dI : Nat → Nat → Nat} {b : Nat} {xs : Nat → Int32} {A : Nat → Prop} {q11 : Nat} {q1 : Nat} {g3 : Nat → Nat} {cA4 : ClassId} {g5 : Nat → Nat} {g6 : Nat → Nat} {cA7 : ClassId} {cA8 : ClassId} {cA9 : ClassId} {g10 : Nat → Nat} {g13 : Nat → Nat} {cA14 : ClassId} {cA15 : ClassId} {cA16 : ClassId} {cA17 : ClassId} {cA18 : ClassId} (C0 : lw_At p s m meth c b 7 xs) (hAe : A = fun q => s.heap.size ≤ q) (hN : nst s) {H : Heap} {locs : List Loc} (hK : va_K (dC, dI) vwCl [(cA4, .byte), (cA7, .int), (cA8, .int), (cA9, .int), (cA14, .byte), (cA15, .int), (cA16, .int), (cA17, .int), (cA18, .boolean)] s) (hP : va_P (dC, dI) vwCl [(q1, .inr (11, fsX g3)), ((g3 0), .inl (cA4, 1200, .inl (fun _ => 0))), ((g3 5), .inr (5, [.ref (g5 0), .ref (g5 1), .ref (g5 2), .ref (g5 3), .ref (g5 4), .int 0, .ref (g5 6), .ref (g5 7), .ref (g5 8), .int 0, .int 0, .int 0, .int 0, .int 0, .int 0, .ref (g5 15), .ref (g5 16), .int 0, .int 0])), ((g5 0), .inr (9, [.ref (g6 0), .ref (g6 1), .ref (g6 2), .int 0, .int 0, .int 0, .int 0])), ((g6 0), .inl (cA7, 1201, .inl (fun _ => 0))), ((g6 1), .inl (cA8, 1201, .inl (fun _ => 0))), ((g6 2), .inl (cA9, 1201, .inl (fun _ => 0))), ((g3 8), .inr (7, [.ref (g3 4), .int 0, .int 0, .int 0, .ref (g10 4), .ref (g10 5), .ref (g10 6), .ref (g10 7), .ref (g10 8), .ref (g10 9), .int 0, .int 0, .int 0, .int 0, .null, .int 0, .int 0])), (q11, .inr (12, fsM g13)), ((g13 1), .inl (cA14, 1200, .inl (fun _ => 0))), ((g13 35), .inl (cA15, 6, .inl (fun _ => 0))), ((g13 36), .inl (cA16, 6, .inl (fun _ => 0))), ((g13 37), .inl (cA17, 6, .inl (fun _ => 0))), ((g13 48), .inl (cA18, 6, .inl (fun _ => 0)))] H) (hD : va_D A [(q1, .inr (11, fsX g3)), ((g3 0), .inl (cA4, 1200, .inl (fun _ => 0))), ((g3 5), .inr (5, [.ref (g5 0), .ref (g5 1), .ref (g5 2), .ref (g5 3), .ref (g5 4), .int 0, .ref (g5 6), .ref (g5 7), .ref (g5 8), .int 0, .int 0, .int 0, .int 0, .int 0, .int 0, .ref (g5 15), .ref (g5 16), .int 0, .int 0])), ((g5 0), .inr (9, [.ref (g6 0), .ref (g6 1), .ref (g6 2), .int 0, .int 0, .int 0, .int 0])), ((g6 0), .inl (cA7, 1201, .inl (fun _ => 0))), ((g6 1), .inl (cA8, 1201, .inl (fun _ => 0))), ((g6 2), .inl (cA9, 1201, .inl (fun _ => 0))), ((g3 8), .inr (7, [.ref (g3 4), .int 0, .int 0, .int 0, .ref (g10 4), .ref (g10 5), .ref (g10 6), .ref (g10 7), .ref (g10 8), .ref (g10 9), .int 0, .int 0, .int 0, .int 0, .null, .int 0, .int 0])), (q11, .inr (12, fsM g13)), ((g13 1), .inl (cA14, 1200, .inl (fun _ => 0))), ((g13 35), .inl (cA15, 6, .inl (fun _ => 0))), ((g13 36), .inl (cA16, 6, .inl (fun _ => 0))), ((g13 37), .inl (cA17, 6, .inl (fun _ => 0))), ((g13 48), .inl (cA18, 6, .inl (fun _ => 0)))]) (hS : va_S A s.heap H locs) (ls : Array Slot) (hl : lv_has ls 4 [(3, .int 0), (2, .ref q11), (1, .ref q1), (0, .ref b)]) : W p l e room_1 s m #[Value.ref b] below meth c H locs 257 1146073 (lw_Z below #[Value.ref b] s) (F0 m 553 ls []) := by
  obtain ⟨hx, hb, hr, hml, hown, hts, hX, hbl, hlocks, hgv⟩ := id C0
  have hts : ∀ w ∈ w_law, w.before #[Value.ref b] s = true := fun w h => hts w (w_law_in w h)
  have hown : s.vm.findClass RL = some m.cls := hown
  have hA : ∀ q : Nat, s.heap.size ≤ q → A q := fun q h => by rw [hAe]; exact h
  have hbA : ¬ A b := by rw [hAe]; exact Nat.not_le.mpr hbl
  refine lv_aload_n hx hb dL_law_553 rfl (lv_at hl 2 rfl) ?_
  refine lv_aload_n hx hb dL_law_554 rfl (lv_at hl 3 rfl) ?_
  refine lv_iload_n hx hb dL_law_555 rfl (lv_at hl 0 rfl) ?_
  refine lv_iconst (v := 1) hx hb dL_law_556 (by decide) ?_
  refine lv_iadd hx hb dL_law_557 ?_
  refine vx_topc (v := 1) (by decide) ?_
  refine va_sld hx hb hX hbl hbA hS (vx_in (by decide)) dL_law_558 ?_
  refine lv_aload_n hx hb dL_law_559 rfl (lv_at hl 3 rfl) ?_
  refine lv_iload_n hx hb dL_law_560 rfl (lv_at hl 0 rfl) ?_
  refine lv_iconst (v := 2) hx hb dL_law_561 (by decide) ?_
  refine lv_iadd hx hb dL_law_562 ?_
  refine vx_topc (v := 2) (by decide) ?_
  refine va_sld hx hb hX hbl hbA hS (vx_in (by decide)) dL_law_563 ?_
  have hPc := hP.sub (ws' := [(q1, .inr (11, fsX g3)), ((g3 8), .inr (7, [.ref (g3 4), .int 0, .int 0, .int 0, .ref (g10 4), .ref (g10 5), .ref (g10 6), .ref (g10 7), .ref (g10 8), .ref (g10 9), .int 0, .int 0, .int 0, .int 0, .null, .int 0, .int 0]))]) [0, 7] rfl
  have hDc := hD.sub (ws' := [(q1, .inr (11, fsX g3)), ((g3 8), .inr (7, [.ref (g3 4), .int 0, .int 0, .int 0, .ref (g10 4), .ref (g10 5), .ref (g10 6), .ref (g10 7), .ref (g10 8), .ref (g10 9), .int 0, .int 0, .int 0, .int 0, .null, .int 0, .int 0]))]) [0, 7] (by decide) rfl
  have hKc := hK.sub (tys' := []) [] rfl
  have hFc := va_free (wc := [(q1, .inr (11, fsX g3)), ((g3 8), .inr (7, [.ref (g3 4), .int 0, .int 0, .int 0, .ref (g10 4), .ref (g10 5), .ref (g10 6), .ref (g10 7), .ref (g10 8), .ref (g10 9), .int 0, .int 0, .int 0, .int 0, .null, .int 0, .int 0]))]) hD hS hA [0, 7] rfl
  refine va_calli (va_runV (As := [.int (xs (1 : Int32).toNatClampNeg), .int (xs (2 : Int32).toNatClampNeg)]) (rest := []) ⟨hx, hb, hml, hown, hts⟩ (x_stack l dC dI q1 g3 g10 (xs (1 : Int32).toNatClampNeg) (xs (2 : Int32).toNatClampNeg) H.size ) (cwV 2 hts g_law_x_stack_63 rfl rfl rfl (by decide +kernel) ⟨(Nat.le_of_ble_eq_true rfl), (Nat.le_of_ble_eq_true rfl)⟩) (vx_preV (ci := 11) (q0 := 0) hPc hKc hDc hN rfl rfl) rfl rfl hl.1 rfl (lv_room (Nat.le_of_ble_eq_true rfl)) dL_law_564 ⟨(Nat.le_of_ble_eq_true rfl), (Nat.le_of_ble_eq_true rfl)⟩) hS (fun q _ h => hFc q h) hFc (fun r5001 u t H1 locs ht hvm hw hB hz1 hk1 hS => ?_)
  obtain ⟨hP1, hK1, hD1⟩ := hB
  rw [ht] at hP1
  obtain ⟨hP, hD⟩ := va_join (wr := [((g3 0), .inl (cA4, 1200, .inl (fun _ => 0))), ((g3 5), .inr (5, [.ref (g5 0), .ref (g5 1), .ref (g5 2), .ref (g5 3), .ref (g5 4), .int 0, .ref (g5 6), .ref (g5 7), .ref (g5 8), .int 0, .int 0, .int 0, .int 0, .int 0, .int 0, .ref (g5 15), .ref (g5 16), .int 0, .int 0])), ((g5 0), .inr (9, [.ref (g6 0), .ref (g6 1), .ref (g6 2), .int 0, .int 0, .int 0, .int 0])), ((g6 0), .inl (cA7, 1201, .inl (fun _ => 0))), ((g6 1), .inl (cA8, 1201, .inl (fun _ => 0))), ((g6 2), .inl (cA9, 1201, .inl (fun _ => 0))), (q11, .inr (12, fsM g13)), ((g13 1), .inl (cA14, 1200, .inl (fun _ => 0))), ((g13 35), .inl (cA15, 6, .inl (fun _ => 0))), ((g13 36), .inl (cA16, 6, .inl (fun _ => 0))), ((g13 37), .inl (cA17, 6, .inl (fun _ => 0))), ((g13 48), .inl (cA18, 6, .inl (fun _ => 0)))]) (w1 := []) hP hD [0, 7] [1, 2, 3, 4, 5, 6, 8, 9, 10, 11, 12, 13] rfl rfl (by decide) (by decide) hk1 hFc hP1 hD1
  generalize H1 = H at hP hS ⊢
  have hP : va_P (dC, dI) vwCl [((g3 0), .inl (cA4, 1200, .inl (fun _ => 0))), ((g3 5), .inr (5, [.ref (g5 0), .ref (g5 1), .ref (g5 2), .ref (g5 3), .ref (g5 4), .int 0, .ref (g5 6), .ref (g5 7), .ref (g5 8), .int 0, .int 0, .int 0, .int 0, .int 0, .int 0, .ref (g5 15), .ref (g5 16), .int 0, .int 0])), ((g5 0), .inr (9, [.ref (g6 0), .ref (g6 1), .ref (g6 2), .int 0, .int 0, .int 0, .int 0])), ((g6 0), .inl (cA7, 1201, .inl (fun _ => 0))), ((g6 1), .inl (cA8, 1201, .inl (fun _ => 0))), ((g6 2), .inl (cA9, 1201, .inl (fun _ => 0))), (q11, .inr (12, fsM g13)), ((g13 1), .inl (cA14, 1200, .inl (fun _ => 0))), ((g13 35), .inl (cA15, 6, .inl (fun _ => 0))), ((g13 36), .inl (cA16, 6, .inl (fun _ => 0))), ((g13 37), .inl (cA17, 6, .inl (fun _ => 0))), ((g13 48), .inl (cA18, 6, .inl (fun _ => 0)))] H := hP
  have hD : va_D A [((g3 0), .inl (cA4, 1200, .inl (fun _ => 0))), ((g3 5), .inr (5, [.ref (g5 0), .ref (g5 1), .ref (g5 2), .ref (g5 3), .ref (g5 4), .int 0, .ref (g5 6), .ref (g5 7), .ref (g5 8), .int 0, .int 0, .int 0, .int 0, .int 0, .int 0, .ref (g5 15), .ref (g5 16), .int 0, .int 0])), ((g5 0), .inr (9, [.ref (g6 0), .ref (g6 1), .ref (g6 2), .int 0, .int 0, .int 0, .int 0])), ((g6 0), .inl (cA7, 1201, .inl (fun _ => 0))), ((g6 1), .inl (cA8, 1201, .inl (fun _ => 0))), ((g6 2), .inl (cA9, 1201, .inl (fun _ => 0))), (q11, .inr (12, fsM g13)), ((g13 1), .inl (cA14, 1200, .inl (fun _ => 0))), ((g13 35), .inl (cA15, 6, .inl (fun _ => 0))), ((g13 36), .inl (cA16, 6, .inl (fun _ => 0))), ((g13 37), .inl (cA17, 6, .inl (fun _ => 0))), ((g13 48), .inl (cA18, 6, .inl (fun _ => 0)))] := hD
  refine W.widen (k := 257) (n := 1146073) (by decide) (by decide) ?_
  try dsimp only at hw
  subst hw
  refine lv_aload_n hx hb dL_law_567 rfl (lv_at hl 1 rfl) ?_
  refine lv_aload_n hx hb dL_law_568 rfl (lv_at hl 3 rfl) ?_
  refine lv_iload_n hx hb dL_law_569 rfl (lv_at hl 0 rfl) ?_
  refine lv_iconst (v := 1) hx hb dL_law_570 (by decide) ?_
  refine lv_iadd hx hb dL_law_571 ?_
  refine vx_topc (v := 1) (by decide) ?_
  refine va_sld hx hb hX hbl hbA hS (vx_in (by decide)) dL_law_572 ?_
  refine lv_aload_n hx hb dL_law_573 rfl (lv_at hl 3 rfl) ?_
  refine lv_iload_n hx hb dL_law_574 rfl (lv_at hl 0 rfl) ?_
  refine lv_iconst (v := 2) hx hb dL_law_575 (by decide) ?_
  refine lv_iadd hx hb dL_law_576 ?_
  refine vx_topc (v := 2) (by decide) ?_
  refine va_sld hx hb hX hbl hbA hS (vx_in (by decide)) dL_law_577 ?_
  have hPc := hP.sub (ws' := [(q11, .inr (12, fsM g13))]) [6] rfl
  have hDc := hD.sub (ws' := [(q11, .inr (12, fsM g13))]) [6] (by decide) rfl
  have hKc := hK.sub (tys' := []) [] rfl
  have hFc := va_free (wc := [(q11, .inr (12, fsM g13))]) hD hS hA [6] rfl
  refine va_calli (va_runV (As := [.int (xs (1 : Int32).toNatClampNeg), .int (xs (2 : Int32).toNatClampNeg)]) (rest := [.int (-1)]) ⟨hx, hb, hml, hown, hts⟩ (m_stack l dC dI q11 g13 (xs (1 : Int32).toNatClampNeg) (xs (2 : Int32).toNatClampNeg) H.size ) (cwV 2 hts g_law_m_stack_66 rfl rfl rfl (by decide +kernel) ⟨(Nat.le_of_ble_eq_true rfl), (Nat.le_of_ble_eq_true rfl)⟩) (vx_preV (ci := 12) (q0 := 0) hPc hKc hDc hN rfl rfl) rfl rfl hl.1 rfl (lv_room (Nat.le_of_ble_eq_true rfl)) dL_law_578 ⟨(Nat.le_of_ble_eq_true rfl), (Nat.le_of_ble_eq_true rfl)⟩) hS (fun q _ h => hFc q h) hFc (fun r5002 u t H1 locs ht hvm hw hB hz1 hk1 hS => ?_)
  obtain ⟨hP1, hK1, hD1⟩ := hB
  rw [ht] at hP1
  obtain ⟨hP, hD⟩ := va_join (wr := [((g3 0), .inl (cA4, 1200, .inl (fun _ => 0))), ((g3 5), .inr (5, [.ref (g5 0), .ref (g5 1), .ref (g5 2), .ref (g5 3), .ref (g5 4), .int 0, .ref (g5 6), .ref (g5 7), .ref (g5 8), .int 0, .int 0, .int 0, .int 0, .int 0, .int 0, .ref (g5 15), .ref (g5 16), .int 0, .int 0])), ((g5 0), .inr (9, [.ref (g6 0), .ref (g6 1), .ref (g6 2), .int 0, .int 0, .int 0, .int 0])), ((g6 0), .inl (cA7, 1201, .inl (fun _ => 0))), ((g6 1), .inl (cA8, 1201, .inl (fun _ => 0))), ((g6 2), .inl (cA9, 1201, .inl (fun _ => 0))), ((g13 1), .inl (cA14, 1200, .inl (fun _ => 0))), ((g13 35), .inl (cA15, 6, .inl (fun _ => 0))), ((g13 36), .inl (cA16, 6, .inl (fun _ => 0))), ((g13 37), .inl (cA17, 6, .inl (fun _ => 0))), ((g13 48), .inl (cA18, 6, .inl (fun _ => 0)))]) (w1 := []) hP hD [6] [0, 1, 2, 3, 4, 5, 7, 8, 9, 10, 11] rfl rfl (by decide) (by decide) hk1 hFc hP1 hD1
  generalize H1 = H at hP hS ⊢
  have hP : va_P (dC, dI) vwCl [((g3 0), .inl (cA4, 1200, .inl (fun _ => 0))), ((g3 5), .inr (5, [.ref (g5 0), .ref (g5 1), .ref (g5 2), .ref (g5 3), .ref (g5 4), .int 0, .ref (g5 6), .ref (g5 7), .ref (g5 8), .int 0, .int 0, .int 0, .int 0, .int 0, .int 0, .ref (g5 15), .ref (g5 16), .int 0, .int 0])), ((g5 0), .inr (9, [.ref (g6 0), .ref (g6 1), .ref (g6 2), .int 0, .int 0, .int 0, .int 0])), ((g6 0), .inl (cA7, 1201, .inl (fun _ => 0))), ((g6 1), .inl (cA8, 1201, .inl (fun _ => 0))), ((g6 2), .inl (cA9, 1201, .inl (fun _ => 0))), ((g13 1), .inl (cA14, 1200, .inl (fun _ => 0))), ((g13 35), .inl (cA15, 6, .inl (fun _ => 0))), ((g13 36), .inl (cA16, 6, .inl (fun _ => 0))), ((g13 37), .inl (cA17, 6, .inl (fun _ => 0))), ((g13 48), .inl (cA18, 6, .inl (fun _ => 0)))] H := hP
  have hD : va_D A [((g3 0), .inl (cA4, 1200, .inl (fun _ => 0))), ((g3 5), .inr (5, [.ref (g5 0), .ref (g5 1), .ref (g5 2), .ref (g5 3), .ref (g5 4), .int 0, .ref (g5 6), .ref (g5 7), .ref (g5 8), .int 0, .int 0, .int 0, .int 0, .int 0, .int 0, .ref (g5 15), .ref (g5 16), .int 0, .int 0])), ((g5 0), .inr (9, [.ref (g6 0), .ref (g6 1), .ref (g6 2), .int 0, .int 0, .int 0, .int 0])), ((g6 0), .inl (cA7, 1201, .inl (fun _ => 0))), ((g6 1), .inl (cA8, 1201, .inl (fun _ => 0))), ((g6 2), .inl (cA9, 1201, .inl (fun _ => 0))), ((g13 1), .inl (cA14, 1200, .inl (fun _ => 0))), ((g13 35), .inl (cA15, 6, .inl (fun _ => 0))), ((g13 36), .inl (cA16, 6, .inl (fun _ => 0))), ((g13 37), .inl (cA17, 6, .inl (fun _ => 0))), ((g13 48), .inl (cA18, 6, .inl (fun _ => 0)))] := hD
  refine W.widen (k := 257) (n := 1146073) (by decide) (by decide) ?_
  try dsimp only at hw
  subst hw
  refine lv_icmp_eq (tgt := 796) hx hb dL_law_581 (by decide) (fun _ => ?_) (fun h => absurd (by decide) h)
  exact law_tail C0 hAe (Nat.le_of_ble_eq_true rfl) (Nat.le_of_ble_eq_true rfl) hS ls (lv_sub hl [0, 3] rfl)
set_option maxHeartbeats 4000000 in
set_option maxRecDepth 100000 in
theorem law_12 {p : Program} {l : Launch} {e : Env} {s : State} {m : MethodId} {below : List Frame} {meth : Method} {c : Code} {dC : Nat → ClassId} {dI : Nat → Nat → Nat} {b : Nat} {xs : Nat → Int32} {A : Nat → Prop} {q11 : Nat} {q1 : Nat} {g3 : Nat → Nat} {cA4 : ClassId} {g5 : Nat → Nat} {g6 : Nat → Nat} {cA7 : ClassId} {cA8 : ClassId} {cA9 : ClassId} {g10 : Nat → Nat} {g13 : Nat → Nat} {cA14 : ClassId} {cA15 : ClassId} {cA16 : ClassId} {cA17 : ClassId} {cA18 : ClassId} (C0 : lw_At p s m meth c b 7 xs) (hAe : A = fun q => s.heap.size ≤ q) (hN : nst s) {H : Heap} {locs : List Loc} (hK : va_K (dC, dI) vwCl [(cA4, .byte), (cA7, .int), (cA8, .int), (cA9, .int), (cA14, .byte), (cA15, .int), (cA16, .int), (cA17, .int), (cA18, .boolean)] s) (hP : va_P (dC, dI) vwCl [(q1, .inr (11, fsX g3)), ((g3 0), .inl (cA4, 1200, .inl (fun _ => 0))), ((g3 5), .inr (5, [.ref (g5 0), .ref (g5 1), .ref (g5 2), .ref (g5 3), .ref (g5 4), .int 0, .ref (g5 6), .ref (g5 7), .ref (g5 8), .int 0, .int 0, .int 0, .int 0, .int 0, .int 0, .ref (g5 15), .ref (g5 16), .int 0, .int 0])), ((g5 0), .inr (9, [.ref (g6 0), .ref (g6 1), .ref (g6 2), .int 0, .int 0, .int 0, .int 0])), ((g6 0), .inl (cA7, 1201, .inl (fun _ => 0))), ((g6 1), .inl (cA8, 1201, .inl (fun _ => 0))), ((g6 2), .inl (cA9, 1201, .inl (fun _ => 0))), ((g3 8), .inr (7, [.ref (g3 4), .int 0, .int 0, .int 0, .ref (g10 4), .ref (g10 5), .ref (g10 6), .ref (g10 7), .ref (g10 8), .ref (g10 9), .int 0, .int 0, .int 0, .int 0, .null, .int 0, .int 0])), (q11, .inr (12, fsM g13)), ((g13 1), .inl (cA14, 1200, .inl (fun _ => 0))), ((g13 35), .inl (cA15, 6, .inl (fun _ => 0))), ((g13 36), .inl (cA16, 6, .inl (fun _ => 0))), ((g13 37), .inl (cA17, 6, .inl (fun _ => 0))), ((g13 48), .inl (cA18, 6, .inl (fun _ => 0)))] H) (hD : va_D A [(q1, .inr (11, fsX g3)), ((g3 0), .inl (cA4, 1200, .inl (fun _ => 0))), ((g3 5), .inr (5, [.ref (g5 0), .ref (g5 1), .ref (g5 2), .ref (g5 3), .ref (g5 4), .int 0, .ref (g5 6), .ref (g5 7), .ref (g5 8), .int 0, .int 0, .int 0, .int 0, .int 0, .int 0, .ref (g5 15), .ref (g5 16), .int 0, .int 0])), ((g5 0), .inr (9, [.ref (g6 0), .ref (g6 1), .ref (g6 2), .int 0, .int 0, .int 0, .int 0])), ((g6 0), .inl (cA7, 1201, .inl (fun _ => 0))), ((g6 1), .inl (cA8, 1201, .inl (fun _ => 0))), ((g6 2), .inl (cA9, 1201, .inl (fun _ => 0))), ((g3 8), .inr (7, [.ref (g3 4), .int 0, .int 0, .int 0, .ref (g10 4), .ref (g10 5), .ref (g10 6), .ref (g10 7), .ref (g10 8), .ref (g10 9), .int 0, .int 0, .int 0, .int 0, .null, .int 0, .int 0])), (q11, .inr (12, fsM g13)), ((g13 1), .inl (cA14, 1200, .inl (fun _ => 0))), ((g13 35), .inl (cA15, 6, .inl (fun _ => 0))), ((g13 36), .inl (cA16, 6, .inl (fun _ => 0))), ((g13 37), .inl (cA17, 6, .inl (fun _ => 0))), ((g13 48), .inl (cA18, 6, .inl (fun _ => 0)))]) (hS : va_S A s.heap H locs) (ls : Array Slot) (hl : lv_has ls 4 [(3, .int 0), (2, .ref q11), (1, .ref q1), (0, .ref b)]) : W p l e room_1 s m #[Value.ref b] below meth c H locs 257 1146073 (lw_Z below #[Value.ref b] s) (F0 m 586 ls []) := by
  obtain ⟨hx, hb, hr, hml, hown, hts, hX, hbl, hlocks, hgv⟩ := id C0
  have hts : ∀ w ∈ w_law, w.before #[Value.ref b] s = true := fun w h => hts w (w_law_in w h)
  have hown : s.vm.findClass RL = some m.cls := hown
  have hA : ∀ q : Nat, s.heap.size ≤ q → A q := fun q h => by rw [hAe]; exact h
  have hbA : ¬ A b := by rw [hAe]; exact Nat.not_le.mpr hbl
  refine lv_aload_n hx hb dL_law_586 rfl (lv_at hl 2 rfl) ?_
  refine lv_aload_n hx hb dL_law_587 rfl (lv_at hl 3 rfl) ?_
  refine lv_iload_n hx hb dL_law_588 rfl (lv_at hl 0 rfl) ?_
  refine lv_iconst (v := 1) hx hb dL_law_589 (by decide) ?_
  refine lv_iadd hx hb dL_law_590 ?_
  refine vx_topc (v := 1) (by decide) ?_
  refine va_sld hx hb hX hbl hbA hS (vx_in (by decide)) dL_law_591 ?_
  refine lv_aload_n hx hb dL_law_592 rfl (lv_at hl 3 rfl) ?_
  refine lv_iload_n hx hb dL_law_593 rfl (lv_at hl 0 rfl) ?_
  refine lv_iconst (v := 2) hx hb dL_law_594 (by decide) ?_
  refine lv_iadd hx hb dL_law_595 ?_
  refine vx_topc (v := 2) (by decide) ?_
  refine va_sld hx hb hX hbl hbA hS (vx_in (by decide)) dL_law_596 ?_
  have hPc := hP.sub (ws' := [(q1, .inr (11, fsX g3)), ((g3 8), .inr (7, [.ref (g3 4), .int 0, .int 0, .int 0, .ref (g10 4), .ref (g10 5), .ref (g10 6), .ref (g10 7), .ref (g10 8), .ref (g10 9), .int 0, .int 0, .int 0, .int 0, .null, .int 0, .int 0]))]) [0, 7] rfl
  have hDc := hD.sub (ws' := [(q1, .inr (11, fsX g3)), ((g3 8), .inr (7, [.ref (g3 4), .int 0, .int 0, .int 0, .ref (g10 4), .ref (g10 5), .ref (g10 6), .ref (g10 7), .ref (g10 8), .ref (g10 9), .int 0, .int 0, .int 0, .int 0, .null, .int 0, .int 0]))]) [0, 7] (by decide) rfl
  have hKc := hK.sub (tys' := []) [] rfl
  have hFc := va_free (wc := [(q1, .inr (11, fsX g3)), ((g3 8), .inr (7, [.ref (g3 4), .int 0, .int 0, .int 0, .ref (g10 4), .ref (g10 5), .ref (g10 6), .ref (g10 7), .ref (g10 8), .ref (g10 9), .int 0, .int 0, .int 0, .int 0, .null, .int 0, .int 0]))]) hD hS hA [0, 7] rfl
  refine va_calli (va_runV (As := [.int (xs (1 : Int32).toNatClampNeg), .int (xs (2 : Int32).toNatClampNeg)]) (rest := []) ⟨hx, hb, hml, hown, hts⟩ (x_known l dC dI q1 g3 g10 (xs (1 : Int32).toNatClampNeg) (xs (2 : Int32).toNatClampNeg) H.size ) (cwV 2 hts g_law_x_known_67 rfl rfl rfl (by decide +kernel) ⟨(Nat.le_of_ble_eq_true rfl), (Nat.le_of_ble_eq_true rfl)⟩) (vx_preV (ci := 11) (q0 := 0) hPc hKc hDc hN rfl rfl) rfl rfl hl.1 rfl (lv_room (Nat.le_of_ble_eq_true rfl)) dL_law_597 ⟨(Nat.le_of_ble_eq_true rfl), (Nat.le_of_ble_eq_true rfl)⟩) hS (fun q _ h => hFc q h) hFc (fun r5001 u t H1 locs ht hvm hw hB hz1 hk1 hS => ?_)
  obtain ⟨hP1, hK1, hD1⟩ := hB
  rw [ht] at hP1
  obtain ⟨hP, hD⟩ := va_join (wr := [((g3 0), .inl (cA4, 1200, .inl (fun _ => 0))), ((g3 5), .inr (5, [.ref (g5 0), .ref (g5 1), .ref (g5 2), .ref (g5 3), .ref (g5 4), .int 0, .ref (g5 6), .ref (g5 7), .ref (g5 8), .int 0, .int 0, .int 0, .int 0, .int 0, .int 0, .ref (g5 15), .ref (g5 16), .int 0, .int 0])), ((g5 0), .inr (9, [.ref (g6 0), .ref (g6 1), .ref (g6 2), .int 0, .int 0, .int 0, .int 0])), ((g6 0), .inl (cA7, 1201, .inl (fun _ => 0))), ((g6 1), .inl (cA8, 1201, .inl (fun _ => 0))), ((g6 2), .inl (cA9, 1201, .inl (fun _ => 0))), (q11, .inr (12, fsM g13)), ((g13 1), .inl (cA14, 1200, .inl (fun _ => 0))), ((g13 35), .inl (cA15, 6, .inl (fun _ => 0))), ((g13 36), .inl (cA16, 6, .inl (fun _ => 0))), ((g13 37), .inl (cA17, 6, .inl (fun _ => 0))), ((g13 48), .inl (cA18, 6, .inl (fun _ => 0)))]) (w1 := []) hP hD [0, 7] [1, 2, 3, 4, 5, 6, 8, 9, 10, 11, 12, 13] rfl rfl (by decide) (by decide) hk1 hFc hP1 hD1
  generalize H1 = H at hP hS ⊢
  have hP : va_P (dC, dI) vwCl [((g3 0), .inl (cA4, 1200, .inl (fun _ => 0))), ((g3 5), .inr (5, [.ref (g5 0), .ref (g5 1), .ref (g5 2), .ref (g5 3), .ref (g5 4), .int 0, .ref (g5 6), .ref (g5 7), .ref (g5 8), .int 0, .int 0, .int 0, .int 0, .int 0, .int 0, .ref (g5 15), .ref (g5 16), .int 0, .int 0])), ((g5 0), .inr (9, [.ref (g6 0), .ref (g6 1), .ref (g6 2), .int 0, .int 0, .int 0, .int 0])), ((g6 0), .inl (cA7, 1201, .inl (fun _ => 0))), ((g6 1), .inl (cA8, 1201, .inl (fun _ => 0))), ((g6 2), .inl (cA9, 1201, .inl (fun _ => 0))), (q11, .inr (12, fsM g13)), ((g13 1), .inl (cA14, 1200, .inl (fun _ => 0))), ((g13 35), .inl (cA15, 6, .inl (fun _ => 0))), ((g13 36), .inl (cA16, 6, .inl (fun _ => 0))), ((g13 37), .inl (cA17, 6, .inl (fun _ => 0))), ((g13 48), .inl (cA18, 6, .inl (fun _ => 0)))] H := hP
  have hD : va_D A [((g3 0), .inl (cA4, 1200, .inl (fun _ => 0))), ((g3 5), .inr (5, [.ref (g5 0), .ref (g5 1), .ref (g5 2), .ref (g5 3), .ref (g5 4), .int 0, .ref (g5 6), .ref (g5 7), .ref (g5 8), .int 0, .int 0, .int 0, .int 0, .int 0, .int 0, .ref (g5 15), .ref (g5 16), .int 0, .int 0])), ((g5 0), .inr (9, [.ref (g6 0), .ref (g6 1), .ref (g6 2), .int 0, .int 0, .int 0, .int 0])), ((g6 0), .inl (cA7, 1201, .inl (fun _ => 0))), ((g6 1), .inl (cA8, 1201, .inl (fun _ => 0))), ((g6 2), .inl (cA9, 1201, .inl (fun _ => 0))), (q11, .inr (12, fsM g13)), ((g13 1), .inl (cA14, 1200, .inl (fun _ => 0))), ((g13 35), .inl (cA15, 6, .inl (fun _ => 0))), ((g13 36), .inl (cA16, 6, .inl (fun _ => 0))), ((g13 37), .inl (cA17, 6, .inl (fun _ => 0))), ((g13 48), .inl (cA18, 6, .inl (fun _ => 0)))] := hD
  refine W.widen (k := 257) (n := 1146073) (by decide) (by decide) ?_
  try dsimp only at hw
  subst hw
  refine lv_aload_n hx hb dL_law_600 rfl (lv_at hl 1 rfl) ?_
  refine lv_aload_n hx hb dL_law_601 rfl (lv_at hl 3 rfl) ?_
  refine lv_iload_n hx hb dL_law_602 rfl (lv_at hl 0 rfl) ?_
  refine lv_iconst (v := 1) hx hb dL_law_603 (by decide) ?_
  refine lv_iadd hx hb dL_law_604 ?_
  refine vx_topc (v := 1) (by decide) ?_
  refine va_sld hx hb hX hbl hbA hS (vx_in (by decide)) dL_law_605 ?_
  refine lv_aload_n hx hb dL_law_606 rfl (lv_at hl 3 rfl) ?_
  refine lv_iload_n hx hb dL_law_607 rfl (lv_at hl 0 rfl) ?_
  refine lv_iconst (v := 2) hx hb dL_law_608 (by decide) ?_
  refine lv_iadd hx hb dL_law_609 ?_
  refine vx_topc (v := 2) (by decide) ?_
  refine va_sld hx hb hX hbl hbA hS (vx_in (by decide)) dL_law_610 ?_
  have hPc := hP.sub (ws' := [(q11, .inr (12, fsM g13))]) [6] rfl
  have hDc := hD.sub (ws' := [(q11, .inr (12, fsM g13))]) [6] (by decide) rfl
  have hKc := hK.sub (tys' := []) [] rfl
  have hFc := va_free (wc := [(q11, .inr (12, fsM g13))]) hD hS hA [6] rfl
  refine va_calli (va_runV (As := [.int (xs (1 : Int32).toNatClampNeg), .int (xs (2 : Int32).toNatClampNeg)]) (rest := [.int (-1)]) ⟨hx, hb, hml, hown, hts⟩ (m_known l dC dI q11 g13 (xs (1 : Int32).toNatClampNeg) (xs (2 : Int32).toNatClampNeg) H.size ) (cwV 2 hts g_law_m_known_70 rfl rfl rfl (by decide +kernel) ⟨(Nat.le_of_ble_eq_true rfl), (Nat.le_of_ble_eq_true rfl)⟩) (vx_preV (ci := 12) (q0 := 0) hPc hKc hDc hN rfl rfl) rfl rfl hl.1 rfl (lv_room (Nat.le_of_ble_eq_true rfl)) dL_law_611 ⟨(Nat.le_of_ble_eq_true rfl), (Nat.le_of_ble_eq_true rfl)⟩) hS (fun q _ h => hFc q h) hFc (fun r5002 u t H1 locs ht hvm hw hB hz1 hk1 hS => ?_)
  obtain ⟨hP1, hK1, hD1⟩ := hB
  rw [ht] at hP1
  obtain ⟨hP, hD⟩ := va_join (wr := [((g3 0), .inl (cA4, 1200, .inl (fun _ => 0))), ((g3 5), .inr (5, [.ref (g5 0), .ref (g5 1), .ref (g5 2), .ref (g5 3), .ref (g5 4), .int 0, .ref (g5 6), .ref (g5 7), .ref (g5 8), .int 0, .int 0, .int 0, .int 0, .int 0, .int 0, .ref (g5 15), .ref (g5 16), .int 0, .int 0])), ((g5 0), .inr (9, [.ref (g6 0), .ref (g6 1), .ref (g6 2), .int 0, .int 0, .int 0, .int 0])), ((g6 0), .inl (cA7, 1201, .inl (fun _ => 0))), ((g6 1), .inl (cA8, 1201, .inl (fun _ => 0))), ((g6 2), .inl (cA9, 1201, .inl (fun _ => 0))), ((g13 1), .inl (cA14, 1200, .inl (fun _ => 0))), ((g13 35), .inl (cA15, 6, .inl (fun _ => 0))), ((g13 36), .inl (cA16, 6, .inl (fun _ => 0))), ((g13 37), .inl (cA17, 6, .inl (fun _ => 0))), ((g13 48), .inl (cA18, 6, .inl (fun _ => 0)))]) (w1 := []) hP hD [6] [0, 1, 2, 3, 4, 5, 7, 8, 9, 10, 11] rfl rfl (by decide) (by decide) hk1 hFc hP1 hD1
  generalize H1 = H at hP hS ⊢
  have hP : va_P (dC, dI) vwCl [((g3 0), .inl (cA4, 1200, .inl (fun _ => 0))), ((g3 5), .inr (5, [.ref (g5 0), .ref (g5 1), .ref (g5 2), .ref (g5 3), .ref (g5 4), .int 0, .ref (g5 6), .ref (g5 7), .ref (g5 8), .int 0, .int 0, .int 0, .int 0, .int 0, .int 0, .ref (g5 15), .ref (g5 16), .int 0, .int 0])), ((g5 0), .inr (9, [.ref (g6 0), .ref (g6 1), .ref (g6 2), .int 0, .int 0, .int 0, .int 0])), ((g6 0), .inl (cA7, 1201, .inl (fun _ => 0))), ((g6 1), .inl (cA8, 1201, .inl (fun _ => 0))), ((g6 2), .inl (cA9, 1201, .inl (fun _ => 0))), ((g13 1), .inl (cA14, 1200, .inl (fun _ => 0))), ((g13 35), .inl (cA15, 6, .inl (fun _ => 0))), ((g13 36), .inl (cA16, 6, .inl (fun _ => 0))), ((g13 37), .inl (cA17, 6, .inl (fun _ => 0))), ((g13 48), .inl (cA18, 6, .inl (fun _ => 0)))] H := hP
  have hD : va_D A [((g3 0), .inl (cA4, 1200, .inl (fun _ => 0))), ((g3 5), .inr (5, [.ref (g5 0), .ref (g5 1), .ref (g5 2), .ref (g5 3), .ref (g5 4), .int 0, .ref (g5 6), .ref (g5 7), .ref (g5 8), .int 0, .int 0, .int 0, .int 0, .int 0, .int 0, .ref (g5 15), .ref (g5 16), .int 0, .int 0])), ((g5 0), .inr (9, [.ref (g6 0), .ref (g6 1), .ref (g6 2), .int 0, .int 0, .int 0, .int 0])), ((g6 0), .inl (cA7, 1201, .inl (fun _ => 0))), ((g6 1), .inl (cA8, 1201, .inl (fun _ => 0))), ((g6 2), .inl (cA9, 1201, .inl (fun _ => 0))), ((g13 1), .inl (cA14, 1200, .inl (fun _ => 0))), ((g13 35), .inl (cA15, 6, .inl (fun _ => 0))), ((g13 36), .inl (cA16, 6, .inl (fun _ => 0))), ((g13 37), .inl (cA17, 6, .inl (fun _ => 0))), ((g13 48), .inl (cA18, 6, .inl (fun _ => 0)))] := hD
  refine W.widen (k := 257) (n := 1146073) (by decide) (by decide) ?_
  try dsimp only at hw
  subst hw
  refine lv_icmp_eq (tgt := 796) hx hb dL_law_614 (by decide) (fun _ => ?_) (fun h => absurd (by decide) h)
  exact law_tail C0 hAe (Nat.le_of_ble_eq_true rfl) (Nat.le_of_ble_eq_true rfl) hS ls (lv_sub hl [0, 3] rfl)
set_option maxHeartbeats 4000000 in
set_option maxRecDepth 100000 in
theorem law_13 {p : Program} {l : Launch} {e : Env} {s : State} {m : MethodId} {below : List Frame} {meth : Method} {c : Code} {dC : Nat → ClassId} {dI : Nat → Nat → Nat} {b : Nat} {xs : Nat → Int32} {A : Nat → Prop} {q11 : Nat} {q1 : Nat} {g3 : Nat → Nat} {cA4 : ClassId} {g5 : Nat → Nat} {g6 : Nat → Nat} {cA7 : ClassId} {cA8 : ClassId} {cA9 : ClassId} {g10 : Nat → Nat} {g13 : Nat → Nat} {cA14 : ClassId} {cA15 : ClassId} {cA16 : ClassId} {cA17 : ClassId} {cA18 : ClassId} (C0 : lw_At p s m meth c b 7 xs) (hAe : A = fun q => s.heap.size ≤ q) (hN : nst s) {H : Heap} {locs : List Loc} (hK : va_K (dC, dI) vwCl [(cA4, .byte), (cA7, .int), (cA8, .int), (cA9, .int), (cA14, .byte), (cA15, .int), (cA16, .int), (cA17, .int), (cA18, .boolean)] s) (hP : va_P (dC, dI) vwCl [(q1, .inr (11, fsX g3)), ((g3 0), .inl (cA4, 1200, .inl (fun _ => 0))), ((g3 5), .inr (5, [.ref (g5 0), .ref (g5 1), .ref (g5 2), .ref (g5 3), .ref (g5 4), .int 0, .ref (g5 6), .ref (g5 7), .ref (g5 8), .int 0, .int 0, .int 0, .int 0, .int 0, .int 0, .ref (g5 15), .ref (g5 16), .int 0, .int 0])), ((g5 0), .inr (9, [.ref (g6 0), .ref (g6 1), .ref (g6 2), .int 0, .int 0, .int 0, .int 0])), ((g6 0), .inl (cA7, 1201, .inl (fun _ => 0))), ((g6 1), .inl (cA8, 1201, .inl (fun _ => 0))), ((g6 2), .inl (cA9, 1201, .inl (fun _ => 0))), ((g3 8), .inr (7, [.ref (g3 4), .int 0, .int 0, .int 0, .ref (g10 4), .ref (g10 5), .ref (g10 6), .ref (g10 7), .ref (g10 8), .ref (g10 9), .int 0, .int 0, .int 0, .int 0, .null, .int 0, .int 0])), (q11, .inr (12, fsM g13)), ((g13 1), .inl (cA14, 1200, .inl (fun _ => 0))), ((g13 35), .inl (cA15, 6, .inl (fun _ => 0))), ((g13 36), .inl (cA16, 6, .inl (fun _ => 0))), ((g13 37), .inl (cA17, 6, .inl (fun _ => 0))), ((g13 48), .inl (cA18, 6, .inl (fun _ => 0)))] H) (hD : va_D A [(q1, .inr (11, fsX g3)), ((g3 0), .inl (cA4, 1200, .inl (fun _ => 0))), ((g3 5), .inr (5, [.ref (g5 0), .ref (g5 1), .ref (g5 2), .ref (g5 3), .ref (g5 4), .int 0, .ref (g5 6), .ref (g5 7), .ref (g5 8), .int 0, .int 0, .int 0, .int 0, .int 0, .int 0, .ref (g5 15), .ref (g5 16), .int 0, .int 0])), ((g5 0), .inr (9, [.ref (g6 0), .ref (g6 1), .ref (g6 2), .int 0, .int 0, .int 0, .int 0])), ((g6 0), .inl (cA7, 1201, .inl (fun _ => 0))), ((g6 1), .inl (cA8, 1201, .inl (fun _ => 0))), ((g6 2), .inl (cA9, 1201, .inl (fun _ => 0))), ((g3 8), .inr (7, [.ref (g3 4), .int 0, .int 0, .int 0, .ref (g10 4), .ref (g10 5), .ref (g10 6), .ref (g10 7), .ref (g10 8), .ref (g10 9), .int 0, .int 0, .int 0, .int 0, .null, .int 0, .int 0])), (q11, .inr (12, fsM g13)), ((g13 1), .inl (cA14, 1200, .inl (fun _ => 0))), ((g13 35), .inl (cA15, 6, .inl (fun _ => 0))), ((g13 36), .inl (cA16, 6, .inl (fun _ => 0))), ((g13 37), .inl (cA17, 6, .inl (fun _ => 0))), ((g13 48), .inl (cA18, 6, .inl (fun _ => 0)))]) (hS : va_S A s.heap H locs) (ls : Array Slot) (hl : lv_has ls 4 [(3, .int 0), (2, .ref q11), (1, .ref q1), (0, .ref b)]) : W p l e room_1 s m #[Value.ref b] below meth c H locs 257 1146073 (lw_Z below #[Value.ref b] s) (F0 m 619 ls []) := by
  obtain ⟨hx, hb, hr, hml, hown, hts, hX, hbl, hlocks, hgv⟩ := id C0
  have hts : ∀ w ∈ w_law, w.before #[Value.ref b] s = true := fun w h => hts w (w_law_in w h)
  have hown : s.vm.findClass RL = some m.cls := hown
  have hA : ∀ q : Nat, s.heap.size ≤ q → A q := fun q h => by rw [hAe]; exact h
  have hbA : ¬ A b := by rw [hAe]; exact Nat.not_le.mpr hbl
  refine lv_aload_n hx hb dL_law_619 rfl (lv_at hl 2 rfl) ?_
  refine lv_aload_n hx hb dL_law_620 rfl (lv_at hl 3 rfl) ?_
  refine lv_iload_n hx hb dL_law_621 rfl (lv_at hl 0 rfl) ?_
  refine lv_iconst (v := 1) hx hb dL_law_622 (by decide) ?_
  refine lv_iadd hx hb dL_law_623 ?_
  refine vx_topc (v := 1) (by decide) ?_
  refine va_sld hx hb hX hbl hbA hS (vx_in (by decide)) dL_law_624 ?_
  refine lv_aload_n hx hb dL_law_625 rfl (lv_at hl 3 rfl) ?_
  refine lv_iload_n hx hb dL_law_626 rfl (lv_at hl 0 rfl) ?_
  refine lv_iconst (v := 2) hx hb dL_law_627 (by decide) ?_
  refine lv_iadd hx hb dL_law_628 ?_
  refine vx_topc (v := 2) (by decide) ?_
  refine va_sld hx hb hX hbl hbA hS (vx_in (by decide)) dL_law_629 ?_
  have hPc := hP.sub (ws' := [(q1, .inr (11, fsX g3)), ((g3 8), .inr (7, [.ref (g3 4), .int 0, .int 0, .int 0, .ref (g10 4), .ref (g10 5), .ref (g10 6), .ref (g10 7), .ref (g10 8), .ref (g10 9), .int 0, .int 0, .int 0, .int 0, .null, .int 0, .int 0]))]) [0, 7] rfl
  have hDc := hD.sub (ws' := [(q1, .inr (11, fsX g3)), ((g3 8), .inr (7, [.ref (g3 4), .int 0, .int 0, .int 0, .ref (g10 4), .ref (g10 5), .ref (g10 6), .ref (g10 7), .ref (g10 8), .ref (g10 9), .int 0, .int 0, .int 0, .int 0, .null, .int 0, .int 0]))]) [0, 7] (by decide) rfl
  have hKc := hK.sub (tys' := []) [] rfl
  have hFc := va_free (wc := [(q1, .inr (11, fsX g3)), ((g3 8), .inr (7, [.ref (g3 4), .int 0, .int 0, .int 0, .ref (g10 4), .ref (g10 5), .ref (g10 6), .ref (g10 7), .ref (g10 8), .ref (g10 9), .int 0, .int 0, .int 0, .int 0, .null, .int 0, .int 0]))]) hD hS hA [0, 7] rfl
  refine va_calli (va_runV (As := [.int (xs (1 : Int32).toNatClampNeg), .int (xs (2 : Int32).toNatClampNeg)]) (rest := []) ⟨hx, hb, hml, hown, hts⟩ (x_value l dC dI q1 g3 g10 (xs (1 : Int32).toNatClampNeg) (xs (2 : Int32).toNatClampNeg) H.size ) (cwV 2 hts g_law_x_value_71 rfl rfl rfl (by decide +kernel) ⟨(Nat.le_of_ble_eq_true rfl), (Nat.le_of_ble_eq_true rfl)⟩) (vx_preV (ci := 11) (q0 := 0) hPc hKc hDc hN rfl rfl) rfl rfl hl.1 rfl (lv_room (Nat.le_of_ble_eq_true rfl)) dL_law_630 ⟨(Nat.le_of_ble_eq_true rfl), (Nat.le_of_ble_eq_true rfl)⟩) hS (fun q _ h => hFc q h) hFc (fun r5001 u t H1 locs ht hvm hw hB hz1 hk1 hS => ?_)
  obtain ⟨hP1, hK1, hD1⟩ := hB
  rw [ht] at hP1
  obtain ⟨hP, hD⟩ := va_join (wr := [((g3 0), .inl (cA4, 1200, .inl (fun _ => 0))), ((g3 5), .inr (5, [.ref (g5 0), .ref (g5 1), .ref (g5 2), .ref (g5 3), .ref (g5 4), .int 0, .ref (g5 6), .ref (g5 7), .ref (g5 8), .int 0, .int 0, .int 0, .int 0, .int 0, .int 0, .ref (g5 15), .ref (g5 16), .int 0, .int 0])), ((g5 0), .inr (9, [.ref (g6 0), .ref (g6 1), .ref (g6 2), .int 0, .int 0, .int 0, .int 0])), ((g6 0), .inl (cA7, 1201, .inl (fun _ => 0))), ((g6 1), .inl (cA8, 1201, .inl (fun _ => 0))), ((g6 2), .inl (cA9, 1201, .inl (fun _ => 0))), (q11, .inr (12, fsM g13)), ((g13 1), .inl (cA14, 1200, .inl (fun _ => 0))), ((g13 35), .inl (cA15, 6, .inl (fun _ => 0))), ((g13 36), .inl (cA16, 6, .inl (fun _ => 0))), ((g13 37), .inl (cA17, 6, .inl (fun _ => 0))), ((g13 48), .inl (cA18, 6, .inl (fun _ => 0)))]) (w1 := []) hP hD [0, 7] [1, 2, 3, 4, 5, 6, 8, 9, 10, 11, 12, 13] rfl rfl (by decide) (by decide) hk1 hFc hP1 hD1
  generalize H1 = H at hP hS ⊢
  have hP : va_P (dC, dI) vwCl [((g3 0), .inl (cA4, 1200, .inl (fun _ => 0))), ((g3 5), .inr (5, [.ref (g5 0), .ref (g5 1), .ref (g5 2), .ref (g5 3), .ref (g5 4), .int 0, .ref (g5 6), .ref (g5 7), .ref (g5 8), .int 0, .int 0, .int 0, .int 0, .int 0, .int 0, .ref (g5 15), .ref (g5 16), .int 0, .int 0])), ((g5 0), .inr (9, [.ref (g6 0), .ref (g6 1), .ref (g6 2), .int 0, .int 0, .int 0, .int 0])), ((g6 0), .inl (cA7, 1201, .inl (fun _ => 0))), ((g6 1), .inl (cA8, 1201, .inl (fun _ => 0))), ((g6 2), .inl (cA9, 1201, .inl (fun _ => 0))), (q11, .inr (12, fsM g13)), ((g13 1), .inl (cA14, 1200, .inl (fun _ => 0))), ((g13 35), .inl (cA15, 6, .inl (fun _ => 0))), ((g13 36), .inl (cA16, 6, .inl (fun _ => 0))), ((g13 37), .inl (cA17, 6, .inl (fun _ => 0))), ((g13 48), .inl (cA18, 6, .inl (fun _ => 0)))] H := hP
  have hD : va_D A [((g3 0), .inl (cA4, 1200, .inl (fun _ => 0))), ((g3 5), .inr (5, [.ref (g5 0), .ref (g5 1), .ref (g5 2), .ref (g5 3), .ref (g5 4), .int 0, .ref (g5 6), .ref (g5 7), .ref (g5 8), .int 0, .int 0, .int 0, .int 0, .int 0, .int 0, .ref (g5 15), .ref (g5 16), .int 0, .int 0])), ((g5 0), .inr (9, [.ref (g6 0), .ref (g6 1), .ref (g6 2), .int 0, .int 0, .int 0, .int 0])), ((g6 0), .inl (cA7, 1201, .inl (fun _ => 0))), ((g6 1), .inl (cA8, 1201, .inl (fun _ => 0))), ((g6 2), .inl (cA9, 1201, .inl (fun _ => 0))), (q11, .inr (12, fsM g13)), ((g13 1), .inl (cA14, 1200, .inl (fun _ => 0))), ((g13 35), .inl (cA15, 6, .inl (fun _ => 0))), ((g13 36), .inl (cA16, 6, .inl (fun _ => 0))), ((g13 37), .inl (cA17, 6, .inl (fun _ => 0))), ((g13 48), .inl (cA18, 6, .inl (fun _ => 0)))] := hD
  refine W.widen (k := 257) (n := 1146073) (by decide) (by decide) ?_
  try dsimp only at hw
  subst hw
  refine lv_aload_n hx hb dL_law_633 rfl (lv_at hl 1 rfl) ?_
  refine lv_aload_n hx hb dL_law_634 rfl (lv_at hl 3 rfl) ?_
  refine lv_iload_n hx hb dL_law_635 rfl (lv_at hl 0 rfl) ?_
  refine lv_iconst (v := 1) hx hb dL_law_636 (by decide) ?_
  refine lv_iadd hx hb dL_law_637 ?_
  refine vx_topc (v := 1) (by decide) ?_
  refine va_sld hx hb hX hbl hbA hS (vx_in (by decide)) dL_law_638 ?_
  refine lv_aload_n hx hb dL_law_639 rfl (lv_at hl 3 rfl) ?_
  refine lv_iload_n hx hb dL_law_640 rfl (lv_at hl 0 rfl) ?_
  refine lv_iconst (v := 2) hx hb dL_law_641 (by decide) ?_
  refine lv_iadd hx hb dL_law_642 ?_
  refine vx_topc (v := 2) (by decide) ?_
  refine va_sld hx hb hX hbl hbA hS (vx_in (by decide)) dL_law_643 ?_
  have hPc := hP.sub (ws' := [(q11, .inr (12, fsM g13))]) [6] rfl
  have hDc := hD.sub (ws' := [(q11, .inr (12, fsM g13))]) [6] (by decide) rfl
  have hKc := hK.sub (tys' := []) [] rfl
  have hFc := va_free (wc := [(q11, .inr (12, fsM g13))]) hD hS hA [6] rfl
  refine va_calli (va_runV (As := [.int (xs (1 : Int32).toNatClampNeg), .int (xs (2 : Int32).toNatClampNeg)]) (rest := [.int 0]) ⟨hx, hb, hml, hown, hts⟩ (m_value l dC dI q11 g13 (xs (1 : Int32).toNatClampNeg) (xs (2 : Int32).toNatClampNeg) H.size ) (cwV 2 hts g_law_m_value_74 rfl rfl rfl (by decide +kernel) ⟨(Nat.le_of_ble_eq_true rfl), (Nat.le_of_ble_eq_true rfl)⟩) (vx_preV (ci := 12) (q0 := 0) hPc hKc hDc hN rfl rfl) rfl rfl hl.1 rfl (lv_room (Nat.le_of_ble_eq_true rfl)) dL_law_644 ⟨(Nat.le_of_ble_eq_true rfl), (Nat.le_of_ble_eq_true rfl)⟩) hS (fun q _ h => hFc q h) hFc (fun r5002 u t H1 locs ht hvm hw hB hz1 hk1 hS => ?_)
  obtain ⟨hP1, hK1, hD1⟩ := hB
  rw [ht] at hP1
  obtain ⟨hP, hD⟩ := va_join (wr := [((g3 0), .inl (cA4, 1200, .inl (fun _ => 0))), ((g3 5), .inr (5, [.ref (g5 0), .ref (g5 1), .ref (g5 2), .ref (g5 3), .ref (g5 4), .int 0, .ref (g5 6), .ref (g5 7), .ref (g5 8), .int 0, .int 0, .int 0, .int 0, .int 0, .int 0, .ref (g5 15), .ref (g5 16), .int 0, .int 0])), ((g5 0), .inr (9, [.ref (g6 0), .ref (g6 1), .ref (g6 2), .int 0, .int 0, .int 0, .int 0])), ((g6 0), .inl (cA7, 1201, .inl (fun _ => 0))), ((g6 1), .inl (cA8, 1201, .inl (fun _ => 0))), ((g6 2), .inl (cA9, 1201, .inl (fun _ => 0))), ((g13 1), .inl (cA14, 1200, .inl (fun _ => 0))), ((g13 35), .inl (cA15, 6, .inl (fun _ => 0))), ((g13 36), .inl (cA16, 6, .inl (fun _ => 0))), ((g13 37), .inl (cA17, 6, .inl (fun _ => 0))), ((g13 48), .inl (cA18, 6, .inl (fun _ => 0)))]) (w1 := []) hP hD [6] [0, 1, 2, 3, 4, 5, 7, 8, 9, 10, 11] rfl rfl (by decide) (by decide) hk1 hFc hP1 hD1
  generalize H1 = H at hP hS ⊢
  have hP : va_P (dC, dI) vwCl [((g3 0), .inl (cA4, 1200, .inl (fun _ => 0))), ((g3 5), .inr (5, [.ref (g5 0), .ref (g5 1), .ref (g5 2), .ref (g5 3), .ref (g5 4), .int 0, .ref (g5 6), .ref (g5 7), .ref (g5 8), .int 0, .int 0, .int 0, .int 0, .int 0, .int 0, .ref (g5 15), .ref (g5 16), .int 0, .int 0])), ((g5 0), .inr (9, [.ref (g6 0), .ref (g6 1), .ref (g6 2), .int 0, .int 0, .int 0, .int 0])), ((g6 0), .inl (cA7, 1201, .inl (fun _ => 0))), ((g6 1), .inl (cA8, 1201, .inl (fun _ => 0))), ((g6 2), .inl (cA9, 1201, .inl (fun _ => 0))), ((g13 1), .inl (cA14, 1200, .inl (fun _ => 0))), ((g13 35), .inl (cA15, 6, .inl (fun _ => 0))), ((g13 36), .inl (cA16, 6, .inl (fun _ => 0))), ((g13 37), .inl (cA17, 6, .inl (fun _ => 0))), ((g13 48), .inl (cA18, 6, .inl (fun _ => 0)))] H := hP
  have hD : va_D A [((g3 0), .inl (cA4, 1200, .inl (fun _ => 0))), ((g3 5), .inr (5, [.ref (g5 0), .ref (g5 1), .ref (g5 2), .ref (g5 3), .ref (g5 4), .int 0, .ref (g5 6), .ref (g5 7), .ref (g5 8), .int 0, .int 0, .int 0, .int 0, .int 0, .int 0, .ref (g5 15), .ref (g5 16), .int 0, .int 0])), ((g5 0), .inr (9, [.ref (g6 0), .ref (g6 1), .ref (g6 2), .int 0, .int 0, .int 0, .int 0])), ((g6 0), .inl (cA7, 1201, .inl (fun _ => 0))), ((g6 1), .inl (cA8, 1201, .inl (fun _ => 0))), ((g6 2), .inl (cA9, 1201, .inl (fun _ => 0))), ((g13 1), .inl (cA14, 1200, .inl (fun _ => 0))), ((g13 35), .inl (cA15, 6, .inl (fun _ => 0))), ((g13 36), .inl (cA16, 6, .inl (fun _ => 0))), ((g13 37), .inl (cA17, 6, .inl (fun _ => 0))), ((g13 48), .inl (cA18, 6, .inl (fun _ => 0)))] := hD
  refine W.widen (k := 257) (n := 1146073) (by decide) (by decide) ?_
  try dsimp only at hw
  subst hw
  refine lv_icmp_eq (tgt := 796) hx hb dL_law_647 (by decide) (fun _ => ?_) (fun h => absurd (by decide) h)
  exact law_tail C0 hAe (Nat.le_of_ble_eq_true rfl) (Nat.le_of_ble_eq_true rfl) hS ls (lv_sub hl [0, 3] rfl)
set_option maxHeartbeats 4000000 in
set_option maxRecDepth 100000 in
theorem law_14 {p : Program} {l : Launch} {e : Env} {s : State} {m : MethodId} {below : List Frame} {meth : Method} {c : Code} {dC : Nat → ClassId} {dI : Nat → Nat → Nat} {b : Nat} {xs : Nat → Int32} {A : Nat → Prop} {q11 : Nat} {q1 : Nat} {g3 : Nat → Nat} {cA4 : ClassId} {g5 : Nat → Nat} {g6 : Nat → Nat} {cA7 : ClassId} {cA8 : ClassId} {cA9 : ClassId} {g10 : Nat → Nat} {g13 : Nat → Nat} {cA14 : ClassId} {cA15 : ClassId} {cA16 : ClassId} {cA17 : ClassId} {cA18 : ClassId} (C0 : lw_At p s m meth c b 7 xs) (hAe : A = fun q => s.heap.size ≤ q) (hN : nst s) {H : Heap} {locs : List Loc} (hK : va_K (dC, dI) vwCl [(cA4, .byte), (cA7, .int), (cA8, .int), (cA9, .int), (cA14, .byte), (cA15, .int), (cA16, .int), (cA17, .int), (cA18, .boolean)] s) (hP : va_P (dC, dI) vwCl [(q1, .inr (11, fsX g3)), ((g3 0), .inl (cA4, 1200, .inl (fun _ => 0))), ((g3 5), .inr (5, [.ref (g5 0), .ref (g5 1), .ref (g5 2), .ref (g5 3), .ref (g5 4), .int 0, .ref (g5 6), .ref (g5 7), .ref (g5 8), .int 0, .int 0, .int 0, .int 0, .int 0, .int 0, .ref (g5 15), .ref (g5 16), .int 0, .int 0])), ((g5 0), .inr (9, [.ref (g6 0), .ref (g6 1), .ref (g6 2), .int 0, .int 0, .int 0, .int 0])), ((g6 0), .inl (cA7, 1201, .inl (fun _ => 0))), ((g6 1), .inl (cA8, 1201, .inl (fun _ => 0))), ((g6 2), .inl (cA9, 1201, .inl (fun _ => 0))), ((g3 8), .inr (7, [.ref (g3 4), .int 0, .int 0, .int 0, .ref (g10 4), .ref (g10 5), .ref (g10 6), .ref (g10 7), .ref (g10 8), .ref (g10 9), .int 0, .int 0, .int 0, .int 0, .null, .int 0, .int 0])), (q11, .inr (12, fsM g13)), ((g13 1), .inl (cA14, 1200, .inl (fun _ => 0))), ((g13 35), .inl (cA15, 6, .inl (fun _ => 0))), ((g13 36), .inl (cA16, 6, .inl (fun _ => 0))), ((g13 37), .inl (cA17, 6, .inl (fun _ => 0))), ((g13 48), .inl (cA18, 6, .inl (fun _ => 0)))] H) (hD : va_D A [(q1, .inr (11, fsX g3)), ((g3 0), .inl (cA4, 1200, .inl (fun _ => 0))), ((g3 5), .inr (5, [.ref (g5 0), .ref (g5 1), .ref (g5 2), .ref (g5 3), .ref (g5 4), .int 0, .ref (g5 6), .ref (g5 7), .ref (g5 8), .int 0, .int 0, .int 0, .int 0, .int 0, .int 0, .ref (g5 15), .ref (g5 16), .int 0, .int 0])), ((g5 0), .inr (9, [.ref (g6 0), .ref (g6 1), .ref (g6 2), .int 0, .int 0, .int 0, .int 0])), ((g6 0), .inl (cA7, 1201, .inl (fun _ => 0))), ((g6 1), .inl (cA8, 1201, .inl (fun _ => 0))), ((g6 2), .inl (cA9, 1201, .inl (fun _ => 0))), ((g3 8), .inr (7, [.ref (g3 4), .int 0, .int 0, .int 0, .ref (g10 4), .ref (g10 5), .ref (g10 6), .ref (g10 7), .ref (g10 8), .ref (g10 9), .int 0, .int 0, .int 0, .int 0, .null, .int 0, .int 0])), (q11, .inr (12, fsM g13)), ((g13 1), .inl (cA14, 1200, .inl (fun _ => 0))), ((g13 35), .inl (cA15, 6, .inl (fun _ => 0))), ((g13 36), .inl (cA16, 6, .inl (fun _ => 0))), ((g13 37), .inl (cA17, 6, .inl (fun _ => 0))), ((g13 48), .inl (cA18, 6, .inl (fun _ => 0)))]) (hS : va_S A s.heap H locs) (ls : Array Slot) (hl : lv_has ls 4 [(3, .int 0), (2, .ref q11), (1, .ref q1), (0, .ref b)]) : W p l e room_1 s m #[Value.ref b] below meth c H locs 257 1146073 (lw_Z below #[Value.ref b] s) (F0 m 652 ls []) := by
  obtain ⟨hx, hb, hr, hml, hown, hts, hX, hbl, hlocks, hgv⟩ := id C0
  have hts : ∀ w ∈ w_law, w.before #[Value.ref b] s = true := fun w h => hts w (w_law_in w h)
  have hown : s.vm.findClass RL = some m.cls := hown
  have hA : ∀ q : Nat, s.heap.size ≤ q → A q := fun q h => by rw [hAe]; exact h
  have hbA : ¬ A b := by rw [hAe]; exact Nat.not_le.mpr hbl
  refine lv_aload_n hx hb dL_law_652 rfl (lv_at hl 2 rfl) ?_
  refine lv_aload_n hx hb dL_law_653 rfl (lv_at hl 3 rfl) ?_
  refine lv_iload_n hx hb dL_law_654 rfl (lv_at hl 0 rfl) ?_
  refine lv_iconst (v := 1) hx hb dL_law_655 (by decide) ?_
  refine lv_iadd hx hb dL_law_656 ?_
  refine vx_topc (v := 1) (by decide) ?_
  refine va_sld hx hb hX hbl hbA hS (vx_in (by decide)) dL_law_657 ?_
  have hPc := hP.sub (ws' := [(q1, .inr (11, fsX g3)), ((g3 8), .inr (7, [.ref (g3 4), .int 0, .int 0, .int 0, .ref (g10 4), .ref (g10 5), .ref (g10 6), .ref (g10 7), .ref (g10 8), .ref (g10 9), .int 0, .int 0, .int 0, .int 0, .null, .int 0, .int 0]))]) [0, 7] rfl
  have hDc := hD.sub (ws' := [(q1, .inr (11, fsX g3)), ((g3 8), .inr (7, [.ref (g3 4), .int 0, .int 0, .int 0, .ref (g10 4), .ref (g10 5), .ref (g10 6), .ref (g10 7), .ref (g10 8), .ref (g10 9), .int 0, .int 0, .int 0, .int 0, .null, .int 0, .int 0]))]) [0, 7] (by decide) rfl
  have hKc := hK.sub (tys' := []) [] rfl
  have hFc := va_free (wc := [(q1, .inr (11, fsX g3)), ((g3 8), .inr (7, [.ref (g3 4), .int 0, .int 0, .int 0, .ref (g10 4), .ref (g10 5), .ref (g10 6), .ref (g10 7), .ref (g10 8), .ref (g10 9), .int 0, .int 0, .int 0, .int 0, .null, .int 0, .int 0]))]) hD hS hA [0, 7] rfl
  refine va_calli (va_runV (As := [.int (xs (1 : Int32).toNatClampNeg)]) (rest := []) ⟨hx, hb, hml, hown, hts⟩ (x_run l dC dI q1 g3 g10 (xs (1 : Int32).toNatClampNeg) H.size ) (cwV 1 hts g_law_x_run_75 rfl rfl rfl (by decide +kernel) ⟨(Nat.le_of_ble_eq_true rfl), (Nat.le_of_ble_eq_true rfl)⟩) (vx_preV (ci := 11) (q0 := 0) hPc hKc hDc hN rfl rfl) rfl rfl hl.1 rfl (lv_room (Nat.le_of_ble_eq_true rfl)) dL_law_658 ⟨(Nat.le_of_ble_eq_true rfl), (Nat.le_of_ble_eq_true rfl)⟩) hS (fun q _ h => hFc q h) hFc (fun r5001 u t H1 locs ht hvm hw hB hz1 hk1 hS => ?_)
  obtain ⟨hP1, hK1, hD1⟩ := hB
  rw [ht] at hP1
  obtain ⟨hP, hD⟩ := va_join (wr := [((g3 0), .inl (cA4, 1200, .inl (fun _ => 0))), ((g3 5), .inr (5, [.ref (g5 0), .ref (g5 1), .ref (g5 2), .ref (g5 3), .ref (g5 4), .int 0, .ref (g5 6), .ref (g5 7), .ref (g5 8), .int 0, .int 0, .int 0, .int 0, .int 0, .int 0, .ref (g5 15), .ref (g5 16), .int 0, .int 0])), ((g5 0), .inr (9, [.ref (g6 0), .ref (g6 1), .ref (g6 2), .int 0, .int 0, .int 0, .int 0])), ((g6 0), .inl (cA7, 1201, .inl (fun _ => 0))), ((g6 1), .inl (cA8, 1201, .inl (fun _ => 0))), ((g6 2), .inl (cA9, 1201, .inl (fun _ => 0))), (q11, .inr (12, fsM g13)), ((g13 1), .inl (cA14, 1200, .inl (fun _ => 0))), ((g13 35), .inl (cA15, 6, .inl (fun _ => 0))), ((g13 36), .inl (cA16, 6, .inl (fun _ => 0))), ((g13 37), .inl (cA17, 6, .inl (fun _ => 0))), ((g13 48), .inl (cA18, 6, .inl (fun _ => 0)))]) (w1 := []) hP hD [0, 7] [1, 2, 3, 4, 5, 6, 8, 9, 10, 11, 12, 13] rfl rfl (by decide) (by decide) hk1 hFc hP1 hD1
  generalize H1 = H at hP hS ⊢
  have hP : va_P (dC, dI) vwCl [((g3 0), .inl (cA4, 1200, .inl (fun _ => 0))), ((g3 5), .inr (5, [.ref (g5 0), .ref (g5 1), .ref (g5 2), .ref (g5 3), .ref (g5 4), .int 0, .ref (g5 6), .ref (g5 7), .ref (g5 8), .int 0, .int 0, .int 0, .int 0, .int 0, .int 0, .ref (g5 15), .ref (g5 16), .int 0, .int 0])), ((g5 0), .inr (9, [.ref (g6 0), .ref (g6 1), .ref (g6 2), .int 0, .int 0, .int 0, .int 0])), ((g6 0), .inl (cA7, 1201, .inl (fun _ => 0))), ((g6 1), .inl (cA8, 1201, .inl (fun _ => 0))), ((g6 2), .inl (cA9, 1201, .inl (fun _ => 0))), (q11, .inr (12, fsM g13)), ((g13 1), .inl (cA14, 1200, .inl (fun _ => 0))), ((g13 35), .inl (cA15, 6, .inl (fun _ => 0))), ((g13 36), .inl (cA16, 6, .inl (fun _ => 0))), ((g13 37), .inl (cA17, 6, .inl (fun _ => 0))), ((g13 48), .inl (cA18, 6, .inl (fun _ => 0)))] H := hP
  have hD : va_D A [((g3 0), .inl (cA4, 1200, .inl (fun _ => 0))), ((g3 5), .inr (5, [.ref (g5 0), .ref (g5 1), .ref (g5 2), .ref (g5 3), .ref (g5 4), .int 0, .ref (g5 6), .ref (g5 7), .ref (g5 8), .int 0, .int 0, .int 0, .int 0, .int 0, .int 0, .ref (g5 15), .ref (g5 16), .int 0, .int 0])), ((g5 0), .inr (9, [.ref (g6 0), .ref (g6 1), .ref (g6 2), .int 0, .int 0, .int 0, .int 0])), ((g6 0), .inl (cA7, 1201, .inl (fun _ => 0))), ((g6 1), .inl (cA8, 1201, .inl (fun _ => 0))), ((g6 2), .inl (cA9, 1201, .inl (fun _ => 0))), (q11, .inr (12, fsM g13)), ((g13 1), .inl (cA14, 1200, .inl (fun _ => 0))), ((g13 35), .inl (cA15, 6, .inl (fun _ => 0))), ((g13 36), .inl (cA16, 6, .inl (fun _ => 0))), ((g13 37), .inl (cA17, 6, .inl (fun _ => 0))), ((g13 48), .inl (cA18, 6, .inl (fun _ => 0)))] := hD
  refine W.widen (k := 257) (n := 1146073) (by decide) (by decide) ?_
  try dsimp only at hw
  subst hw
  refine lv_aload_n hx hb dL_law_661 rfl (lv_at hl 1 rfl) ?_
  refine lv_aload_n hx hb dL_law_662 rfl (lv_at hl 3 rfl) ?_
  refine lv_iload_n hx hb dL_law_663 rfl (lv_at hl 0 rfl) ?_
  refine lv_iconst (v := 1) hx hb dL_law_664 (by decide) ?_
  refine lv_iadd hx hb dL_law_665 ?_
  refine vx_topc (v := 1) (by decide) ?_
  refine va_sld hx hb hX hbl hbA hS (vx_in (by decide)) dL_law_666 ?_
  have hPc := hP.sub (ws' := [(q11, .inr (12, fsM g13))]) [6] rfl
  have hDc := hD.sub (ws' := [(q11, .inr (12, fsM g13))]) [6] (by decide) rfl
  have hKc := hK.sub (tys' := []) [] rfl
  have hFc := va_free (wc := [(q11, .inr (12, fsM g13))]) hD hS hA [6] rfl
  refine va_calli (va_runV (As := [.int (xs (1 : Int32).toNatClampNeg)]) (rest := [.int (-1)]) ⟨hx, hb, hml, hown, hts⟩ (m_run l dC dI q11 g13 (xs (1 : Int32).toNatClampNeg) H.size ) (cwV 1 hts g_law_m_run_78 rfl rfl rfl (by decide +kernel) ⟨(Nat.le_of_ble_eq_true rfl), (Nat.le_of_ble_eq_true rfl)⟩) (vx_preV (ci := 12) (q0 := 0) hPc hKc hDc hN rfl rfl) rfl rfl hl.1 rfl (lv_room (Nat.le_of_ble_eq_true rfl)) dL_law_667 ⟨(Nat.le_of_ble_eq_true rfl), (Nat.le_of_ble_eq_true rfl)⟩) hS (fun q _ h => hFc q h) hFc (fun r5002 u t H1 locs ht hvm hw hB hz1 hk1 hS => ?_)
  obtain ⟨hP1, hK1, hD1⟩ := hB
  rw [ht] at hP1
  obtain ⟨hP, hD⟩ := va_join (wr := [((g3 0), .inl (cA4, 1200, .inl (fun _ => 0))), ((g3 5), .inr (5, [.ref (g5 0), .ref (g5 1), .ref (g5 2), .ref (g5 3), .ref (g5 4), .int 0, .ref (g5 6), .ref (g5 7), .ref (g5 8), .int 0, .int 0, .int 0, .int 0, .int 0, .int 0, .ref (g5 15), .ref (g5 16), .int 0, .int 0])), ((g5 0), .inr (9, [.ref (g6 0), .ref (g6 1), .ref (g6 2), .int 0, .int 0, .int 0, .int 0])), ((g6 0), .inl (cA7, 1201, .inl (fun _ => 0))), ((g6 1), .inl (cA8, 1201, .inl (fun _ => 0))), ((g6 2), .inl (cA9, 1201, .inl (fun _ => 0))), ((g13 1), .inl (cA14, 1200, .inl (fun _ => 0))), ((g13 35), .inl (cA15, 6, .inl (fun _ => 0))), ((g13 36), .inl (cA16, 6, .inl (fun _ => 0))), ((g13 37), .inl (cA17, 6, .inl (fun _ => 0))), ((g13 48), .inl (cA18, 6, .inl (fun _ => 0)))]) (w1 := []) hP hD [6] [0, 1, 2, 3, 4, 5, 7, 8, 9, 10, 11] rfl rfl (by decide) (by decide) hk1 hFc hP1 hD1
  generalize H1 = H at hP hS ⊢
  have hP : va_P (dC, dI) vwCl [((g3 0), .inl (cA4, 1200, .inl (fun _ => 0))), ((g3 5), .inr (5, [.ref (g5 0), .ref (g5 1), .ref (g5 2), .ref (g5 3), .ref (g5 4), .int 0, .ref (g5 6), .ref (g5 7), .ref (g5 8), .int 0, .int 0, .int 0, .int 0, .int 0, .int 0, .ref (g5 15), .ref (g5 16), .int 0, .int 0])), ((g5 0), .inr (9, [.ref (g6 0), .ref (g6 1), .ref (g6 2), .int 0, .int 0, .int 0, .int 0])), ((g6 0), .inl (cA7, 1201, .inl (fun _ => 0))), ((g6 1), .inl (cA8, 1201, .inl (fun _ => 0))), ((g6 2), .inl (cA9, 1201, .inl (fun _ => 0))), ((g13 1), .inl (cA14, 1200, .inl (fun _ => 0))), ((g13 35), .inl (cA15, 6, .inl (fun _ => 0))), ((g13 36), .inl (cA16, 6, .inl (fun _ => 0))), ((g13 37), .inl (cA17, 6, .inl (fun _ => 0))), ((g13 48), .inl (cA18, 6, .inl (fun _ => 0)))] H := hP
  have hD : va_D A [((g3 0), .inl (cA4, 1200, .inl (fun _ => 0))), ((g3 5), .inr (5, [.ref (g5 0), .ref (g5 1), .ref (g5 2), .ref (g5 3), .ref (g5 4), .int 0, .ref (g5 6), .ref (g5 7), .ref (g5 8), .int 0, .int 0, .int 0, .int 0, .int 0, .int 0, .ref (g5 15), .ref (g5 16), .int 0, .int 0])), ((g5 0), .inr (9, [.ref (g6 0), .ref (g6 1), .ref (g6 2), .int 0, .int 0, .int 0, .int 0])), ((g6 0), .inl (cA7, 1201, .inl (fun _ => 0))), ((g6 1), .inl (cA8, 1201, .inl (fun _ => 0))), ((g6 2), .inl (cA9, 1201, .inl (fun _ => 0))), ((g13 1), .inl (cA14, 1200, .inl (fun _ => 0))), ((g13 35), .inl (cA15, 6, .inl (fun _ => 0))), ((g13 36), .inl (cA16, 6, .inl (fun _ => 0))), ((g13 37), .inl (cA17, 6, .inl (fun _ => 0))), ((g13 48), .inl (cA18, 6, .inl (fun _ => 0)))] := hD
  refine W.widen (k := 257) (n := 1146073) (by decide) (by decide) ?_
  try dsimp only at hw
  subst hw
  refine lv_icmp_eq (tgt := 796) hx hb dL_law_670 (by decide) (fun _ => ?_) (fun h => absurd (by decide) h)
  exact law_tail C0 hAe (Nat.le_of_ble_eq_true rfl) (Nat.le_of_ble_eq_true rfl) hS ls (lv_sub hl [0, 3] rfl)
set_option maxHeartbeats 4000000 in
set_option maxRecDepth 100000 in
theorem law_15 {p : Program} {l : Launch} {e : Env} {s : State} {m : MethodId} {below : List Frame} {meth : Method} {c : Code} {dC : Nat → ClassId} {dI : Nat → Nat → Nat} {b : Nat} {xs : Nat → Int32} {A : Nat → Prop} {q11 : Nat} {q1 : Nat} {g3 : Nat → Nat} {cA4 : ClassId} {g5 : Nat → Nat} {g6 : Nat → Nat} {cA7 : ClassId} {cA8 : ClassId} {cA9 : ClassId} {g10 : Nat → Nat} {g13 : Nat → Nat} {cA14 : ClassId} {cA15 : ClassId} {cA16 : ClassId} {cA17 : ClassId} {cA18 : ClassId} (C0 : lw_At p s m meth c b 7 xs) (hAe : A = fun q => s.heap.size ≤ q) (hN : nst s) {H : Heap} {locs : List Loc} (hK : va_K (dC, dI) vwCl [(cA4, .byte), (cA7, .int), (cA8, .int), (cA9, .int), (cA14, .byte), (cA15, .int), (cA16, .int), (cA17, .int), (cA18, .boolean)] s) (hP : va_P (dC, dI) vwCl [(q1, .inr (11, fsX g3)), ((g3 0), .inl (cA4, 1200, .inl (fun _ => 0))), ((g3 5), .inr (5, [.ref (g5 0), .ref (g5 1), .ref (g5 2), .ref (g5 3), .ref (g5 4), .int 0, .ref (g5 6), .ref (g5 7), .ref (g5 8), .int 0, .int 0, .int 0, .int 0, .int 0, .int 0, .ref (g5 15), .ref (g5 16), .int 0, .int 0])), ((g5 0), .inr (9, [.ref (g6 0), .ref (g6 1), .ref (g6 2), .int 0, .int 0, .int 0, .int 0])), ((g6 0), .inl (cA7, 1201, .inl (fun _ => 0))), ((g6 1), .inl (cA8, 1201, .inl (fun _ => 0))), ((g6 2), .inl (cA9, 1201, .inl (fun _ => 0))), ((g3 8), .inr (7, [.ref (g3 4), .int 0, .int 0, .int 0, .ref (g10 4), .ref (g10 5), .ref (g10 6), .ref (g10 7), .ref (g10 8), .ref (g10 9), .int 0, .int 0, .int 0, .int 0, .null, .int 0, .int 0])), (q11, .inr (12, fsM g13)), ((g13 1), .inl (cA14, 1200, .inl (fun _ => 0))), ((g13 35), .inl (cA15, 6, .inl (fun _ => 0))), ((g13 36), .inl (cA16, 6, .inl (fun _ => 0))), ((g13 37), .inl (cA17, 6, .inl (fun _ => 0))), ((g13 48), .inl (cA18, 6, .inl (fun _ => 0)))] H) (hD : va_D A [(q1, .inr (11, fsX g3)), ((g3 0), .inl (cA4, 1200, .inl (fun _ => 0))), ((g3 5), .inr (5, [.ref (g5 0), .ref (g5 1), .ref (g5 2), .ref (g5 3), .ref (g5 4), .int 0, .ref (g5 6), .ref (g5 7), .ref (g5 8), .int 0, .int 0, .int 0, .int 0, .int 0, .int 0, .ref (g5 15), .ref (g5 16), .int 0, .int 0])), ((g5 0), .inr (9, [.ref (g6 0), .ref (g6 1), .ref (g6 2), .int 0, .int 0, .int 0, .int 0])), ((g6 0), .inl (cA7, 1201, .inl (fun _ => 0))), ((g6 1), .inl (cA8, 1201, .inl (fun _ => 0))), ((g6 2), .inl (cA9, 1201, .inl (fun _ => 0))), ((g3 8), .inr (7, [.ref (g3 4), .int 0, .int 0, .int 0, .ref (g10 4), .ref (g10 5), .ref (g10 6), .ref (g10 7), .ref (g10 8), .ref (g10 9), .int 0, .int 0, .int 0, .int 0, .null, .int 0, .int 0])), (q11, .inr (12, fsM g13)), ((g13 1), .inl (cA14, 1200, .inl (fun _ => 0))), ((g13 35), .inl (cA15, 6, .inl (fun _ => 0))), ((g13 36), .inl (cA16, 6, .inl (fun _ => 0))), ((g13 37), .inl (cA17, 6, .inl (fun _ => 0))), ((g13 48), .inl (cA18, 6, .inl (fun _ => 0)))]) (hS : va_S A s.heap H locs) (ls : Array Slot) (hl : lv_has ls 4 [(3, .int 0), (2, .ref q11), (1, .ref q1), (0, .ref b)]) : W p l e room_1 s m #[Value.ref b] below meth c H locs 257 1146073 (lw_Z below #[Value.ref b] s) (F0 m 675 ls []) := by
  obtain ⟨hx, hb, hr, hml, hown, hts, hX, hbl, hlocks, hgv⟩ := id C0
  have hts : ∀ w ∈ w_law, w.before #[Value.ref b] s = true := fun w h => hts w (w_law_in w h)
  have hown : s.vm.findClass RL = some m.cls := hown
  have hA : ∀ q : Nat, s.heap.size ≤ q → A q := fun q h => by rw [hAe]; exact h
  have hbA : ¬ A b := by rw [hAe]; exact Nat.not_le.mpr hbl
  refine lv_aload_n hx hb dL_law_675 rfl (lv_at hl 2 rfl) ?_
  refine lv_aload_n hx hb dL_law_676 rfl (lv_at hl 3 rfl) ?_
  refine lv_iload_n hx hb dL_law_677 rfl (lv_at hl 0 rfl) ?_
  refine lv_iconst (v := 1) hx hb dL_law_678 (by decide) ?_
  refine lv_iadd hx hb dL_law_679 ?_
  refine vx_topc (v := 1) (by decide) ?_
  refine va_sld hx hb hX hbl hbA hS (vx_in (by decide)) dL_law_680 ?_
  have hPc := hP.sub (ws' := [(q1, .inr (11, fsX g3)), ((g3 8), .inr (7, [.ref (g3 4), .int 0, .int 0, .int 0, .ref (g10 4), .ref (g10 5), .ref (g10 6), .ref (g10 7), .ref (g10 8), .ref (g10 9), .int 0, .int 0, .int 0, .int 0, .null, .int 0, .int 0]))]) [0, 7] rfl
  have hDc := hD.sub (ws' := [(q1, .inr (11, fsX g3)), ((g3 8), .inr (7, [.ref (g3 4), .int 0, .int 0, .int 0, .ref (g10 4), .ref (g10 5), .ref (g10 6), .ref (g10 7), .ref (g10 8), .ref (g10 9), .int 0, .int 0, .int 0, .int 0, .null, .int 0, .int 0]))]) [0, 7] (by decide) rfl
  have hKc := hK.sub (tys' := []) [] rfl
  have hFc := va_free (wc := [(q1, .inr (11, fsX g3)), ((g3 8), .inr (7, [.ref (g3 4), .int 0, .int 0, .int 0, .ref (g10 4), .ref (g10 5), .ref (g10 6), .ref (g10 7), .ref (g10 8), .ref (g10 9), .int 0, .int 0, .int 0, .int 0, .null, .int 0, .int 0]))]) hD hS hA [0, 7] rfl
  refine va_calli (va_runV (As := [.int (xs (1 : Int32).toNatClampNeg)]) (rest := []) ⟨hx, hb, hml, hown, hts⟩ (x_printed l dC dI q1 g3 g10 (xs (1 : Int32).toNatClampNeg) H.size ) (cwV 1 hts g_law_x_printed_79 rfl rfl rfl (by decide +kernel) ⟨(Nat.le_of_ble_eq_true rfl), (Nat.le_of_ble_eq_true rfl)⟩) (vx_preV (ci := 11) (q0 := 0) hPc hKc hDc hN rfl rfl) rfl rfl hl.1 rfl (lv_room (Nat.le_of_ble_eq_true rfl)) dL_law_681 ⟨(Nat.le_of_ble_eq_true rfl), (Nat.le_of_ble_eq_true rfl)⟩) hS (fun q _ h => hFc q h) hFc (fun r5001 u t H1 locs ht hvm hw hB hz1 hk1 hS => ?_)
  obtain ⟨hP1, hK1, hD1⟩ := hB
  rw [ht] at hP1
  obtain ⟨hP, hD⟩ := va_join (wr := [((g3 0), .inl (cA4, 1200, .inl (fun _ => 0))), ((g3 5), .inr (5, [.ref (g5 0), .ref (g5 1), .ref (g5 2), .ref (g5 3), .ref (g5 4), .int 0, .ref (g5 6), .ref (g5 7), .ref (g5 8), .int 0, .int 0, .int 0, .int 0, .int 0, .int 0, .ref (g5 15), .ref (g5 16), .int 0, .int 0])), ((g5 0), .inr (9, [.ref (g6 0), .ref (g6 1), .ref (g6 2), .int 0, .int 0, .int 0, .int 0])), ((g6 0), .inl (cA7, 1201, .inl (fun _ => 0))), ((g6 1), .inl (cA8, 1201, .inl (fun _ => 0))), ((g6 2), .inl (cA9, 1201, .inl (fun _ => 0))), (q11, .inr (12, fsM g13)), ((g13 1), .inl (cA14, 1200, .inl (fun _ => 0))), ((g13 35), .inl (cA15, 6, .inl (fun _ => 0))), ((g13 36), .inl (cA16, 6, .inl (fun _ => 0))), ((g13 37), .inl (cA17, 6, .inl (fun _ => 0))), ((g13 48), .inl (cA18, 6, .inl (fun _ => 0)))]) (w1 := []) hP hD [0, 7] [1, 2, 3, 4, 5, 6, 8, 9, 10, 11, 12, 13] rfl rfl (by decide) (by decide) hk1 hFc hP1 hD1
  generalize H1 = H at hP hS ⊢
  have hP : va_P (dC, dI) vwCl [((g3 0), .inl (cA4, 1200, .inl (fun _ => 0))), ((g3 5), .inr (5, [.ref (g5 0), .ref (g5 1), .ref (g5 2), .ref (g5 3), .ref (g5 4), .int 0, .ref (g5 6), .ref (g5 7), .ref (g5 8), .int 0, .int 0, .int 0, .int 0, .int 0, .int 0, .ref (g5 15), .ref (g5 16), .int 0, .int 0])), ((g5 0), .inr (9, [.ref (g6 0), .ref (g6 1), .ref (g6 2), .int 0, .int 0, .int 0, .int 0])), ((g6 0), .inl (cA7, 1201, .inl (fun _ => 0))), ((g6 1), .inl (cA8, 1201, .inl (fun _ => 0))), ((g6 2), .inl (cA9, 1201, .inl (fun _ => 0))), (q11, .inr (12, fsM g13)), ((g13 1), .inl (cA14, 1200, .inl (fun _ => 0))), ((g13 35), .inl (cA15, 6, .inl (fun _ => 0))), ((g13 36), .inl (cA16, 6, .inl (fun _ => 0))), ((g13 37), .inl (cA17, 6, .inl (fun _ => 0))), ((g13 48), .inl (cA18, 6, .inl (fun _ => 0)))] H := hP
  have hD : va_D A [((g3 0), .inl (cA4, 1200, .inl (fun _ => 0))), ((g3 5), .inr (5, [.ref (g5 0), .ref (g5 1), .ref (g5 2), .ref (g5 3), .ref (g5 4), .int 0, .ref (g5 6), .ref (g5 7), .ref (g5 8), .int 0, .int 0, .int 0, .int 0, .int 0, .int 0, .ref (g5 15), .ref (g5 16), .int 0, .int 0])), ((g5 0), .inr (9, [.ref (g6 0), .ref (g6 1), .ref (g6 2), .int 0, .int 0, .int 0, .int 0])), ((g6 0), .inl (cA7, 1201, .inl (fun _ => 0))), ((g6 1), .inl (cA8, 1201, .inl (fun _ => 0))), ((g6 2), .inl (cA9, 1201, .inl (fun _ => 0))), (q11, .inr (12, fsM g13)), ((g13 1), .inl (cA14, 1200, .inl (fun _ => 0))), ((g13 35), .inl (cA15, 6, .inl (fun _ => 0))), ((g13 36), .inl (cA16, 6, .inl (fun _ => 0))), ((g13 37), .inl (cA17, 6, .inl (fun _ => 0))), ((g13 48), .inl (cA18, 6, .inl (fun _ => 0)))] := hD
  refine W.widen (k := 257) (n := 1146073) (by decide) (by decide) ?_
  try dsimp only at hw
  subst hw
  refine lv_aload_n hx hb dL_law_684 rfl (lv_at hl 1 rfl) ?_
  refine lv_aload_n hx hb dL_law_685 rfl (lv_at hl 3 rfl) ?_
  refine lv_iload_n hx hb dL_law_686 rfl (lv_at hl 0 rfl) ?_
  refine lv_iconst (v := 1) hx hb dL_law_687 (by decide) ?_
  refine lv_iadd hx hb dL_law_688 ?_
  refine vx_topc (v := 1) (by decide) ?_
  refine va_sld hx hb hX hbl hbA hS (vx_in (by decide)) dL_law_689 ?_
  have hPc := hP.sub (ws' := [(q11, .inr (12, fsM g13))]) [6] rfl
  have hDc := hD.sub (ws' := [(q11, .inr (12, fsM g13))]) [6] (by decide) rfl
  have hKc := hK.sub (tys' := []) [] rfl
  have hFc := va_free (wc := [(q11, .inr (12, fsM g13))]) hD hS hA [6] rfl
  refine va_calli (va_runV (As := [.int (xs (1 : Int32).toNatClampNeg)]) (rest := [.int 0]) ⟨hx, hb, hml, hown, hts⟩ (m_printed l dC dI q11 g13 (xs (1 : Int32).toNatClampNeg) H.size ) (cwV 1 hts g_law_m_printed_82 rfl rfl rfl (by decide +kernel) ⟨(Nat.le_of_ble_eq_true rfl), (Nat.le_of_ble_eq_true rfl)⟩) (vx_preV (ci := 12) (q0 := 0) hPc hKc hDc hN rfl rfl) rfl rfl hl.1 rfl (lv_room (Nat.le_of_ble_eq_true rfl)) dL_law_690 ⟨(Nat.le_of_ble_eq_true rfl), (Nat.le_of_ble_eq_true rfl)⟩) hS (fun q _ h => hFc q h) hFc (fun r5002 u t H1 locs ht hvm hw hB hz1 hk1 hS => ?_)
  obtain ⟨hP1, hK1, hD1⟩ := hB
  rw [ht] at hP1
  obtain ⟨hP, hD⟩ := va_join (wr := [((g3 0), .inl (cA4, 1200, .inl (fun _ => 0))), ((g3 5), .inr (5, [.ref (g5 0), .ref (g5 1), .ref (g5 2), .ref (g5 3), .ref (g5 4), .int 0, .ref (g5 6), .ref (g5 7), .ref (g5 8), .int 0, .int 0, .int 0, .int 0, .int 0, .int 0, .ref (g5 15), .ref (g5 16), .int 0, .int 0])), ((g5 0), .inr (9, [.ref (g6 0), .ref (g6 1), .ref (g6 2), .int 0, .int 0, .int 0, .int 0])), ((g6 0), .inl (cA7, 1201, .inl (fun _ => 0))), ((g6 1), .inl (cA8, 1201, .inl (fun _ => 0))), ((g6 2), .inl (cA9, 1201, .inl (fun _ => 0))), ((g13 1), .inl (cA14, 1200, .inl (fun _ => 0))), ((g13 35), .inl (cA15, 6, .inl (fun _ => 0))), ((g13 36), .inl (cA16, 6, .inl (fun _ => 0))), ((g13 37), .inl (cA17, 6, .inl (fun _ => 0))), ((g13 48), .inl (cA18, 6, .inl (fun _ => 0)))]) (w1 := []) hP hD [6] [0, 1, 2, 3, 4, 5, 7, 8, 9, 10, 11] rfl rfl (by decide) (by decide) hk1 hFc hP1 hD1
  generalize H1 = H at hP hS ⊢
  have hP : va_P (dC, dI) vwCl [((g3 0), .inl (cA4, 1200, .inl (fun _ => 0))), ((g3 5), .inr (5, [.ref (g5 0), .ref (g5 1), .ref (g5 2), .ref (g5 3), .ref (g5 4), .int 0, .ref (g5 6), .ref (g5 7), .ref (g5 8), .int 0, .int 0, .int 0, .int 0, .int 0, .int 0, .ref (g5 15), .ref (g5 16), .int 0, .int 0])), ((g5 0), .inr (9, [.ref (g6 0), .ref (g6 1), .ref (g6 2), .int 0, .int 0, .int 0, .int 0])), ((g6 0), .inl (cA7, 1201, .inl (fun _ => 0))), ((g6 1), .inl (cA8, 1201, .inl (fun _ => 0))), ((g6 2), .inl (cA9, 1201, .inl (fun _ => 0))), ((g13 1), .inl (cA14, 1200, .inl (fun _ => 0))), ((g13 35), .inl (cA15, 6, .inl (fun _ => 0))), ((g13 36), .inl (cA16, 6, .inl (fun _ => 0))), ((g13 37), .inl (cA17, 6, .inl (fun _ => 0))), ((g13 48), .inl (cA18, 6, .inl (fun _ => 0)))] H := hP
  have hD : va_D A [((g3 0), .inl (cA4, 1200, .inl (fun _ => 0))), ((g3 5), .inr (5, [.ref (g5 0), .ref (g5 1), .ref (g5 2), .ref (g5 3), .ref (g5 4), .int 0, .ref (g5 6), .ref (g5 7), .ref (g5 8), .int 0, .int 0, .int 0, .int 0, .int 0, .int 0, .ref (g5 15), .ref (g5 16), .int 0, .int 0])), ((g5 0), .inr (9, [.ref (g6 0), .ref (g6 1), .ref (g6 2), .int 0, .int 0, .int 0, .int 0])), ((g6 0), .inl (cA7, 1201, .inl (fun _ => 0))), ((g6 1), .inl (cA8, 1201, .inl (fun _ => 0))), ((g6 2), .inl (cA9, 1201, .inl (fun _ => 0))), ((g13 1), .inl (cA14, 1200, .inl (fun _ => 0))), ((g13 35), .inl (cA15, 6, .inl (fun _ => 0))), ((g13 36), .inl (cA16, 6, .inl (fun _ => 0))), ((g13 37), .inl (cA17, 6, .inl (fun _ => 0))), ((g13 48), .inl (cA18, 6, .inl (fun _ => 0)))] := hD
  refine W.widen (k := 257) (n := 1146073) (by decide) (by decide) ?_
  try dsimp only at hw
  subst hw
  refine lv_icmp_eq (tgt := 796) hx hb dL_law_693 (by decide) (fun _ => ?_) (fun h => absurd (by decide) h)
  exact law_tail C0 hAe (Nat.le_of_ble_eq_true rfl) (Nat.le_of_ble_eq_true rfl) hS ls (lv_sub hl [0, 3] rfl)
set_option maxHeartbeats 4000000 in
set_option maxRecDepth 100000 in
theorem law_16 {p : Program} {l : Launch} {e : Env} {s : State} {m : MethodId} {below : List Frame} {meth : Method} {c : Code} {dC : Nat → ClassId} {dI : Nat → Nat → Nat} {b : Nat} {xs : Nat → Int32} {A : Nat → Prop} {q11 : Nat} {q1 : Nat} {g3 : Nat → Nat} {cA4 : ClassId} {g5 : Nat → Nat} {g6 : Nat → Nat} {cA7 : ClassId} {cA8 : ClassId} {cA9 : ClassId} {g10 : Nat → Nat} {g13 : Nat → Nat} {cA14 : ClassId} {cA15 : ClassId} {cA16 : ClassId} {cA17 : ClassId} {cA18 : ClassId} (C0 : lw_At p s m meth c b 7 xs) (hAe : A = fun q => s.heap.size ≤ q) (hN : nst s) {H : Heap} {locs : List Loc} (hK : va_K (dC, dI) vwCl [(cA4, .byte), (cA7, .int), (cA8, .int), (cA9, .int), (cA14, .byte), (cA15, .int), (cA16, .int), (cA17, .int), (cA18, .boolean)] s) (hP : va_P (dC, dI) vwCl [(q1, .inr (11, fsX g3)), ((g3 0), .inl (cA4, 1200, .inl (fun _ => 0))), ((g3 5), .inr (5, [.ref (g5 0), .ref (g5 1), .ref (g5 2), .ref (g5 3), .ref (g5 4), .int 0, .ref (g5 6), .ref (g5 7), .ref (g5 8), .int 0, .int 0, .int 0, .int 0, .int 0, .int 0, .ref (g5 15), .ref (g5 16), .int 0, .int 0])), ((g5 0), .inr (9, [.ref (g6 0), .ref (g6 1), .ref (g6 2), .int 0, .int 0, .int 0, .int 0])), ((g6 0), .inl (cA7, 1201, .inl (fun _ => 0))), ((g6 1), .inl (cA8, 1201, .inl (fun _ => 0))), ((g6 2), .inl (cA9, 1201, .inl (fun _ => 0))), ((g3 8), .inr (7, [.ref (g3 4), .int 0, .int 0, .int 0, .ref (g10 4), .ref (g10 5), .ref (g10 6), .ref (g10 7), .ref (g10 8), .ref (g10 9), .int 0, .int 0, .int 0, .int 0, .null, .int 0, .int 0])), (q11, .inr (12, fsM g13)), ((g13 1), .inl (cA14, 1200, .inl (fun _ => 0))), ((g13 35), .inl (cA15, 6, .inl (fun _ => 0))), ((g13 36), .inl (cA16, 6, .inl (fun _ => 0))), ((g13 37), .inl (cA17, 6, .inl (fun _ => 0))), ((g13 48), .inl (cA18, 6, .inl (fun _ => 0)))] H) (hD : va_D A [(q1, .inr (11, fsX g3)), ((g3 0), .inl (cA4, 1200, .inl (fun _ => 0))), ((g3 5), .inr (5, [.ref (g5 0), .ref (g5 1), .ref (g5 2), .ref (g5 3), .ref (g5 4), .int 0, .ref (g5 6), .ref (g5 7), .ref (g5 8), .int 0, .int 0, .int 0, .int 0, .int 0, .int 0, .ref (g5 15), .ref (g5 16), .int 0, .int 0])), ((g5 0), .inr (9, [.ref (g6 0), .ref (g6 1), .ref (g6 2), .int 0, .int 0, .int 0, .int 0])), ((g6 0), .inl (cA7, 1201, .inl (fun _ => 0))), ((g6 1), .inl (cA8, 1201, .inl (fun _ => 0))), ((g6 2), .inl (cA9, 1201, .inl (fun _ => 0))), ((g3 8), .inr (7, [.ref (g3 4), .int 0, .int 0, .int 0, .ref (g10 4), .ref (g10 5), .ref (g10 6), .ref (g10 7), .ref (g10 8), .ref (g10 9), .int 0, .int 0, .int 0, .int 0, .null, .int 0, .int 0])), (q11, .inr (12, fsM g13)), ((g13 1), .inl (cA14, 1200, .inl (fun _ => 0))), ((g13 35), .inl (cA15, 6, .inl (fun _ => 0))), ((g13 36), .inl (cA16, 6, .inl (fun _ => 0))), ((g13 37), .inl (cA17, 6, .inl (fun _ => 0))), ((g13 48), .inl (cA18, 6, .inl (fun _ => 0)))]) (hS : va_S A s.heap H locs) (ls : Array Slot) (hl : lv_has ls 4 [(3, .int 0), (2, .ref q11), (1, .ref q1), (0, .ref b)]) : W p l e room_1 s m #[Value.ref b] below meth c H locs 257 1146073 (lw_Z below #[Value.ref b] s) (F0 m 698 ls []) := by
  obtain ⟨hx, hb, hr, hml, hown, hts, hX, hbl, hlocks, hgv⟩ := id C0
  have hts : ∀ w ∈ w_law, w.before #[Value.ref b] s = true := fun w h => hts w (w_law_in w h)
  have hown : s.vm.findClass RL = some m.cls := hown
  have hA : ∀ q : Nat, s.heap.size ≤ q → A q := fun q h => by rw [hAe]; exact h
  have hbA : ¬ A b := by rw [hAe]; exact Nat.not_le.mpr hbl
  refine lv_aload_n hx hb dL_law_698 rfl (lv_at hl 2 rfl) ?_
  refine lv_aload_n hx hb dL_law_699 rfl (lv_at hl 3 rfl) ?_
  refine lv_iload_n hx hb dL_law_700 rfl (lv_at hl 0 rfl) ?_
  refine lv_iconst (v := 1) hx hb dL_law_701 (by decide) ?_
  refine lv_iadd hx hb dL_law_702 ?_
  refine vx_topc (v := 1) (by decide) ?_
  refine va_sld hx hb hX hbl hbA hS (vx_in (by decide)) dL_law_703 ?_
  refine lv_aload_n hx hb dL_law_704 rfl (lv_at hl 3 rfl) ?_
  refine lv_iload_n hx hb dL_law_705 rfl (lv_at hl 0 rfl) ?_
  refine lv_iconst (v := 2) hx hb dL_law_706 (by decide) ?_
  refine lv_iadd hx hb dL_law_707 ?_
  refine vx_topc (v := 2) (by decide) ?_
  refine va_sld hx hb hX hbl hbA hS (vx_in (by decide)) dL_law_708 ?_
  refine lv_aload_n hx hb dL_law_709 rfl (lv_at hl 3 rfl) ?_
  refine lv_iload_n hx hb dL_law_710 rfl (lv_at hl 0 rfl) ?_
  refine lv_iconst (v := 3) hx hb dL_law_711 (by decide) ?_
  refine lv_iadd hx hb dL_law_712 ?_
  refine vx_topc (v := 3) (by decide) ?_
  refine va_sld hx hb hX hbl hbA hS (vx_in (by decide)) dL_law_713 ?_
  refine lv_aload_n hx hb dL_law_714 rfl (lv_at hl 3 rfl) ?_
  refine lv_iload_n hx hb dL_law_715 rfl (lv_at hl 0 rfl) ?_
  refine lv_iconst (v := 4) hx hb dL_law_716 (by decide) ?_
  refine lv_iadd hx hb dL_law_717 ?_
  refine vx_topc (v := 4) (by decide) ?_
  refine va_sld hx hb hX hbl hbA hS (vx_in (by decide)) dL_law_718 ?_
  refine lv_aload_n hx hb dL_law_719 rfl (lv_at hl 3 rfl) ?_
  refine lv_iload_n hx hb dL_law_720 rfl (lv_at hl 0 rfl) ?_
  refine lv_iconst (v := 5) hx hb dL_law_721 (by decide) ?_
  refine lv_iadd hx hb dL_law_722 ?_
  refine vx_topc (v := 5) (by decide) ?_
  refine va_sld hx hb hX hbl hbA hS (vx_in (by decide)) dL_law_723 ?_
  refine lv_aload_n hx hb dL_law_724 rfl (lv_at hl 3 rfl) ?_
  refine lv_iload_n hx hb dL_law_725 rfl (lv_at hl 0 rfl) ?_
  refine lv_bipush (v := 6) hx hb dL_law_726 (by decide) ?_
  refine lv_iadd hx hb dL_law_728 ?_
  refine vx_topc (v := 6) (by decide) ?_
  refine va_sld hx hb hX hbl hbA hS (vx_in (by decide)) dL_law_729 ?_
  have hPc := hP.sub (ws' := [(q1, .inr (11, fsX g3))]) [0] rfl
  have hDc := hD.sub (ws' := [(q1, .inr (11, fsX g3))]) [0] (by decide) rfl
  have hKc := hK.sub (tys' := []) [] rfl
  have hFc := va_free (wc := [(q1, .inr (11, fsX g3))]) hD hS hA [0] rfl
  refine va_calli (va_runV (As := [.int (xs (1 : Int32).toNatClampNeg), .int (xs (2 : Int32).toNatClampNeg), .int (xs (3 : Int32).toNatClampNeg), .int (xs (4 : Int32).toNatClampNeg), .int (xs (5 : Int32).toNatClampNeg), .int (xs (6 : Int32).toNatClampNeg)]) (rest := []) ⟨hx, hb, hml, hown, hts⟩ (x_beside l dC dI q1 g3 (xs (1 : Int32).toNatClampNeg) (xs (2 : Int32).toNatClampNeg) (xs (3 : Int32).toNatClampNeg) (xs (4 : Int32).toNatClampNeg) (xs (5 : Int32).toNatClampNeg) (xs (6 : Int32).toNatClampNeg) H.size ) (cwV 6 hts g_law_x_beside_83 rfl rfl rfl (by decide +kernel) ⟨(Nat.le_of_ble_eq_true rfl), (Nat.le_of_ble_eq_true rfl)⟩) (vx_preV (ci := 11) (q0 := 0) hPc hKc hDc hN rfl rfl) rfl rfl hl.1 rfl (lv_room (Nat.le_of_ble_eq_true rfl)) dL_law_730 ⟨(Nat.le_of_ble_eq_true rfl), (Nat.le_of_ble_eq_true rfl)⟩) hS (fun q _ h => hFc q h) hFc (fun r5001 u t H1 locs ht hvm hw hB hz1 hk1 hS => ?_)
  obtain ⟨hP1, hK1, hD1⟩ := hB
  rw [ht] at hP1
  obtain ⟨hP, hD⟩ := va_join (wr := [((g3 0), .inl (cA4, 1200, .inl (fun _ => 0))), ((g3 5), .inr (5, [.ref (g5 0), .ref (g5 1), .ref (g5 2), .ref (g5 3), .ref (g5 4), .int 0, .ref (g5 6), .ref (g5 7), .ref (g5 8), .int 0, .int 0, .int 0, .int 0, .int 0, .int 0, .ref (g5 15), .ref (g5 16), .int 0, .int 0])), ((g5 0), .inr (9, [.ref (g6 0), .ref (g6 1), .ref (g6 2), .int 0, .int 0, .int 0, .int 0])), ((g6 0), .inl (cA7, 1201, .inl (fun _ => 0))), ((g6 1), .inl (cA8, 1201, .inl (fun _ => 0))), ((g6 2), .inl (cA9, 1201, .inl (fun _ => 0))), ((g3 8), .inr (7, [.ref (g3 4), .int 0, .int 0, .int 0, .ref (g10 4), .ref (g10 5), .ref (g10 6), .ref (g10 7), .ref (g10 8), .ref (g10 9), .int 0, .int 0, .int 0, .int 0, .null, .int 0, .int 0])), (q11, .inr (12, fsM g13)), ((g13 1), .inl (cA14, 1200, .inl (fun _ => 0))), ((g13 35), .inl (cA15, 6, .inl (fun _ => 0))), ((g13 36), .inl (cA16, 6, .inl (fun _ => 0))), ((g13 37), .inl (cA17, 6, .inl (fun _ => 0))), ((g13 48), .inl (cA18, 6, .inl (fun _ => 0)))]) (w1 := []) hP hD [0] [1, 2, 3, 4, 5, 6, 7, 8, 9, 10, 11, 12, 13] rfl rfl (by decide) (by decide) hk1 hFc hP1 hD1
  generalize H1 = H at hP hS ⊢
  have hP : va_P (dC, dI) vwCl [((g3 0), .inl (cA4, 1200, .inl (fun _ => 0))), ((g3 5), .inr (5, [.ref (g5 0), .ref (g5 1), .ref (g5 2), .ref (g5 3), .ref (g5 4), .int 0, .ref (g5 6), .ref (g5 7), .ref (g5 8), .int 0, .int 0, .int 0, .int 0, .int 0, .int 0, .ref (g5 15), .ref (g5 16), .int 0, .int 0])), ((g5 0), .inr (9, [.ref (g6 0), .ref (g6 1), .ref (g6 2), .int 0, .int 0, .int 0, .int 0])), ((g6 0), .inl (cA7, 1201, .inl (fun _ => 0))), ((g6 1), .inl (cA8, 1201, .inl (fun _ => 0))), ((g6 2), .inl (cA9, 1201, .inl (fun _ => 0))), ((g3 8), .inr (7, [.ref (g3 4), .int 0, .int 0, .int 0, .ref (g10 4), .ref (g10 5), .ref (g10 6), .ref (g10 7), .ref (g10 8), .ref (g10 9), .int 0, .int 0, .int 0, .int 0, .null, .int 0, .int 0])), (q11, .inr (12, fsM g13)), ((g13 1), .inl (cA14, 1200, .inl (fun _ => 0))), ((g13 35), .inl (cA15, 6, .inl (fun _ => 0))), ((g13 36), .inl (cA16, 6, .inl (fun _ => 0))), ((g13 37), .inl (cA17, 6, .inl (fun _ => 0))), ((g13 48), .inl (cA18, 6, .inl (fun _ => 0)))] H := hP
  have hD : va_D A [((g3 0), .inl (cA4, 1200, .inl (fun _ => 0))), ((g3 5), .inr (5, [.ref (g5 0), .ref (g5 1), .ref (g5 2), .ref (g5 3), .ref (g5 4), .int 0, .ref (g5 6), .ref (g5 7), .ref (g5 8), .int 0, .int 0, .int 0, .int 0, .int 0, .int 0, .ref (g5 15), .ref (g5 16), .int 0, .int 0])), ((g5 0), .inr (9, [.ref (g6 0), .ref (g6 1), .ref (g6 2), .int 0, .int 0, .int 0, .int 0])), ((g6 0), .inl (cA7, 1201, .inl (fun _ => 0))), ((g6 1), .inl (cA8, 1201, .inl (fun _ => 0))), ((g6 2), .inl (cA9, 1201, .inl (fun _ => 0))), ((g3 8), .inr (7, [.ref (g3 4), .int 0, .int 0, .int 0, .ref (g10 4), .ref (g10 5), .ref (g10 6), .ref (g10 7), .ref (g10 8), .ref (g10 9), .int 0, .int 0, .int 0, .int 0, .null, .int 0, .int 0])), (q11, .inr (12, fsM g13)), ((g13 1), .inl (cA14, 1200, .inl (fun _ => 0))), ((g13 35), .inl (cA15, 6, .inl (fun _ => 0))), ((g13 36), .inl (cA16, 6, .inl (fun _ => 0))), ((g13 37), .inl (cA17, 6, .inl (fun _ => 0))), ((g13 48), .inl (cA18, 6, .inl (fun _ => 0)))] := hD
  refine W.widen (k := 257) (n := 1146073) (by decide) (by decide) ?_
  try dsimp only at hw
  subst hw
  refine lv_aload_n hx hb dL_law_733 rfl (lv_at hl 1 rfl) ?_
  refine lv_aload_n hx hb dL_law_734 rfl (lv_at hl 3 rfl) ?_
  refine lv_iload_n hx hb dL_law_735 rfl (lv_at hl 0 rfl) ?_
  refine lv_iconst (v := 1) hx hb dL_law_736 (by decide) ?_
  refine lv_iadd hx hb dL_law_737 ?_
  refine vx_topc (v := 1) (by decide) ?_
  refine va_sld hx hb hX hbl hbA hS (vx_in (by decide)) dL_law_738 ?_
  refine lv_aload_n hx hb dL_law_739 rfl (lv_at hl 3 rfl) ?_
  refine lv_iload_n hx hb dL_law_740 rfl (lv_at hl 0 rfl) ?_
  refine lv_iconst (v := 2) hx hb dL_law_741 (by decide) ?_
  refine lv_iadd hx hb dL_law_742 ?_
  refine vx_topc (v := 2) (by decide) ?_
  refine va_sld hx hb hX hbl hbA hS (vx_in (by decide)) dL_law_743 ?_
  refine lv_aload_n hx hb dL_law_744 rfl (lv_at hl 3 rfl) ?_
  refine lv_iload_n hx hb dL_law_745 rfl (lv_at hl 0 rfl) ?_
  refine lv_iconst (v := 3) hx hb dL_law_746 (by decide) ?_
  refine lv_iadd hx hb dL_law_747 ?_
  refine vx_topc (v := 3) (by decide) ?_
  refine va_sld hx hb hX hbl hbA hS (vx_in (by decide)) dL_law_748 ?_
  refine lv_aload_n hx hb dL_law_749 rfl (lv_at hl 3 rfl) ?_
  refine lv_iload_n hx hb dL_law_750 rfl (lv_at hl 0 rfl) ?_
  refine lv_iconst (v := 4) hx hb dL_law_751 (by decide) ?_
  refine lv_iadd hx hb dL_law_752 ?_
  refine vx_topc (v := 4) (by decide) ?_
  refine va_sld hx hb hX hbl hbA hS (vx_in (by decide)) dL_law_753 ?_
  refine lv_aload_n hx hb dL_law_754 rfl (lv_at hl 3 rfl) ?_
  refine lv_iload_n hx hb dL_law_755 rfl (lv_at hl 0 rfl) ?_
  refine lv_iconst (v := 5) hx hb dL_law_756 (by decide) ?_
  refine lv_iadd hx hb dL_law_757 ?_
  refine vx_topc (v := 5) (by decide) ?_
  refine va_sld hx hb hX hbl hbA hS (vx_in (by decide)) dL_law_758 ?_
  refine lv_aload_n hx hb dL_law_759 rfl (lv_at hl 3 rfl) ?_
  refine lv_iload_n hx hb dL_law_760 rfl (lv_at hl 0 rfl) ?_
  refine lv_bipush (v := 6) hx hb dL_law_761 (by decide) ?_
  refine lv_iadd hx hb dL_law_763 ?_
  refine vx_topc (v := 6) (by decide) ?_
  refine va_sld hx hb hX hbl hbA hS (vx_in (by decide)) dL_law_764 ?_
  have hPc := hP.sub (ws' := [(q11, .inr (12, fsM g13))]) [7] rfl
  have hDc := hD.sub (ws' := [(q11, .inr (12, fsM g13))]) [7] (by decide) rfl
  have hKc := hK.sub (tys' := []) [] rfl
  have hFc := va_free (wc := [(q11, .inr (12, fsM g13))]) hD hS hA [7] rfl
  refine va_calli (va_runV (As := [.int (xs (1 : Int32).toNatClampNeg), .int (xs (2 : Int32).toNatClampNeg), .int (xs (3 : Int32).toNatClampNeg), .int (xs (4 : Int32).toNatClampNeg), .int (xs (5 : Int32).toNatClampNeg), .int (xs (6 : Int32).toNatClampNeg)]) (rest := [.int (-1)]) ⟨hx, hb, hml, hown, hts⟩ (m_beside l dC dI q11 g13 (xs (1 : Int32).toNatClampNeg) (xs (2 : Int32).toNatClampNeg) (xs (3 : Int32).toNatClampNeg) (xs (4 : Int32).toNatClampNeg) (xs (5 : Int32).toNatClampNeg) (xs (6 : Int32).toNatClampNeg) H.size ) (cwV 6 hts g_law_m_beside_87 rfl rfl rfl (by decide +kernel) ⟨(Nat.le_of_ble_eq_true rfl), (Nat.le_of_ble_eq_true rfl)⟩) (vx_preV (ci := 12) (q0 := 0) hPc hKc hDc hN rfl rfl) rfl rfl hl.1 rfl (lv_room (Nat.le_of_ble_eq_true rfl)) dL_law_765 ⟨(Nat.le_of_ble_eq_true rfl), (Nat.le_of_ble_eq_true rfl)⟩) hS (fun q _ h => hFc q h) hFc (fun r5002 u t H1 locs ht hvm hw hB hz1 hk1 hS => ?_)
  obtain ⟨hP1, hK1, hD1⟩ := hB
  rw [ht] at hP1
  obtain ⟨hP, hD⟩ := va_join (wr := [((g3 0), .inl (cA4, 1200, .inl (fun _ => 0))), ((g3 5), .inr (5, [.ref (g5 0), .ref (g5 1), .ref (g5 2), .ref (g5 3), .ref (g5 4), .int 0, .ref (g5 6), .ref (g5 7), .ref (g5 8), .int 0, .int 0, .int 0, .int 0, .int 0, .int 0, .ref (g5 15), .ref (g5 16), .int 0, .int 0])), ((g5 0), .inr (9, [.ref (g6 0), .ref (g6 1), .ref (g6 2), .int 0, .int 0, .int 0, .int 0])), ((g6 0), .inl (cA7, 1201, .inl (fun _ => 0))), ((g6 1), .inl (cA8, 1201, .inl (fun _ => 0))), ((g6 2), .inl (cA9, 1201, .inl (fun _ => 0))), ((g3 8), .inr (7, [.ref (g3 4), .int 0, .int 0, .int 0, .ref (g10 4), .ref (g10 5), .ref (g10 6), .ref (g10 7), .ref (g10 8), .ref (g10 9), .int 0, .int 0, .int 0, .int 0, .null, .int 0, .int 0])), ((g13 1), .inl (cA14, 1200, .inl (fun _ => 0))), ((g13 35), .inl (cA15, 6, .inl (fun _ => 0))), ((g13 36), .inl (cA16, 6, .inl (fun _ => 0))), ((g13 37), .inl (cA17, 6, .inl (fun _ => 0))), ((g13 48), .inl (cA18, 6, .inl (fun _ => 0)))]) (w1 := []) hP hD [7] [0, 1, 2, 3, 4, 5, 6, 8, 9, 10, 11, 12] rfl rfl (by decide) (by decide) hk1 hFc hP1 hD1
  generalize H1 = H at hP hS ⊢
  have hP : va_P (dC, dI) vwCl [((g3 0), .inl (cA4, 1200, .inl (fun _ => 0))), ((g3 5), .inr (5, [.ref (g5 0), .ref (g5 1), .ref (g5 2), .ref (g5 3), .ref (g5 4), .int 0, .ref (g5 6), .ref (g5 7), .ref (g5 8), .int 0, .int 0, .int 0, .int 0, .int 0, .int 0, .ref (g5 15), .ref (g5 16), .int 0, .int 0])), ((g5 0), .inr (9, [.ref (g6 0), .ref (g6 1), .ref (g6 2), .int 0, .int 0, .int 0, .int 0])), ((g6 0), .inl (cA7, 1201, .inl (fun _ => 0))), ((g6 1), .inl (cA8, 1201, .inl (fun _ => 0))), ((g6 2), .inl (cA9, 1201, .inl (fun _ => 0))), ((g3 8), .inr (7, [.ref (g3 4), .int 0, .int 0, .int 0, .ref (g10 4), .ref (g10 5), .ref (g10 6), .ref (g10 7), .ref (g10 8), .ref (g10 9), .int 0, .int 0, .int 0, .int 0, .null, .int 0, .int 0])), ((g13 1), .inl (cA14, 1200, .inl (fun _ => 0))), ((g13 35), .inl (cA15, 6, .inl (fun _ => 0))), ((g13 36), .inl (cA16, 6, .inl (fun _ => 0))), ((g13 37), .inl (cA17, 6, .inl (fun _ => 0))), ((g13 48), .inl (cA18, 6, .inl (fun _ => 0)))] H := hP
  have hD : va_D A [((g3 0), .inl (cA4, 1200, .inl (fun _ => 0))), ((g3 5), .inr (5, [.ref (g5 0), .ref (g5 1), .ref (g5 2), .ref (g5 3), .ref (g5 4), .int 0, .ref (g5 6), .ref (g5 7), .ref (g5 8), .int 0, .int 0, .int 0, .int 0, .int 0, .int 0, .ref (g5 15), .ref (g5 16), .int 0, .int 0])), ((g5 0), .inr (9, [.ref (g6 0), .ref (g6 1), .ref (g6 2), .int 0, .int 0, .int 0, .int 0])), ((g6 0), .inl (cA7, 1201, .inl (fun _ => 0))), ((g6 1), .inl (cA8, 1201, .inl (fun _ => 0))), ((g6 2), .inl (cA9, 1201, .inl (fun _ => 0))), ((g3 8), .inr (7, [.ref (g3 4), .int 0, .int 0, .int 0, .ref (g10 4), .ref (g10 5), .ref (g10 6), .ref (g10 7), .ref (g10 8), .ref (g10 9), .int 0, .int 0, .int 0, .int 0, .null, .int 0, .int 0])), ((g13 1), .inl (cA14, 1200, .inl (fun _ => 0))), ((g13 35), .inl (cA15, 6, .inl (fun _ => 0))), ((g13 36), .inl (cA16, 6, .inl (fun _ => 0))), ((g13 37), .inl (cA17, 6, .inl (fun _ => 0))), ((g13 48), .inl (cA18, 6, .inl (fun _ => 0)))] := hD
  refine W.widen (k := 257) (n := 1146073) (by decide) (by decide) ?_
  try dsimp only at hw
  subst hw
  refine lv_icmp_eq (tgt := 796) hx hb dL_law_768 (by decide) (fun _ => ?_) (fun h => absurd (by decide) h)
  exact law_tail C0 hAe (Nat.le_of_ble_eq_true rfl) (Nat.le_of_ble_eq_true rfl) hS ls (lv_sub hl [0, 3] rfl)
set_option maxHeartbeats 4000000 in
set_option maxRecDepth 100000 in
theorem law_17 {p : Program} {l : Launch} {e : Env} {s : State} {m : MethodId} {below : List Frame} {meth : Method} {c : Code} {dC : Nat → ClassId} {dI : Nat → Nat → Nat} {b : Nat} {xs : Nat → Int32} {A : Nat → Prop} {q11 : Nat} {q1 : Nat} {g3 : Nat → Nat} {cA4 : ClassId} {g5 : Nat → Nat} {g6 : Nat → Nat} {cA7 : ClassId} {cA8 : ClassId} {cA9 : ClassId} {g10 : Nat → Nat} {g13 : Nat → Nat} {cA14 : ClassId} {cA15 : ClassId} {cA16 : ClassId} {cA17 : ClassId} {cA18 : ClassId} (C0 : lw_At p s m meth c b 7 xs) (hAe : A = fun q => s.heap.size ≤ q) (hN : nst s) {H : Heap} {locs : List Loc} (hK : va_K (dC, dI) vwCl [(cA4, .byte), (cA7, .int), (cA8, .int), (cA9, .int), (cA14, .byte), (cA15, .int), (cA16, .int), (cA17, .int), (cA18, .boolean)] s) (hP : va_P (dC, dI) vwCl [(q1, .inr (11, fsX g3)), ((g3 0), .inl (cA4, 1200, .inl (fun _ => 0))), ((g3 5), .inr (5, [.ref (g5 0), .ref (g5 1), .ref (g5 2), .ref (g5 3), .ref (g5 4), .int 0, .ref (g5 6), .ref (g5 7), .ref (g5 8), .int 0, .int 0, .int 0, .int 0, .int 0, .int 0, .ref (g5 15), .ref (g5 16), .int 0, .int 0])), ((g5 0), .inr (9, [.ref (g6 0), .ref (g6 1), .ref (g6 2), .int 0, .int 0, .int 0, .int 0])), ((g6 0), .inl (cA7, 1201, .inl (fun _ => 0))), ((g6 1), .inl (cA8, 1201, .inl (fun _ => 0))), ((g6 2), .inl (cA9, 1201, .inl (fun _ => 0))), ((g3 8), .inr (7, [.ref (g3 4), .int 0, .int 0, .int 0, .ref (g10 4), .ref (g10 5), .ref (g10 6), .ref (g10 7), .ref (g10 8), .ref (g10 9), .int 0, .int 0, .int 0, .int 0, .null, .int 0, .int 0])), (q11, .inr (12, fsM g13)), ((g13 1), .inl (cA14, 1200, .inl (fun _ => 0))), ((g13 35), .inl (cA15, 6, .inl (fun _ => 0))), ((g13 36), .inl (cA16, 6, .inl (fun _ => 0))), ((g13 37), .inl (cA17, 6, .inl (fun _ => 0))), ((g13 48), .inl (cA18, 6, .inl (fun _ => 0)))] H) (hD : va_D A [(q1, .inr (11, fsX g3)), ((g3 0), .inl (cA4, 1200, .inl (fun _ => 0))), ((g3 5), .inr (5, [.ref (g5 0), .ref (g5 1), .ref (g5 2), .ref (g5 3), .ref (g5 4), .int 0, .ref (g5 6), .ref (g5 7), .ref (g5 8), .int 0, .int 0, .int 0, .int 0, .int 0, .int 0, .ref (g5 15), .ref (g5 16), .int 0, .int 0])), ((g5 0), .inr (9, [.ref (g6 0), .ref (g6 1), .ref (g6 2), .int 0, .int 0, .int 0, .int 0])), ((g6 0), .inl (cA7, 1201, .inl (fun _ => 0))), ((g6 1), .inl (cA8, 1201, .inl (fun _ => 0))), ((g6 2), .inl (cA9, 1201, .inl (fun _ => 0))), ((g3 8), .inr (7, [.ref (g3 4), .int 0, .int 0, .int 0, .ref (g10 4), .ref (g10 5), .ref (g10 6), .ref (g10 7), .ref (g10 8), .ref (g10 9), .int 0, .int 0, .int 0, .int 0, .null, .int 0, .int 0])), (q11, .inr (12, fsM g13)), ((g13 1), .inl (cA14, 1200, .inl (fun _ => 0))), ((g13 35), .inl (cA15, 6, .inl (fun _ => 0))), ((g13 36), .inl (cA16, 6, .inl (fun _ => 0))), ((g13 37), .inl (cA17, 6, .inl (fun _ => 0))), ((g13 48), .inl (cA18, 6, .inl (fun _ => 0)))]) (hS : va_S A s.heap H locs) (ls : Array Slot) (hl : lv_has ls 4 [(3, .int 0), (2, .ref q11), (1, .ref q1), (0, .ref b)]) : W p l e room_1 s m #[Value.ref b] below meth c H locs 257 1146073 (lw_Z below #[Value.ref b] s) (F0 m 773 ls []) := by
  obtain ⟨hx, hb, hr, hml, hown, hts, hX, hbl, hlocks, hgv⟩ := id C0
  have hts : ∀ w ∈ w_law, w.before #[Value.ref b] s = true := fun w h => hts w (w_law_in w h)
  have hown : s.vm.findClass RL = some m.cls := hown
  have hA : ∀ q : Nat, s.heap.size ≤ q → A q := fun q h => by rw [hAe]; exact h
  have hbA : ¬ A b := by rw [hAe]; exact Nat.not_le.mpr hbl
  refine lv_aload_n hx hb dL_law_773 rfl (lv_at hl 2 rfl) ?_
  refine lv_aload_n hx hb dL_law_774 rfl (lv_at hl 3 rfl) ?_
  refine lv_iload_n hx hb dL_law_775 rfl (lv_at hl 0 rfl) ?_
  refine lv_iconst (v := 1) hx hb dL_law_776 (by decide) ?_
  refine lv_iadd hx hb dL_law_777 ?_
  refine vx_topc (v := 1) (by decide) ?_
  refine va_sld hx hb hX hbl hbA hS (vx_in (by decide)) dL_law_778 ?_
  have hPc := hP.sub (ws' := [(q1, .inr (11, fsX g3))]) [0] rfl
  have hDc := hD.sub (ws' := [(q1, .inr (11, fsX g3))]) [0] (by decide) rfl
  have hKc := hK.sub (tys' := []) [] rfl
  have hFc := va_free (wc := [(q1, .inr (11, fsX g3))]) hD hS hA [0] rfl
  refine va_calli (va_runV (As := [.int (xs (1 : Int32).toNatClampNeg)]) (rest := []) ⟨hx, hb, hml, hown, hts⟩ (x_compared l dC dI q1 g3 (xs (1 : Int32).toNatClampNeg) H.size ) (cwV 1 hts g_law_x_compared_88 rfl rfl rfl (by decide +kernel) ⟨(Nat.le_of_ble_eq_true rfl), (Nat.le_of_ble_eq_true rfl)⟩) (vx_preV (ci := 11) (q0 := 0) hPc hKc hDc hN rfl rfl) rfl rfl hl.1 rfl (lv_room (Nat.le_of_ble_eq_true rfl)) dL_law_779 ⟨(Nat.le_of_ble_eq_true rfl), (Nat.le_of_ble_eq_true rfl)⟩) hS (fun q _ h => hFc q h) hFc (fun r5001 u t H1 locs ht hvm hw hB hz1 hk1 hS => ?_)
  obtain ⟨hP1, hK1, hD1⟩ := hB
  rw [ht] at hP1
  obtain ⟨hP, hD⟩ := va_join (wr := [((g3 0), .inl (cA4, 1200, .inl (fun _ => 0))), ((g3 5), .inr (5, [.ref (g5 0), .ref (g5 1), .ref (g5 2), .ref (g5 3), .ref (g5 4), .int 0, .ref (g5 6), .ref (g5 7), .ref (g5 8), .int 0, .int 0, .int 0, .int 0, .int 0, .int 0, .ref (g5 15), .ref (g5 16), .int 0, .int 0])), ((g5 0), .inr (9, [.ref (g6 0), .ref (g6 1), .ref (g6 2), .int 0, .int 0, .int 0, .int 0])), ((g6 0), .inl (cA7, 1201, .inl (fun _ => 0))), ((g6 1), .inl (cA8, 1201, .inl (fun _ => 0))), ((g6 2), .inl (cA9, 1201, .inl (fun _ => 0))), ((g3 8), .inr (7, [.ref (g3 4), .int 0, .int 0, .int 0, .ref (g10 4), .ref (g10 5), .ref (g10 6), .ref (g10 7), .ref (g10 8), .ref (g10 9), .int 0, .int 0, .int 0, .int 0, .null, .int 0, .int 0])), (q11, .inr (12, fsM g13)), ((g13 1), .inl (cA14, 1200, .inl (fun _ => 0))), ((g13 35), .inl (cA15, 6, .inl (fun _ => 0))), ((g13 36), .inl (cA16, 6, .inl (fun _ => 0))), ((g13 37), .inl (cA17, 6, .inl (fun _ => 0))), ((g13 48), .inl (cA18, 6, .inl (fun _ => 0)))]) (w1 := []) hP hD [0] [1, 2, 3, 4, 5, 6, 7, 8, 9, 10, 11, 12, 13] rfl rfl (by decide) (by decide) hk1 hFc hP1 hD1
  generalize H1 = H at hP hS ⊢
  have hP : va_P (dC, dI) vwCl [((g3 0), .inl (cA4, 1200, .inl (fun _ => 0))), ((g3 5), .inr (5, [.ref (g5 0), .ref (g5 1), .ref (g5 2), .ref (g5 3), .ref (g5 4), .int 0, .ref (g5 6), .ref (g5 7), .ref (g5 8), .int 0, .int 0, .int 0, .int 0, .int 0, .int 0, .ref (g5 15), .ref (g5 16), .int 0, .int 0])), ((g5 0), .inr (9, [.ref (g6 0), .ref (g6 1), .ref (g6 2), .int 0, .int 0, .int 0, .int 0])), ((g6 0), .inl (cA7, 1201, .inl (fun _ => 0))), ((g6 1), .inl (cA8, 1201, .inl (fun _ => 0))), ((g6 2), .inl (cA9, 1201, .inl (fun _ => 0))), ((g3 8), .inr (7, [.ref (g3 4), .int 0, .int 0, .int 0, .ref (g10 4), .ref (g10 5), .ref (g10 6), .ref (g10 7), .ref (g10 8), .ref (g10 9), .int 0, .int 0, .int 0, .int 0, .null, .int 0, .int 0])), (q11, .inr (12, fsM g13)), ((g13 1), .inl (cA14, 1200, .inl (fun _ => 0))), ((g13 35), .inl (cA15, 6, .inl (fun _ => 0))), ((g13 36), .inl (cA16, 6, .inl (fun _ => 0))), ((g13 37), .inl (cA17, 6, .inl (fun _ => 0))), ((g13 48), .inl (cA18, 6, .inl (fun _ => 0)))] H := hP
  have hD : va_D A [((g3 0), .inl (cA4, 1200, .inl (fun _ => 0))), ((g3 5), .inr (5, [.ref (g5 0), .ref (g5 1), .ref (g5 2), .ref (g5 3), .ref (g5 4), .int 0, .ref (g5 6), .ref (g5 7), .ref (g5 8), .int 0, .int 0, .int 0, .int 0, .int 0, .int 0, .ref (g5 15), .ref (g5 16), .int 0, .int 0])), ((g5 0), .inr (9, [.ref (g6 0), .ref (g6 1), .ref (g6 2), .int 0, .int 0, .int 0, .int 0])), ((g6 0), .inl (cA7, 1201, .inl (fun _ => 0))), ((g6 1), .inl (cA8, 1201, .inl (fun _ => 0))), ((g6 2), .inl (cA9, 1201, .inl (fun _ => 0))), ((g3 8), .inr (7, [.ref (g3 4), .int 0, .int 0, .int 0, .ref (g10 4), .ref (g10 5), .ref (g10 6), .ref (g10 7), .ref (g10 8), .ref (g10 9), .int 0, .int 0, .int 0, .int 0, .null, .int 0, .int 0])), (q11, .inr (12, fsM g13)), ((g13 1), .inl (cA14, 1200, .inl (fun _ => 0))), ((g13 35), .inl (cA15, 6, .inl (fun _ => 0))), ((g13 36), .inl (cA16, 6, .inl (fun _ => 0))), ((g13 37), .inl (cA17, 6, .inl (fun _ => 0))), ((g13 48), .inl (cA18, 6, .inl (fun _ => 0)))] := hD
  refine W.widen (k := 257) (n := 1146073) (by decide) (by decide) ?_
  try dsimp only at hw
  subst hw
  refine lv_aload_n hx hb dL_law_782 rfl (lv_at hl 1 rfl) ?_
  refine lv_aload_n hx hb dL_law_783 rfl (lv_at hl 3 rfl) ?_
  refine lv_iload_n hx hb dL_law_784 rfl (lv_at hl 0 rfl) ?_
  refine lv_iconst (v := 1) hx hb dL_law_785 (by decide) ?_
  refine lv_iadd hx hb dL_law_786 ?_
  refine vx_topc (v := 1) (by decide) ?_
  refine va_sld hx hb hX hbl hbA hS (vx_in (by decide)) dL_law_787 ?_
  have hPc := hP.sub (ws' := [(q11, .inr (12, fsM g13))]) [7] rfl
  have hDc := hD.sub (ws' := [(q11, .inr (12, fsM g13))]) [7] (by decide) rfl
  have hKc := hK.sub (tys' := []) [] rfl
  have hFc := va_free (wc := [(q11, .inr (12, fsM g13))]) hD hS hA [7] rfl
  refine va_calli (va_runV (As := [.int (xs (1 : Int32).toNatClampNeg)]) (rest := [.int (-1)]) ⟨hx, hb, hml, hown, hts⟩ (m_compared l dC dI q11 g13 (xs (1 : Int32).toNatClampNeg) H.size ) (cwV 1 hts g_law_m_compared_91 rfl rfl rfl (by decide +kernel) ⟨(Nat.le_of_ble_eq_true rfl), (Nat.le_of_ble_eq_true rfl)⟩) (vx_preV (ci := 12) (q0 := 0) hPc hKc hDc hN rfl rfl) rfl rfl hl.1 rfl (lv_room (Nat.le_of_ble_eq_true rfl)) dL_law_788 ⟨(Nat.le_of_ble_eq_true rfl), (Nat.le_of_ble_eq_true rfl)⟩) hS (fun q _ h => hFc q h) hFc (fun r5002 u t H1 locs ht hvm hw hB hz1 hk1 hS => ?_)
  obtain ⟨hP1, hK1, hD1⟩ := hB
  rw [ht] at hP1
  obtain ⟨hP, hD⟩ := va_join (wr := [((g3 0), .inl (cA4, 1200, .inl (fun _ => 0))), ((g3 5), .inr (5, [.ref (g5 0), .ref (g5 1), .ref (g5 2), .ref (g5 3), .ref (g5 4), .int 0, .ref (g5 6), .ref (g5 7), .ref (g5 8), .int 0, .int 0, .int 0, .int 0, .int 0, .int 0, .ref (g5 15), .ref (g5 16), .int 0, .int 0])), ((g5 0), .inr (9, [.ref (g6 0), .ref (g6 1), .ref (g6 2), .int 0, .int 0, .int 0, .int 0])), ((g6 0), .inl (cA7, 1201, .inl (fun _ => 0))), ((g6 1), .inl (cA8, 1201, .inl (fun _ => 0))), ((g6 2), .inl (cA9, 1201, .inl (fun _ => 0))), ((g3 8), .inr (7, [.ref (g3 4), .int 0, .int 0, .int 0, .ref (g10 4), .ref (g10 5), .ref (g10 6), .ref (g10 7), .ref (g10 8), .ref (g10 9), .int 0, .int 0, .int 0, .int 0, .null, .int 0, .int 0])), ((g13 1), .inl (cA14, 1200, .inl (fun _ => 0))), ((g13 35), .inl (cA15, 6, .inl (fun _ => 0))), ((g13 36), .inl (cA16, 6, .inl (fun _ => 0))), ((g13 37), .inl (cA17, 6, .inl (fun _ => 0))), ((g13 48), .inl (cA18, 6, .inl (fun _ => 0)))]) (w1 := []) hP hD [7] [0, 1, 2, 3, 4, 5, 6, 8, 9, 10, 11, 12] rfl rfl (by decide) (by decide) hk1 hFc hP1 hD1
  generalize H1 = H at hP hS ⊢
  have hP : va_P (dC, dI) vwCl [((g3 0), .inl (cA4, 1200, .inl (fun _ => 0))), ((g3 5), .inr (5, [.ref (g5 0), .ref (g5 1), .ref (g5 2), .ref (g5 3), .ref (g5 4), .int 0, .ref (g5 6), .ref (g5 7), .ref (g5 8), .int 0, .int 0, .int 0, .int 0, .int 0, .int 0, .ref (g5 15), .ref (g5 16), .int 0, .int 0])), ((g5 0), .inr (9, [.ref (g6 0), .ref (g6 1), .ref (g6 2), .int 0, .int 0, .int 0, .int 0])), ((g6 0), .inl (cA7, 1201, .inl (fun _ => 0))), ((g6 1), .inl (cA8, 1201, .inl (fun _ => 0))), ((g6 2), .inl (cA9, 1201, .inl (fun _ => 0))), ((g3 8), .inr (7, [.ref (g3 4), .int 0, .int 0, .int 0, .ref (g10 4), .ref (g10 5), .ref (g10 6), .ref (g10 7), .ref (g10 8), .ref (g10 9), .int 0, .int 0, .int 0, .int 0, .null, .int 0, .int 0])), ((g13 1), .inl (cA14, 1200, .inl (fun _ => 0))), ((g13 35), .inl (cA15, 6, .inl (fun _ => 0))), ((g13 36), .inl (cA16, 6, .inl (fun _ => 0))), ((g13 37), .inl (cA17, 6, .inl (fun _ => 0))), ((g13 48), .inl (cA18, 6, .inl (fun _ => 0)))] H := hP
  have hD : va_D A [((g3 0), .inl (cA4, 1200, .inl (fun _ => 0))), ((g3 5), .inr (5, [.ref (g5 0), .ref (g5 1), .ref (g5 2), .ref (g5 3), .ref (g5 4), .int 0, .ref (g5 6), .ref (g5 7), .ref (g5 8), .int 0, .int 0, .int 0, .int 0, .int 0, .int 0, .ref (g5 15), .ref (g5 16), .int 0, .int 0])), ((g5 0), .inr (9, [.ref (g6 0), .ref (g6 1), .ref (g6 2), .int 0, .int 0, .int 0, .int 0])), ((g6 0), .inl (cA7, 1201, .inl (fun _ => 0))), ((g6 1), .inl (cA8, 1201, .inl (fun _ => 0))), ((g6 2), .inl (cA9, 1201, .inl (fun _ => 0))), ((g3 8), .inr (7, [.ref (g3 4), .int 0, .int 0, .int 0, .ref (g10 4), .ref (g10 5), .ref (g10 6), .ref (g10 7), .ref (g10 8), .ref (g10 9), .int 0, .int 0, .int 0, .int 0, .null, .int 0, .int 0])), ((g13 1), .inl (cA14, 1200, .inl (fun _ => 0))), ((g13 35), .inl (cA15, 6, .inl (fun _ => 0))), ((g13 36), .inl (cA16, 6, .inl (fun _ => 0))), ((g13 37), .inl (cA17, 6, .inl (fun _ => 0))), ((g13 48), .inl (cA18, 6, .inl (fun _ => 0)))] := hD
  refine W.widen (k := 257) (n := 1146073) (by decide) (by decide) ?_
  try dsimp only at hw
  subst hw
  refine lv_icmp_eq (tgt := 796) hx hb dL_law_791 (by decide) (fun _ => ?_) (fun h => absurd (by decide) h)
  exact law_tail C0 hAe (Nat.le_of_ble_eq_true rfl) (Nat.le_of_ble_eq_true rfl) hS ls (lv_sub hl [0, 3] rfl)
