theorem mlL_13 : Cond.methodLink RL 13 yX11_feed ∈ pWW := pw3 (List.mem_of_getElem? (i := 5) rfl) rfl
theorem mlL_17 : Cond.methodLink RL 17 yX12_feed ∈ pWW := pw8 (List.mem_of_getElem? (i := 28) rfl) rfl
theorem dL_law_120 : decode cL_law 120 = .ok (.aload_n 1, 1) := by decide +kernel
theorem dL_law_121 : decode cL_law 121 = .ok (.aload_n 0, 1) := by decide +kernel
theorem dL_law_122 : decode cL_law 122 = .ok (.iload_n 3, 1) := by decide +kernel
theorem dL_law_123 : decode cL_law 123 = .ok (.iconst 1, 1) := by decide +kernel
theorem dL_law_124 : decode cL_law 124 = .ok (.iadd, 1) := by decide +kernel
theorem dL_law_125 : decode cL_law 125 = .ok (.iaload, 1) := by decide +kernel
theorem dL_law_126 : decode cL_law 126 = .ok (.aload_n 0, 1) := by decide +kernel
theorem dL_law_127 : decode cL_law 127 = .ok (.iload_n 3, 1) := by decide +kernel
theorem dL_law_128 : decode cL_law 128 = .ok (.iconst 2, 1) := by decide +kernel
theorem dL_law_129 : decode cL_law 129 = .ok (.iadd, 1) := by decide +kernel
theorem dL_law_130 : decode cL_law 130 = .ok (.iaload, 1) := by decide +kernel
theorem dL_law_131 : decode cL_law 131 = .ok (.aload_n 0, 1) := by decide +kernel
theorem dL_law_132 : decode cL_law 132 = .ok (.iload_n 3, 1) := by decide +kernel
theorem dL_law_133 : decode cL_law 133 = .ok (.iconst 3, 1) := by decide +kernel
theorem dL_law_134 : decode cL_law 134 = .ok (.iadd, 1) := by decide +kernel
theorem dL_law_135 : decode cL_law 135 = .ok (.iaload, 1) := by decide +kernel
theorem dL_law_136 : decode cL_law 136 = .ok (.aload_n 0, 1) := by decide +kernel
theorem dL_law_137 : decode cL_law 137 = .ok (.iload_n 3, 1) := by decide +kernel
theorem dL_law_138 : decode cL_law 138 = .ok (.iconst 4, 1) := by decide +kernel
theorem dL_law_139 : decode cL_law 139 = .ok (.iadd, 1) := by decide +kernel
theorem dL_law_140 : decode cL_law 140 = .ok (.iaload, 1) := by decide +kernel
theorem dL_law_141 : decode cL_law 141 = .ok (.aload_n 0, 1) := by decide +kernel
theorem dL_law_142 : decode cL_law 142 = .ok (.iload_n 3, 1) := by decide +kernel
theorem dL_law_143 : decode cL_law 143 = .ok (.iconst 5, 1) := by decide +kernel
theorem dL_law_144 : decode cL_law 144 = .ok (.iadd, 1) := by decide +kernel
theorem dL_law_145 : decode cL_law 145 = .ok (.iaload, 1) := by decide +kernel
theorem dL_law_146 : decode cL_law 146 = .ok (.invokevirtual 13, 3) := by decide +kernel
theorem dL_law_149 : decode cL_law 149 = .ok (.pop, 1) := by decide +kernel
theorem dL_law_150 : decode cL_law 150 = .ok (.aload_n 2, 1) := by decide +kernel
theorem dL_law_151 : decode cL_law 151 = .ok (.aload_n 0, 1) := by decide +kernel
theorem dL_law_152 : decode cL_law 152 = .ok (.iload_n 3, 1) := by decide +kernel
theorem dL_law_153 : decode cL_law 153 = .ok (.iconst 1, 1) := by decide +kernel
theorem dL_law_154 : decode cL_law 154 = .ok (.iadd, 1) := by decide +kernel
theorem dL_law_155 : decode cL_law 155 = .ok (.iaload, 1) := by decide +kernel
theorem dL_law_156 : decode cL_law 156 = .ok (.aload_n 0, 1) := by decide +kernel
theorem dL_law_157 : decode cL_law 157 = .ok (.iload_n 3, 1) := by decide +kernel
theorem dL_law_158 : decode cL_law 158 = .ok (.iconst 2, 1) := by decide +kernel
theorem dL_law_159 : decode cL_law 159 = .ok (.iadd, 1) := by decide +kernel
theorem dL_law_160 : decode cL_law 160 = .ok (.iaload, 1) := by decide +kernel
theorem dL_law_161 : decode cL_law 161 = .ok (.aload_n 0, 1) := by decide +kernel
theorem dL_law_162 : decode cL_law 162 = .ok (.iload_n 3, 1) := by decide +kernel
theorem dL_law_163 : decode cL_law 163 = .ok (.iconst 3, 1) := by decide +kernel
theorem dL_law_164 : decode cL_law 164 = .ok (.iadd, 1) := by decide +kernel
theorem dL_law_165 : decode cL_law 165 = .ok (.iaload, 1) := by decide +kernel
theorem dL_law_166 : decode cL_law 166 = .ok (.aload_n 0, 1) := by decide +kernel
theorem dL_law_167 : decode cL_law 167 = .ok (.iload_n 3, 1) := by decide +kernel
theorem dL_law_168 : decode cL_law 168 = .ok (.iconst 4, 1) := by decide +kernel
theorem dL_law_169 : decode cL_law 169 = .ok (.iadd, 1) := by decide +kernel
theorem dL_law_170 : decode cL_law 170 = .ok (.iaload, 1) := by decide +kernel
theorem dL_law_171 : decode cL_law 171 = .ok (.aload_n 0, 1) := by decide +kernel
theorem dL_law_172 : decode cL_law 172 = .ok (.iload_n 3, 1) := by decide +kernel
theorem dL_law_173 : decode cL_law 173 = .ok (.iconst 5, 1) := by decide +kernel
theorem dL_law_174 : decode cL_law 174 = .ok (.iadd, 1) := by decide +kernel
theorem dL_law_175 : decode cL_law 175 = .ok (.iaload, 1) := by decide +kernel
theorem dL_law_176 : decode cL_law 176 = .ok (.invokevirtual 17, 3) := by decide +kernel
theorem dL_law_179 : decode cL_law 179 = .ok (.pop, 1) := by decide +kernel
theorem dL_law_180 : decode cL_law 180 = .ok (.goto 616, 3) := by decide +kernel
set_option maxHeartbeats 4000000 in
theorem law_0 {b n0 : Nat} {xs : Nat → Int32} {N a bm sz k n : Nat} {T : CT} {σ τ : MS} (h : LI N a bm sz k n T σ τ) (h6 : L9 T σ τ a) (hx : 7 * (N : Int) + 7 ≤ (n0 : Int)) (hn0 : n0 ≤ 3584) (K : ∀ sz2 k2 n2 T2 σ2 τ2, LI (N + 1) a bm sz2 k2 n2 T2 σ2 τ2 → L9 T2 σ2 τ2 a → Wl b n0 xs 796 (ovC T2 σ2 (ovM bm τ2 (fun _ => none))) sz2 k2 n2 (LL (7 * (N : Int)) bm a b) []) : Wl b n0 xs 120 (ovC T σ (ovM bm τ (fun _ => none))) sz k n (LL (7 * (N : Int)) bm a b) [] := by
  obtain ⟨⟨h4, S, C, E, M, hK, hA, hB, hX, hT, hW, hS⟩, hI9⟩ := h6
  have t6 : τ.1 10 ≤ 6 := h.m.gda.1.2
  refine wl_aload_n dL_law_120 rfl 2 rfl ?_
  refine wl_arg dL_law_121 dL_law_122 dL_law_123 dL_law_124 dL_law_125 ⟨by omega, by omega⟩ hn0 ?_
  refine wl_arg dL_law_126 dL_law_127 dL_law_128 dL_law_129 dL_law_130 ⟨by omega, by omega⟩ hn0 ?_
  refine wl_arg dL_law_131 dL_law_132 dL_law_133 dL_law_134 dL_law_135 ⟨by omega, by omega⟩ hn0 ?_
  refine wl_arg dL_law_136 dL_law_137 dL_law_138 dL_law_139 dL_law_140 ⟨by omega, by omega⟩ hn0 ?_
  refine wl_arg dL_law_141 dL_law_142 dL_law_143 dL_law_144 dL_law_145 ⟨by omega, by omega⟩ hn0 ?_
  refine wl_X (M' := m_X11_feed) (ix := 13) (As := [.int (iI (xz xs ((7 * (N : Int)) + 1))), .int (iI (xz xs ((7 * (N : Int)) + 2))), .int (iI (xz xs ((7 * (N : Int)) + 3))), .int (iI (xz xs ((7 * (N : Int)) + 4))), .int (iI (xz xs ((7 * (N : Int)) + 5)))]) (rest := []) dL_law_146 ok_X11_feed im_X11_feed se_X11_feed mlL_13 np_X11_feed rfl rfl (Nat.le_of_ble_eq_true rfl) (Nat.le_of_ble_eq_true rfl) rfl h (x6_feed 1220 (p := xz xs ((7 * (N : Int)) + 1)) (q := xz xs ((7 * (N : Int)) + 2)) (r := xz xs ((7 * (N : Int)) + 3)) (s := xz xs ((7 * (N : Int)) + 4)) (t := xz xs ((7 * (N : Int)) + 5)) (S := S) (C := C) (E := E) (M := M) (Cn := τ.1 10) hT h4.2.1 h.ob (xz_r _ _) (xz_r _ _) (xz_r _ _) (xz_r _ _) (xz_r _ _) (by omega) h.x hK) (fun r T2 σ2 hp => by obtain ⟨v, -, hi, -⟩ := hp; exact hi) (fun r T2 σ2 sz2 n9 g hp => ?_)
  obtain ⟨v, rfl, hi, ht, hk, hk5, hq6, hk7, htg⟩ := hp
  show Wl b n0 xs 149 _ _ _ _ _ [.int (iI v)]
  refine wl_pop dL_law_149 rfl ?_
  refine wl_aload_n dL_law_150 rfl 1 rfl ?_
  refine wl_arg dL_law_151 dL_law_152 dL_law_153 dL_law_154 dL_law_155 ⟨by omega, by omega⟩ hn0 ?_
  refine wl_arg dL_law_156 dL_law_157 dL_law_158 dL_law_159 dL_law_160 ⟨by omega, by omega⟩ hn0 ?_
  refine wl_arg dL_law_161 dL_law_162 dL_law_163 dL_law_164 dL_law_165 ⟨by omega, by omega⟩ hn0 ?_
  refine wl_arg dL_law_166 dL_law_167 dL_law_168 dL_law_169 dL_law_170 ⟨by omega, by omega⟩ hn0 ?_
  refine wl_arg dL_law_171 dL_law_172 dL_law_173 dL_law_174 dL_law_175 ⟨by omega, by omega⟩ hn0 ?_
  refine wl_M (M' := m_X12_feed) (ix := 17) (As := [.int (iI (xz xs ((7 * (N : Int)) + 1))), .int (iI (xz xs ((7 * (N : Int)) + 2))), .int (iI (xz xs ((7 * (N : Int)) + 3))), .int (iI (xz xs ((7 * (N : Int)) + 4))), .int (iI (xz xs ((7 * (N : Int)) + 5)))]) (rest := []) dL_law_176 ok_X12_feed im_X12_feed se_X12_feed mlL_17 np_X12_feed rfl rfl (Nat.le_of_ble_eq_true rfl) (Nat.le_of_ble_eq_true rfl) rfl (Nat.le_trans h.top g.1) (h.free2 g) (h.room g hi) (m6_feed 1220 (x1 := xz xs ((7 * (N : Int)) + 1)) (x2 := xz xs ((7 * (N : Int)) + 2)) (x3 := xz xs ((7 * (N : Int)) + 3)) (x4 := xz xs ((7 * (N : Int)) + 4)) (x5 := xz xs ((7 * (N : Int)) + 5)) (xz_r _ _) (xz_r _ _) (xz_r _ _) (xz_r _ _) (xz_r _ _) (by omega) h.m hS) (fun r τ2 hp => ?_)
  obtain ⟨v2, rfl, hj, hu, hm1, hm2, hm3, hm6, hm7, hm8⟩ := hp
  have hz := h.tape
  have h5 := h4.feed (σ2 := σ2) (τ2 := τ2) hk5 hk h.tape (fun q => ⟨by omega, hm1 q⟩) (fun q => ⟨by omega, hm2 q⟩) hm3
  have h7 : L9 T2 σ2 τ2 a := ⟨⟨h5, q8_next hq6 hm6 hm3.1 hA hB t6 (hX.quiet hk7 hm7 hm6 hm3.1) (tgk_ex htg) hW hm8⟩, hI9.quiet hK hq6 hm6 hm3.1 t6⟩
  show Wl b n0 xs 179 _ _ _ _ _ [.int (iI v2)]
  refine wl_pop dL_law_179 rfl ?_
  refine wl_goto (tgt := 796) dL_law_180 (by decide) ?_
  exact K _ _ _ _ _ _ (h.next g hi hj (by omega)) h7
theorem mlL_18 : Cond.methodLink RL 18 yX11_end ∈ pWW := pw3 (List.mem_of_getElem? (i := 13) rfl) rfl
theorem mlL_22 : Cond.methodLink RL 22 yX12_end ∈ pWW := pw8 (List.mem_of_getElem? (i := 36) rfl) rfl
theorem dL_law_183 : decode cL_law 183 = .ok (.aload_n 1, 1) := by decide +kernel
theorem dL_law_184 : decode cL_law 184 = .ok (.aload_n 0, 1) := by decide +kernel
theorem dL_law_185 : decode cL_law 185 = .ok (.iload_n 3, 1) := by decide +kernel
theorem dL_law_186 : decode cL_law 186 = .ok (.iconst 1, 1) := by decide +kernel
theorem dL_law_187 : decode cL_law 187 = .ok (.iadd, 1) := by decide +kernel
theorem dL_law_188 : decode cL_law 188 = .ok (.iaload, 1) := by decide +kernel
theorem dL_law_189 : decode cL_law 189 = .ok (.invokevirtual 18, 3) := by decide +kernel
theorem dL_law_192 : decode cL_law 192 = .ok (.pop, 1) := by decide +kernel
theorem dL_law_193 : decode cL_law 193 = .ok (.aload_n 2, 1) := by decide +kernel
theorem dL_law_194 : decode cL_law 194 = .ok (.aload_n 0, 1) := by decide +kernel
theorem dL_law_195 : decode cL_law 195 = .ok (.iload_n 3, 1) := by decide +kernel
theorem dL_law_196 : decode cL_law 196 = .ok (.iconst 1, 1) := by decide +kernel
theorem dL_law_197 : decode cL_law 197 = .ok (.iadd, 1) := by decide +kernel
theorem dL_law_198 : decode cL_law 198 = .ok (.iaload, 1) := by decide +kernel
theorem dL_law_199 : decode cL_law 199 = .ok (.invokevirtual 22, 3) := by decide +kernel
theorem dL_law_202 : decode cL_law 202 = .ok (.pop, 1) := by decide +kernel
theorem dL_law_203 : decode cL_law 203 = .ok (.goto 593, 3) := by decide +kernel
set_option maxHeartbeats 4000000 in
theorem law_1 {b n0 : Nat} {xs : Nat → Int32} {N a bm sz k n : Nat} {T : CT} {σ τ : MS} (h : LI N a bm sz k n T σ τ) (h6 : L9 T σ τ a) (hx : 7 * (N : Int) + 7 ≤ (n0 : Int)) (hn0 : n0 ≤ 3584) (K : ∀ sz2 k2 n2 T2 σ2 τ2, LI (N + 1) a bm sz2 k2 n2 T2 σ2 τ2 → L9 T2 σ2 τ2 a → Wl b n0 xs 796 (ovC T2 σ2 (ovM bm τ2 (fun _ => none))) sz2 k2 n2 (LL (7 * (N : Int)) bm a b) []) : Wl b n0 xs 183 (ovC T σ (ovM bm τ (fun _ => none))) sz k n (LL (7 * (N : Int)) bm a b) [] := by
  obtain ⟨⟨h4, S, C, E, M, hK, hA, hB, hX, hT, hW, hS⟩, hI9⟩ := h6
  have t6 : τ.1 10 ≤ 6 := h.m.gda.1.2
  refine wl_aload_n dL_law_183 rfl 2 rfl ?_
  refine wl_arg dL_law_184 dL_law_185 dL_law_186 dL_law_187 dL_law_188 ⟨by omega, by omega⟩ hn0 ?_
  refine wl_X (M' := m_X11_end) (ix := 18) (As := [.int (iI (xz xs ((7 * (N : Int)) + 1)))]) (rest := []) dL_law_189 ok_X11_end im_X11_end se_X11_end mlL_18 np_X11_end rfl rfl (Nat.le_of_ble_eq_true rfl) (Nat.le_of_ble_eq_true rfl) rfl h (x6_end 1220 (n := xz xs ((7 * (N : Int)) + 1)) (S := S) (C := C) (E := E) (M := M) (Cn := τ.1 10) hT h4.2.1 h.ob (xz_r _ _) (by omega) h.x hK) (fun r T2 σ2 hp => by obtain ⟨v, -, hi, -⟩ := hp; exact hi) (fun r T2 σ2 sz2 n9 g hp => ?_)
  obtain ⟨v, rfl, hi, ht, hk, hq6, hk7, htg⟩ := hp
  show Wl b n0 xs 192 _ _ _ _ _ [.int (iI v)]
  refine wl_pop dL_law_192 rfl ?_
  refine wl_aload_n dL_law_193 rfl 1 rfl ?_
  refine wl_arg dL_law_194 dL_law_195 dL_law_196 dL_law_197 dL_law_198 ⟨by omega, by omega⟩ hn0 ?_
  refine wl_M (M' := m_X12_end) (ix := 22) (As := [.int (iI (xz xs ((7 * (N : Int)) + 1)))]) (rest := []) dL_law_199 ok_X12_end im_X12_end se_X12_end mlL_22 np_X12_end rfl rfl (Nat.le_of_ble_eq_true rfl) (Nat.le_of_ble_eq_true rfl) rfl (Nat.le_trans h.top g.1) (h.free2 g) (h.room g hi) (m6_end 1220 (x := xz xs ((7 * (N : Int)) + 1)) (xz_r _ _) (by omega) h.m hS) (fun r τ2 hp => ?_)
  obtain ⟨v2, rfl, hj, hu, hm, hm6, hm7, hm8⟩ := hp
  have hz := h.tape
  have h5 := h4.keep hk hm (by omega)
  have h7 : L9 T2 σ2 τ2 a := ⟨⟨h5, q8_next hq6 hm6 hm.2.1 hA hB t6 (hX.quiet hk7 hm7 hm6 hm.2.1) (tgk_ex htg) hW hm8⟩, hI9.quiet hK hq6 hm6 hm.2.1 t6⟩
  show Wl b n0 xs 202 _ _ _ _ _ [.int (iI v2)]
  refine wl_pop dL_law_202 rfl ?_
  refine wl_goto (tgt := 796) dL_law_203 (by decide) ?_
  exact K _ _ _ _ _ _ (h.next g hi hj (by omega)) h7
theorem mlL_23 : Cond.methodLink RL 23 yX11_read ∈ pWW := pw3 (List.mem_of_getElem? (i := 17) rfl) rfl
theorem mlL_27 : Cond.methodLink RL 27 yX12_read ∈ pWW := pw8 (List.mem_of_getElem? (i := 43) rfl) rfl
theorem dL_law_206 : decode cL_law 206 = .ok (.aload_n 1, 1) := by decide +kernel
theorem dL_law_207 : decode cL_law 207 = .ok (.invokevirtual 23, 3) := by decide +kernel
theorem dL_law_210 : decode cL_law 210 = .ok (.pop, 1) := by decide +kernel
theorem dL_law_211 : decode cL_law 211 = .ok (.aload_n 2, 1) := by decide +kernel
theorem dL_law_212 : decode cL_law 212 = .ok (.invokevirtual 27, 3) := by decide +kernel
theorem dL_law_215 : decode cL_law 215 = .ok (.pop, 1) := by decide +kernel
theorem dL_law_216 : decode cL_law 216 = .ok (.goto 580, 3) := by decide +kernel
set_option maxHeartbeats 4000000 in
theorem law_2 {b n0 : Nat} {xs : Nat → Int32} {N a bm sz k n : Nat} {T : CT} {σ τ : MS} (h : LI N a bm sz k n T σ τ) (h6 : L9 T σ τ a) (hx : 7 * (N : Int) + 7 ≤ (n0 : Int)) (hn0 : n0 ≤ 3584) (K : ∀ sz2 k2 n2 T2 σ2 τ2, LI (N + 1) a bm sz2 k2 n2 T2 σ2 τ2 → L9 T2 σ2 τ2 a → Wl b n0 xs 796 (ovC T2 σ2 (ovM bm τ2 (fun _ => none))) sz2 k2 n2 (LL (7 * (N : Int)) bm a b) []) : Wl b n0 xs 206 (ovC T σ (ovM bm τ (fun _ => none))) sz k n (LL (7 * (N : Int)) bm a b) [] := by
  obtain ⟨⟨h4, S, C, E, M, hK, hA, hB, hX, hT, hW, hS⟩, hI9⟩ := h6
  have t6 : τ.1 10 ≤ 6 := h.m.gda.1.2
  refine wl_aload_n dL_law_206 rfl 2 rfl ?_
  refine wl_X (M' := m_X11_read) (ix := 23) (As := []) (rest := []) dL_law_207 ok_X11_read im_X11_read se_X11_read mlL_23 np_X11_read rfl rfl (Nat.le_of_ble_eq_true rfl) (Nat.le_of_ble_eq_true rfl) rfl h (x6_read 1220  (S := S) (C := C) (E := E) (M := M) (Cn := τ.1 10) (fT := fTm τ) (Sx := sv (sS 21 (τ.1 2) τ)) (fun x q => (h4.1 x q).rw) (fTm_b τ) (by rw [h.tape]; exact (fTm_sv (τ := sS 21 (τ.1 2) τ) rfl).symm) hT h4.2.1 h.ob  (by omega) h.x hK) (fun r T2 σ2 hp => by obtain ⟨v, -, hi, -⟩ := hp; exact hi) (fun r T2 σ2 sz2 n9 g hp => ?_)
  obtain ⟨v, rfl, hi, ht, hk, hF, hP, hk7⟩ := hp
  show Wl b n0 xs 210 _ _ _ _ _ [.int (iI v)]
  refine wl_pop dL_law_210 rfl ?_
  refine wl_aload_n dL_law_211 rfl 1 rfl ?_
  refine wl_M (M' := m_X12_read) (ix := 27) (As := []) (rest := []) dL_law_212 ok_X12_read im_X12_read se_X12_read mlL_27 np_X12_read rfl rfl (Nat.le_of_ble_eq_true rfl) (Nat.le_of_ble_eq_true rfl) rfl (Nat.le_trans h.top g.1) (h.free2 g) (h.room g hi) (m6_read 1220   (by omega) h.m hS) (fun r τ2 hp => ?_)
  obtain ⟨v2, rfl, hj, hu, hm, hD, hm8⟩ := hp
  have hz := h.tape
  rw [h4.2.1] at hk
  have hv := hk.one hm
  have h5 : L4 σ2 τ2 a := L4.read ht hv.2.2.2 hv.2.1 hv.2.2.1
  have hs9 : SEN (sv (sS 21 (τ.1 2) τ)) := fun k9 hk9 => by
    show (if k9 < τ.1 2 then _ else (-1 : Int)) < 0
    rw [if_neg (by have := h.m.sz; omega)]
    decide
  obtain ⟨E2, M2, k6, a6, b6⟩ := read_6 hK h.x.1 hi.1 hF hP hk hs9 hD hv.1 hv.2.2.2 hA hB h.m.gda hj.gda hj.par
  have h7 : L9 T2 σ2 τ2 a := ⟨⟨h5, S, C, E2, M2, k6, a6, b6, read7 hX h.x.1 h.ob hK hF hP hk7 (by rw [hv.1]; exact hD) h.m.gda hj.gda, read8 hT hK h.x.1 h.ob hF hP hk hs9 hD hv.1 hv.2.2.2 hW h.m.gda hj.gda hj.par hj.nam k6 a6 b6 hj.sca hm8⟩, read9 hI9 hK hF hP hk hs9 hD hv.1 hv.2.2.2 h.m.gda h.m.pla.1 hj.gda hj.nam (read7 hX h.x.1 h.ob hK hF hP hk7 (by rw [hv.1]; exact hD) h.m.gda hj.gda).1 k6 a6 b6⟩
  show Wl b n0 xs 215 _ _ _ _ _ [.int (iI v2)]
  refine wl_pop dL_law_215 rfl ?_
  refine wl_goto (tgt := 796) dL_law_216 (by decide) ?_
  exact K _ _ _ _ _ _ (h.next g hi hj (by omega)) h7
theorem mlL_28 : Cond.methodLink RL 28 yX11_fault ∈ pWW := pw4 (List.mem_of_getElem? (i := 51) rfl) rfl
theorem mlL_31 : Cond.methodLink RL 31 yX12_fault ∈ pWW := pw9 (List.mem_of_getElem? (i := 29) rfl) rfl
theorem dL_law_219 : decode cL_law 219 = .ok (.aload_n 1, 1) := by decide +kernel
theorem dL_law_220 : decode cL_law 220 = .ok (.aload_n 0, 1) := by decide +kernel
theorem dL_law_221 : decode cL_law 221 = .ok (.iload_n 3, 1) := by decide +kernel
theorem dL_law_222 : decode cL_law 222 = .ok (.iconst 1, 1) := by decide +kernel
theorem dL_law_223 : decode cL_law 223 = .ok (.iadd, 1) := by decide +kernel
theorem dL_law_224 : decode cL_law 224 = .ok (.iaload, 1) := by decide +kernel
theorem dL_law_225 : decode cL_law 225 = .ok (.invokevirtual 28, 3) := by decide +kernel
theorem dL_law_228 : decode cL_law 228 = .ok (.pop, 1) := by decide +kernel
theorem dL_law_229 : decode cL_law 229 = .ok (.aload_n 2, 1) := by decide +kernel
theorem dL_law_230 : decode cL_law 230 = .ok (.aload_n 0, 1) := by decide +kernel
theorem dL_law_231 : decode cL_law 231 = .ok (.iload_n 3, 1) := by decide +kernel
theorem dL_law_232 : decode cL_law 232 = .ok (.iconst 1, 1) := by decide +kernel
theorem dL_law_233 : decode cL_law 233 = .ok (.iadd, 1) := by decide +kernel
theorem dL_law_234 : decode cL_law 234 = .ok (.iaload, 1) := by decide +kernel
theorem dL_law_235 : decode cL_law 235 = .ok (.invokevirtual 31, 3) := by decide +kernel
theorem dL_law_238 : decode cL_law 238 = .ok (.pop, 1) := by decide +kernel
theorem dL_law_239 : decode cL_law 239 = .ok (.goto 557, 3) := by decide +kernel
set_option maxHeartbeats 4000000 in
theorem law_3 {b n0 : Nat} {xs : Nat → Int32} {N a bm sz k n : Nat} {T : CT} {σ τ : MS} (h : LI N a bm sz k n T σ τ) (h6 : L9 T σ τ a) (hx : 7 * (N : Int) + 7 ≤ (n0 : Int)) (hn0 : n0 ≤ 3584) (K : ∀ sz2 k2 n2 T2 σ2 τ2, LI (N + 1) a bm sz2 k2 n2 T2 σ2 τ2 → L9 T2 σ2 τ2 a → Wl b n0 xs 796 (ovC T2 σ2 (ovM bm τ2 (fun _ => none))) sz2 k2 n2 (LL (7 * (N : Int)) bm a b) []) : Wl b n0 xs 219 (ovC T σ (ovM bm τ (fun _ => none))) sz k n (LL (7 * (N : Int)) bm a b) [] := by
  obtain ⟨⟨h4, S, C, E, M, hK, hA, hB, hX, hT, hW, hS⟩, hI9⟩ := h6
  have t6 : τ.1 10 ≤ 6 := h.m.gda.1.2
  refine wl_aload_n dL_law_219 rfl 2 rfl ?_
  refine wl_arg dL_law_220 dL_law_221 dL_law_222 dL_law_223 dL_law_224 ⟨by omega, by omega⟩ hn0 ?_
  refine wl_X (M' := m_X11_fault) (ix := 28) (As := [.int (iI (xz xs ((7 * (N : Int)) + 1)))]) (rest := []) dL_law_225 ok_X11_fault im_X11_fault se_X11_fault mlL_28 np_X11_fault rfl rfl (Nat.le_of_ble_eq_true rfl) (Nat.le_of_ble_eq_true rfl) rfl h (x6_fault 1220 (w := xz xs ((7 * (N : Int)) + 1)) (S := S) (C := C) (E := E) (M := M) (Cn := τ.1 10) hT h4.2.1 h.ob (xz_r _ _) (by omega) h.x hK) (fun r T2 σ2 hp => by obtain ⟨v, -, hi, -⟩ := hp; exact hi) (fun r T2 σ2 sz2 n9 g hp => ?_)
  obtain ⟨v, rfl, hi, ht, hk, hkv, hq6, hk7, htg⟩ := hp
  show Wl b n0 xs 228 _ _ _ _ _ [.int (iI v)]
  refine wl_pop dL_law_228 rfl ?_
  refine wl_aload_n dL_law_229 rfl 1 rfl ?_
  refine wl_arg dL_law_230 dL_law_231 dL_law_232 dL_law_233 dL_law_234 ⟨by omega, by omega⟩ hn0 ?_
  refine wl_M (M' := m_X12_fault) (ix := 31) (As := [.int (iI (xz xs ((7 * (N : Int)) + 1)))]) (rest := []) dL_law_235 ok_X12_fault im_X12_fault se_X12_fault mlL_31 np_X12_fault rfl rfl (Nat.le_of_ble_eq_true rfl) (Nat.le_of_ble_eq_true rfl) rfl (Nat.le_trans h.top g.1) (h.free2 g) (h.room g hi) (m6_fault 1220 (x := xz xs ((7 * (N : Int)) + 1)) (xz_r _ _) (by omega) h.m hS) (fun r τ2 hp => ?_)
  obtain ⟨v2, rfl, hj, hu, hm, hmv, hm6, hm7, hm8⟩ := hp
  have hz := h.tape
  have h5 := h4.keep hk hm (by omega)
  have h7 : L9 T2 σ2 τ2 a := ⟨⟨h5, q8_next hq6 hm6 hm.2.1 hA hB t6 (hX.quiet hk7 hm7 hm6 hm.2.1) (tgk_ex htg) hW hm8⟩, hI9.quiet hK hq6 hm6 hm.2.1 t6⟩
  show Wl b n0 xs 238 _ _ _ _ _ [.int (iI v2)]
  refine wl_pop dL_law_238 rfl ?_
  refine wl_goto (tgt := 796) dL_law_239 (by decide) ?_
  exact K _ _ _ _ _ _ (h.next g hi hj (by omega)) h7
theorem mlL_32 : Cond.methodLink RL 32 yX11_routine ∈ pWW := pw4 (List.mem_of_getElem? (i := 55) rfl) rfl
theorem mlL_36 : Cond.methodLink RL 36 yX12_routine ∈ pWW := pw9 (List.mem_of_getElem? (i := 33) rfl) rfl
theorem dL_law_242 : decode cL_law 242 = .ok (.aload_n 1, 1) := by decide +kernel
theorem dL_law_243 : decode cL_law 243 = .ok (.aload_n 0, 1) := by decide +kernel
theorem dL_law_244 : decode cL_law 244 = .ok (.iload_n 3, 1) := by decide +kernel
theorem dL_law_245 : decode cL_law 245 = .ok (.iconst 1, 1) := by decide +kernel
theorem dL_law_246 : decode cL_law 246 = .ok (.iadd, 1) := by decide +kernel
theorem dL_law_247 : decode cL_law 247 = .ok (.iaload, 1) := by decide +kernel
theorem dL_law_248 : decode cL_law 248 = .ok (.aload_n 0, 1) := by decide +kernel
theorem dL_law_249 : decode cL_law 249 = .ok (.iload_n 3, 1) := by decide +kernel
theorem dL_law_250 : decode cL_law 250 = .ok (.iconst 2, 1) := by decide +kernel
theorem dL_law_251 : decode cL_law 251 = .ok (.iadd, 1) := by decide +kernel
theorem dL_law_252 : decode cL_law 252 = .ok (.iaload, 1) := by decide +kernel
theorem dL_law_253 : decode cL_law 253 = .ok (.invokevirtual 32, 3) := by decide +kernel
theorem dL_law_256 : decode cL_law 256 = .ok (.pop, 1) := by decide +kernel
theorem dL_law_257 : decode cL_law 257 = .ok (.aload_n 2, 1) := by decide +kernel
theorem dL_law_258 : decode cL_law 258 = .ok (.aload_n 0, 1) := by decide +kernel
theorem dL_law_259 : decode cL_law 259 = .ok (.iload_n 3, 1) := by decide +kernel
theorem dL_law_260 : decode cL_law 260 = .ok (.iconst 1, 1) := by decide +kernel
theorem dL_law_261 : decode cL_law 261 = .ok (.iadd, 1) := by decide +kernel
theorem dL_law_262 : decode cL_law 262 = .ok (.iaload, 1) := by decide +kernel
theorem dL_law_263 : decode cL_law 263 = .ok (.aload_n 0, 1) := by decide +kernel
theorem dL_law_264 : decode cL_law 264 = .ok (.iload_n 3, 1) := by decide +kernel
theorem dL_law_265 : decode cL_law 265 = .ok (.iconst 2, 1) := by decide +kernel
theorem dL_law_266 : decode cL_law 266 = .ok (.iadd, 1) := by decide +kernel
theorem dL_law_267 : decode cL_law 267 = .ok (.iaload, 1) := by decide +kernel
theorem dL_law_268 : decode cL_law 268 = .ok (.invokevirtual 36, 3) := by decide +kernel
theorem dL_law_271 : decode cL_law 271 = .ok (.pop, 1) := by decide +kernel
theorem dL_law_272 : decode cL_law 272 = .ok (.goto 524, 3) := by decide +kernel
set_option maxHeartbeats 4000000 in
theorem law_4 {b n0 : Nat} {xs : Nat → Int32} {N a bm sz k n : Nat} {T : CT} {σ τ : MS} (h : LI N a bm sz k n T σ τ) (h6 : L9 T σ τ a) (hx : 7 * (N : Int) + 7 ≤ (n0 : Int)) (hn0 : n0 ≤ 3584) (K : ∀ sz2 k2 n2 T2 σ2 τ2, LI (N + 1) a bm sz2 k2 n2 T2 σ2 τ2 → L9 T2 σ2 τ2 a → Wl b n0 xs 796 (ovC T2 σ2 (ovM bm τ2 (fun _ => none))) sz2 k2 n2 (LL (7 * (N : Int)) bm a b) []) : Wl b n0 xs 242 (ovC T σ (ovM bm τ (fun _ => none))) sz k n (LL (7 * (N : Int)) bm a b) [] := by
  obtain ⟨⟨h4, S, C, E, M, hK, hA, hB, hX, hT, hW, hS⟩, hI9⟩ := h6
  have t6 : τ.1 10 ≤ 6 := h.m.gda.1.2
  have hO := kok_of hK h4.2.1 h.m.gda h.m.par h.m.nam hA hB
  refine wl_aload_n dL_law_242 rfl 2 rfl ?_
  refine wl_arg dL_law_243 dL_law_244 dL_law_245 dL_law_246 dL_law_247 ⟨by omega, by omega⟩ hn0 ?_
  refine wl_arg dL_law_248 dL_law_249 dL_law_250 dL_law_251 dL_law_252 ⟨by omega, by omega⟩ hn0 ?_
  refine wl_X (M' := m_X11_routine) (ix := 32) (As := [.int (iI (xz xs ((7 * (N : Int)) + 1))), .int (iI (xz xs ((7 * (N : Int)) + 2)))]) (rest := []) dL_law_253 ok_X11_routine im_X11_routine se_X11_routine mlL_32 np_X11_routine rfl rfl (Nat.le_of_ble_eq_true rfl) (Nat.le_of_ble_eq_true rfl) rfl h (x6_routine 1220 (r := xz xs ((7 * (N : Int)) + 1)) (w := xz xs ((7 * (N : Int)) + 2)) (S := S) (C := C) (E := E) (M := M) (Cn := τ.1 10) hO hT h4.2.1 h.ob (xz_r _ _) (xz_r _ _) (by omega) h.x hK) (fun r T2 σ2 hp => by obtain ⟨v, -, hi, -⟩ := hp; exact hi) (fun r T2 σ2 sz2 n9 g hp => ?_)
  obtain ⟨v, rfl, hi, ht, hk, hkv, hq6, hk7, htg⟩ := hp
  show Wl b n0 xs 256 _ _ _ _ _ [.int (iI v)]
  refine wl_pop dL_law_256 rfl ?_
  refine wl_aload_n dL_law_257 rfl 1 rfl ?_
  refine wl_arg dL_law_258 dL_law_259 dL_law_260 dL_law_261 dL_law_262 ⟨by omega, by omega⟩ hn0 ?_
  refine wl_arg dL_law_263 dL_law_264 dL_law_265 dL_law_266 dL_law_267 ⟨by omega, by omega⟩ hn0 ?_
  refine wl_M (M' := m_X12_routine) (ix := 36) (As := [.int (iI (xz xs ((7 * (N : Int)) + 1))), .int (iI (xz xs ((7 * (N : Int)) + 2)))]) (rest := []) dL_law_268 ok_X12_routine im_X12_routine se_X12_routine mlL_36 np_X12_routine rfl rfl (Nat.le_of_ble_eq_true rfl) (Nat.le_of_ble_eq_true rfl) rfl (Nat.le_trans h.top g.1) (h.free2 g) (h.room g hi) (m6_routine 1220 (x := xz xs ((7 * (N : Int)) + 1)) (w := xz xs ((7 * (N : Int)) + 2)) (xz_r _ _) (xz_r _ _) (by omega) h.m hS) (fun r τ2 hp => ?_)
  obtain ⟨v2, rfl, hj, hu, hm, hmv, hm6, hm7, hm8⟩ := hp
  have hz := h.tape
  have h5 := h4.keep hk hm (by omega)
  have h7 : L9 T2 σ2 τ2 a := ⟨⟨h5, q8_next hq6 hm6 hm.2.1 hA hB t6 (hX.quiet hk7 hm7 hm6 hm.2.1) (tgk_ex htg) hW hm8⟩, hI9.quiet hK hq6 hm6 hm.2.1 t6⟩
  show Wl b n0 xs 271 _ _ _ _ _ [.int (iI v2)]
  refine wl_pop dL_law_271 rfl ?_
  refine wl_goto (tgt := 796) dL_law_272 (by decide) ?_
  exact K _ _ _ _ _ _ (h.next g hi hj (by omega)) h7
theorem mlL_37 : Cond.methodLink RL 37 yX11_item ∈ pWW := pw4 (List.mem_of_getElem? (i := 85) rfl) rfl
theorem mlL_41 : Cond.methodLink RL 41 yX12_item ∈ pWW := pw9 (List.mem_of_getElem? (i := 62) rfl) rfl
theorem dL_law_275 : decode cL_law 275 = .ok (.aload_n 1, 1) := by decide +kernel
theorem dL_law_276 : decode cL_law 276 = .ok (.aload_n 0, 1) := by decide +kernel
theorem dL_law_277 : decode cL_law 277 = .ok (.iload_n 3, 1) := by decide +kernel
theorem dL_law_278 : decode cL_law 278 = .ok (.iconst 1, 1) := by decide +kernel
theorem dL_law_279 : decode cL_law 279 = .ok (.iadd, 1) := by decide +kernel
theorem dL_law_280 : decode cL_law 280 = .ok (.iaload, 1) := by decide +kernel
theorem dL_law_281 : decode cL_law 281 = .ok (.aload_n 0, 1) := by decide +kernel
theorem dL_law_282 : decode cL_law 282 = .ok (.iload_n 3, 1) := by decide +kernel
theorem dL_law_283 : decode cL_law 283 = .ok (.iconst 2, 1) := by decide +kernel
theorem dL_law_284 : decode cL_law 284 = .ok (.iadd, 1) := by decide +kernel
theorem dL_law_285 : decode cL_law 285 = .ok (.iaload, 1) := by decide +kernel
theorem dL_law_286 : decode cL_law 286 = .ok (.aload_n 0, 1) := by decide +kernel
theorem dL_law_287 : decode cL_law 287 = .ok (.iload_n 3, 1) := by decide +kernel
theorem dL_law_288 : decode cL_law 288 = .ok (.iconst 3, 1) := by decide +kernel
theorem dL_law_289 : decode cL_law 289 = .ok (.iadd, 1) := by decide +kernel
theorem dL_law_290 : decode cL_law 290 = .ok (.iaload, 1) := by decide +kernel
theorem dL_law_291 : decode cL_law 291 = .ok (.invokevirtual 37, 3) := by decide +kernel
theorem dL_law_294 : decode cL_law 294 = .ok (.pop, 1) := by decide +kernel
theorem dL_law_295 : decode cL_law 295 = .ok (.aload_n 2, 1) := by decide +kernel
theorem dL_law_296 : decode cL_law 296 = .ok (.aload_n 0, 1) := by decide +kernel
theorem dL_law_297 : decode cL_law 297 = .ok (.iload_n 3, 1) := by decide +kernel
theorem dL_law_298 : decode cL_law 298 = .ok (.iconst 1, 1) := by decide +kernel
theorem dL_law_299 : decode cL_law 299 = .ok (.iadd, 1) := by decide +kernel
theorem dL_law_300 : decode cL_law 300 = .ok (.iaload, 1) := by decide +kernel
theorem dL_law_301 : decode cL_law 301 = .ok (.aload_n 0, 1) := by decide +kernel
theorem dL_law_302 : decode cL_law 302 = .ok (.iload_n 3, 1) := by decide +kernel
theorem dL_law_303 : decode cL_law 303 = .ok (.iconst 2, 1) := by decide +kernel
theorem dL_law_304 : decode cL_law 304 = .ok (.iadd, 1) := by decide +kernel
theorem dL_law_305 : decode cL_law 305 = .ok (.iaload, 1) := by decide +kernel
theorem dL_law_306 : decode cL_law 306 = .ok (.aload_n 0, 1) := by decide +kernel
theorem dL_law_307 : decode cL_law 307 = .ok (.iload_n 3, 1) := by decide +kernel
theorem dL_law_308 : decode cL_law 308 = .ok (.iconst 3, 1) := by decide +kernel
theorem dL_law_309 : decode cL_law 309 = .ok (.iadd, 1) := by decide +kernel
theorem dL_law_310 : decode cL_law 310 = .ok (.iaload, 1) := by decide +kernel
theorem dL_law_311 : decode cL_law 311 = .ok (.invokevirtual 41, 3) := by decide +kernel
theorem dL_law_314 : decode cL_law 314 = .ok (.pop, 1) := by decide +kernel
theorem dL_law_315 : decode cL_law 315 = .ok (.goto 481, 3) := by decide +kernel
set_option maxHeartbeats 4000000 in
theorem law_5 {b n0 : Nat} {xs : Nat → Int32} {N a bm sz k n : Nat} {T : CT} {σ τ : MS} (h : LI N a bm sz k n T σ τ) (h6 : L9 T σ τ a) (hx : 7 * (N : Int) + 7 ≤ (n0 : Int)) (hn0 : n0 ≤ 3584) (K : ∀ sz2 k2 n2 T2 σ2 τ2, LI (N + 1) a bm sz2 k2 n2 T2 σ2 τ2 → L9 T2 σ2 τ2 a → Wl b n0 xs 796 (ovC T2 σ2 (ovM bm τ2 (fun _ => none))) sz2 k2 n2 (LL (7 * (N : Int)) bm a b) []) : Wl b n0 xs 275 (ovC T σ (ovM bm τ (fun _ => none))) sz k n (LL (7 * (N : Int)) bm a b) [] := by
  obtain ⟨⟨h4, S, C, E, M, hK, hA, hB, hX, hT, hW, hS⟩, hI9⟩ := h6
  have t6 : τ.1 10 ≤ 6 := h.m.gda.1.2
  refine wl_aload_n dL_law_275 rfl 2 rfl ?_
  refine wl_arg dL_law_276 dL_law_277 dL_law_278 dL_law_279 dL_law_280 ⟨by omega, by omega⟩ hn0 ?_
  refine wl_arg dL_law_281 dL_law_282 dL_law_283 dL_law_284 dL_law_285 ⟨by omega, by omega⟩ hn0 ?_
  refine wl_arg dL_law_286 dL_law_287 dL_law_288 dL_law_289 dL_law_290 ⟨by omega, by omega⟩ hn0 ?_
  refine wl_X (M' := m_X11_item) (ix := 37) (As := [.int (iI (xz xs ((7 * (N : Int)) + 1))), .int (iI (xz xs ((7 * (N : Int)) + 2))), .int (iI (xz xs ((7 * (N : Int)) + 3)))]) (rest := []) dL_law_291 ok_X11_item im_X11_item se_X11_item mlL_37 np_X11_item rfl rfl (Nat.le_of_ble_eq_true rfl) (Nat.le_of_ble_eq_true rfl) rfl h (x6_item 1220 (r := xz xs ((7 * (N : Int)) + 1)) (k := xz xs ((7 * (N : Int)) + 2)) (w := xz xs ((7 * (N : Int)) + 3)) (S := S) (C := C) (E := E) (M := M) (Cn := τ.1 10) hT h4.2.1 h.ob (xz_r _ _) (xz_r _ _) (xz_r _ _) (by omega) h.x hK) (fun r T2 σ2 hp => by obtain ⟨v, -, hi, -⟩ := hp; exact hi) (fun r T2 σ2 sz2 n9 g hp => ?_)
  obtain ⟨v, rfl, hi, ht, hk, hq6, hk7, htg⟩ := hp
  show Wl b n0 xs 294 _ _ _ _ _ [.int (iI v)]
  refine wl_pop dL_law_294 rfl ?_
  refine wl_aload_n dL_law_295 rfl 1 rfl ?_
  refine wl_arg dL_law_296 dL_law_297 dL_law_298 dL_law_299 dL_law_300 ⟨by omega, by omega⟩ hn0 ?_
  refine wl_arg dL_law_301 dL_law_302 dL_law_303 dL_law_304 dL_law_305 ⟨by omega, by omega⟩ hn0 ?_
  refine wl_arg dL_law_306 dL_law_307 dL_law_308 dL_law_309 dL_law_310 ⟨by omega, by omega⟩ hn0 ?_
  refine wl_M (M' := m_X12_item) (ix := 41) (As := [.int (iI (xz xs ((7 * (N : Int)) + 1))), .int (iI (xz xs ((7 * (N : Int)) + 2))), .int (iI (xz xs ((7 * (N : Int)) + 3)))]) (rest := []) dL_law_311 ok_X12_item im_X12_item se_X12_item mlL_41 np_X12_item rfl rfl (Nat.le_of_ble_eq_true rfl) (Nat.le_of_ble_eq_true rfl) rfl (Nat.le_trans h.top g.1) (h.free2 g) (h.room g hi) (m6_item 1220 (x := xz xs ((7 * (N : Int)) + 1)) (k := xz xs ((7 * (N : Int)) + 2)) (w := xz xs ((7 * (N : Int)) + 3)) (xz_r _ _) (xz_r _ _) (xz_r _ _) (by omega) h.m hS) (fun r τ2 hp => ?_)
  obtain ⟨v2, rfl, hj, hu, hm, hm6, hm7, hm8⟩ := hp
  have hz := h.tape
  have h5 := h4.keep hk hm (by omega)
  have h7 : L9 T2 σ2 τ2 a := ⟨⟨h5, q8_next hq6 hm6 hm.2.1 hA hB t6 (hX.quiet hk7 hm7 hm6 hm.2.1) (tgk_ex htg) hW hm8⟩, hI9.quiet hK hq6 hm6 hm.2.1 t6⟩
  show Wl b n0 xs 314 _ _ _ _ _ [.int (iI v2)]
  refine wl_pop dL_law_314 rfl ?_
  refine wl_goto (tgt := 796) dL_law_315 (by decide) ?_
  exact K _ _ _ _ _ _ (h.next g hi hj (by omega)) h7
theorem mlL_42 : Cond.methodLink RL 42 yX11_frame ∈ pWW := pw4 (List.mem_of_getElem? (i := 92) rfl) rfl
theorem mlL_45 : Cond.methodLink RL 45 yX12_frame ∈ pWW := pw9 (List.mem_of_getElem? (i := 66) rfl) rfl
theorem dL_law_318 : decode cL_law 318 = .ok (.aload_n 1, 1) := by decide +kernel
theorem dL_law_319 : decode cL_law 319 = .ok (.aload_n 0, 1) := by decide +kernel
theorem dL_law_320 : decode cL_law 320 = .ok (.iload_n 3, 1) := by decide +kernel
theorem dL_law_321 : decode cL_law 321 = .ok (.iconst 1, 1) := by decide +kernel
theorem dL_law_322 : decode cL_law 322 = .ok (.iadd, 1) := by decide +kernel
theorem dL_law_323 : decode cL_law 323 = .ok (.iaload, 1) := by decide +kernel
theorem dL_law_324 : decode cL_law 324 = .ok (.aload_n 0, 1) := by decide +kernel
theorem dL_law_325 : decode cL_law 325 = .ok (.iload_n 3, 1) := by decide +kernel
theorem dL_law_326 : decode cL_law 326 = .ok (.iconst 2, 1) := by decide +kernel
theorem dL_law_327 : decode cL_law 327 = .ok (.iadd, 1) := by decide +kernel
theorem dL_law_328 : decode cL_law 328 = .ok (.iaload, 1) := by decide +kernel
theorem dL_law_329 : decode cL_law 329 = .ok (.aload_n 0, 1) := by decide +kernel
theorem dL_law_330 : decode cL_law 330 = .ok (.iload_n 3, 1) := by decide +kernel
theorem dL_law_331 : decode cL_law 331 = .ok (.iconst 3, 1) := by decide +kernel
theorem dL_law_332 : decode cL_law 332 = .ok (.iadd, 1) := by decide +kernel
theorem dL_law_333 : decode cL_law 333 = .ok (.iaload, 1) := by decide +kernel
theorem dL_law_334 : decode cL_law 334 = .ok (.invokevirtual 42, 3) := by decide +kernel
theorem dL_law_337 : decode cL_law 337 = .ok (.pop, 1) := by decide +kernel
theorem dL_law_338 : decode cL_law 338 = .ok (.aload_n 2, 1) := by decide +kernel
theorem dL_law_339 : decode cL_law 339 = .ok (.aload_n 0, 1) := by decide +kernel
theorem dL_law_340 : decode cL_law 340 = .ok (.iload_n 3, 1) := by decide +kernel
theorem dL_law_341 : decode cL_law 341 = .ok (.iconst 1, 1) := by decide +kernel
theorem dL_law_342 : decode cL_law 342 = .ok (.iadd, 1) := by decide +kernel
theorem dL_law_343 : decode cL_law 343 = .ok (.iaload, 1) := by decide +kernel
theorem dL_law_344 : decode cL_law 344 = .ok (.aload_n 0, 1) := by decide +kernel
theorem dL_law_345 : decode cL_law 345 = .ok (.iload_n 3, 1) := by decide +kernel
theorem dL_law_346 : decode cL_law 346 = .ok (.iconst 2, 1) := by decide +kernel
theorem dL_law_347 : decode cL_law 347 = .ok (.iadd, 1) := by decide +kernel
theorem dL_law_348 : decode cL_law 348 = .ok (.iaload, 1) := by decide +kernel
theorem dL_law_349 : decode cL_law 349 = .ok (.aload_n 0, 1) := by decide +kernel
theorem dL_law_350 : decode cL_law 350 = .ok (.iload_n 3, 1) := by decide +kernel
theorem dL_law_351 : decode cL_law 351 = .ok (.iconst 3, 1) := by decide +kernel
theorem dL_law_352 : decode cL_law 352 = .ok (.iadd, 1) := by decide +kernel
theorem dL_law_353 : decode cL_law 353 = .ok (.iaload, 1) := by decide +kernel
theorem dL_law_354 : decode cL_law 354 = .ok (.invokevirtual 45, 3) := by decide +kernel
theorem dL_law_357 : decode cL_law 357 = .ok (.pop, 1) := by decide +kernel
theorem dL_law_358 : decode cL_law 358 = .ok (.goto 438, 3) := by decide +kernel
set_option maxHeartbeats 4000000 in
theorem law_6 {b n0 : Nat} {xs : Nat → Int32} {N a bm sz k n : Nat} {T : CT} {σ τ : MS} (h : LI N a bm sz k n T σ τ) (h6 : L9 T σ τ a) (hx : 7 * (N : Int) + 7 ≤ (n0 : Int)) (hn0 : n0 ≤ 3584) (K : ∀ sz2 k2 n2 T2 σ2 τ2, LI (N + 1) a bm sz2 k2 n2 T2 σ2 τ2 → L9 T2 σ2 τ2 a → Wl b n0 xs 796 (ovC T2 σ2 (ovM bm τ2 (fun _ => none))) sz2 k2 n2 (LL (7 * (N : Int)) bm a b) []) : Wl b n0 xs 318 (ovC T σ (ovM bm τ (fun _ => none))) sz k n (LL (7 * (N : Int)) bm a b) [] := by
  obtain ⟨⟨h4, S, C, E, M, hK, hA, hB, hX, hT, hW, hS⟩, hI9⟩ := h6
  have t6 : τ.1 10 ≤ 6 := h.m.gda.1.2
  have hO := kok_of hK h4.2.1 h.m.gda h.m.par h.m.nam hA hB
  refine wl_aload_n dL_law_318 rfl 2 rfl ?_
  refine wl_arg dL_law_319 dL_law_320 dL_law_321 dL_law_322 dL_law_323 ⟨by omega, by omega⟩ hn0 ?_
  refine wl_arg dL_law_324 dL_law_325 dL_law_326 dL_law_327 dL_law_328 ⟨by omega, by omega⟩ hn0 ?_
  refine wl_arg dL_law_329 dL_law_330 dL_law_331 dL_law_332 dL_law_333 ⟨by omega, by omega⟩ hn0 ?_
  refine wl_X (M' := m_X11_frame) (ix := 42) (As := [.int (iI (xz xs ((7 * (N : Int)) + 1))), .int (iI (xz xs ((7 * (N : Int)) + 2))), .int (iI (xz xs ((7 * (N : Int)) + 3)))]) (rest := []) dL_law_334 ok_X11_frame im_X11_frame se_X11_frame mlL_42 np_X11_frame rfl rfl (Nat.le_of_ble_eq_true rfl) (Nat.le_of_ble_eq_true rfl) rfl h (x6_frame 1220 (r := xz xs ((7 * (N : Int)) + 1)) (f := xz xs ((7 * (N : Int)) + 2)) (w := xz xs ((7 * (N : Int)) + 3)) (S := S) (C := C) (E := E) (M := M) (Cn := τ.1 10) hO hT h4.2.1 h.ob (xz_r _ _) (xz_r _ _) (xz_r _ _) (by omega) h.x hK) (fun r T2 σ2 hp => by obtain ⟨v, -, hi, -⟩ := hp; exact hi) (fun r T2 σ2 sz2 n9 g hp => ?_)
  obtain ⟨v, rfl, hi, ht, hk, hkv, hq6, hk7, htg⟩ := hp
  show Wl b n0 xs 337 _ _ _ _ _ [.int (iI v)]
  refine wl_pop dL_law_337 rfl ?_
  refine wl_aload_n dL_law_338 rfl 1 rfl ?_
  refine wl_arg dL_law_339 dL_law_340 dL_law_341 dL_law_342 dL_law_343 ⟨by omega, by omega⟩ hn0 ?_
  refine wl_arg dL_law_344 dL_law_345 dL_law_346 dL_law_347 dL_law_348 ⟨by omega, by omega⟩ hn0 ?_
  refine wl_arg dL_law_349 dL_law_350 dL_law_351 dL_law_352 dL_law_353 ⟨by omega, by omega⟩ hn0 ?_
  refine wl_M (M' := m_X12_frame) (ix := 45) (As := [.int (iI (xz xs ((7 * (N : Int)) + 1))), .int (iI (xz xs ((7 * (N : Int)) + 2))), .int (iI (xz xs ((7 * (N : Int)) + 3)))]) (rest := []) dL_law_354 ok_X12_frame im_X12_frame se_X12_frame mlL_45 np_X12_frame rfl rfl (Nat.le_of_ble_eq_true rfl) (Nat.le_of_ble_eq_true rfl) rfl (Nat.le_trans h.top g.1) (h.free2 g) (h.room g hi) (m6_frame 1220 (x := xz xs ((7 * (N : Int)) + 1)) (f := xz xs ((7 * (N : Int)) + 2)) (w := xz xs ((7 * (N : Int)) + 3)) (xz_r _ _) (xz_r _ _) (xz_r _ _) (by omega) h.m hS) (fun r τ2 hp => ?_)
  obtain ⟨v2, rfl, hj, hu, hm, hmv, hm6, hm7, hm8⟩ := hp
  have hz := h.tape
  have h5 := h4.keep hk hm (by omega)
  have h7 : L9 T2 σ2 τ2 a := ⟨⟨h5, q8_next hq6 hm6 hm.2.1 hA hB t6 (hX.quiet hk7 hm7 hm6 hm.2.1) (tgk_ex htg) hW hm8⟩, hI9.quiet hK hq6 hm6 hm.2.1 t6⟩
  show Wl b n0 xs 357 _ _ _ _ _ [.int (iI v2)]
  refine wl_pop dL_law_357 rfl ?_
  refine wl_goto (tgt := 796) dL_law_358 (by decide) ?_
  exact K _ _ _ _ _ _ (h.next g hi hj (by omega)) h7
theorem mlL_46 : Cond.methodLink RL 46 yX11_told ∈ pWW := pw4 (List.mem_of_getElem? (i := 97) rfl) rfl
theorem mlL_49 : Cond.methodLink RL 49 yX12_told ∈ pWW := pw9 (List.mem_of_getElem? (i := 70) rfl) rfl
theorem dL_law_361 : decode cL_law 361 = .ok (.aload_n 1, 1) := by decide +kernel
theorem dL_law_362 : decode cL_law 362 = .ok (.aload_n 0, 1) := by decide +kernel
theorem dL_law_363 : decode cL_law 363 = .ok (.iload_n 3, 1) := by decide +kernel
theorem dL_law_364 : decode cL_law 364 = .ok (.iconst 1, 1) := by decide +kernel
theorem dL_law_365 : decode cL_law 365 = .ok (.iadd, 1) := by decide +kernel
theorem dL_law_366 : decode cL_law 366 = .ok (.iaload, 1) := by decide +kernel
theorem dL_law_367 : decode cL_law 367 = .ok (.aload_n 0, 1) := by decide +kernel
theorem dL_law_368 : decode cL_law 368 = .ok (.iload_n 3, 1) := by decide +kernel
theorem dL_law_369 : decode cL_law 369 = .ok (.iconst 2, 1) := by decide +kernel
theorem dL_law_370 : decode cL_law 370 = .ok (.iadd, 1) := by decide +kernel
theorem dL_law_371 : decode cL_law 371 = .ok (.iaload, 1) := by decide +kernel
theorem dL_law_372 : decode cL_law 372 = .ok (.aload_n 0, 1) := by decide +kernel
theorem dL_law_373 : decode cL_law 373 = .ok (.iload_n 3, 1) := by decide +kernel
theorem dL_law_374 : decode cL_law 374 = .ok (.iconst 3, 1) := by decide +kernel
theorem dL_law_375 : decode cL_law 375 = .ok (.iadd, 1) := by decide +kernel
theorem dL_law_376 : decode cL_law 376 = .ok (.iaload, 1) := by decide +kernel
theorem dL_law_377 : decode cL_law 377 = .ok (.aload_n 0, 1) := by decide +kernel
theorem dL_law_378 : decode cL_law 378 = .ok (.iload_n 3, 1) := by decide +kernel
theorem dL_law_379 : decode cL_law 379 = .ok (.iconst 4, 1) := by decide +kernel
theorem dL_law_380 : decode cL_law 380 = .ok (.iadd, 1) := by decide +kernel
theorem dL_law_381 : decode cL_law 381 = .ok (.iaload, 1) := by decide +kernel
theorem dL_law_382 : decode cL_law 382 = .ok (.aload_n 0, 1) := by decide +kernel
theorem dL_law_383 : decode cL_law 383 = .ok (.iload_n 3, 1) := by decide +kernel
theorem dL_law_384 : decode cL_law 384 = .ok (.iconst 5, 1) := by decide +kernel
theorem dL_law_385 : decode cL_law 385 = .ok (.iadd, 1) := by decide +kernel
theorem dL_law_386 : decode cL_law 386 = .ok (.iaload, 1) := by decide +kernel
theorem dL_law_387 : decode cL_law 387 = .ok (.invokevirtual 46, 3) := by decide +kernel
theorem dL_law_390 : decode cL_law 390 = .ok (.pop, 1) := by decide +kernel
theorem dL_law_391 : decode cL_law 391 = .ok (.aload_n 2, 1) := by decide +kernel
theorem dL_law_392 : decode cL_law 392 = .ok (.aload_n 0, 1) := by decide +kernel
theorem dL_law_393 : decode cL_law 393 = .ok (.iload_n 3, 1) := by decide +kernel
theorem dL_law_394 : decode cL_law 394 = .ok (.iconst 1, 1) := by decide +kernel
theorem dL_law_395 : decode cL_law 395 = .ok (.iadd, 1) := by decide +kernel
theorem dL_law_396 : decode cL_law 396 = .ok (.iaload, 1) := by decide +kernel
theorem dL_law_397 : decode cL_law 397 = .ok (.aload_n 0, 1) := by decide +kernel
theorem dL_law_398 : decode cL_law 398 = .ok (.iload_n 3, 1) := by decide +kernel
theorem dL_law_399 : decode cL_law 399 = .ok (.iconst 2, 1) := by decide +kernel
theorem dL_law_400 : decode cL_law 400 = .ok (.iadd, 1) := by decide +kernel
theorem dL_law_401 : decode cL_law 401 = .ok (.iaload, 1) := by decide +kernel
theorem dL_law_402 : decode cL_law 402 = .ok (.aload_n 0, 1) := by decide +kernel
theorem dL_law_403 : decode cL_law 403 = .ok (.iload_n 3, 1) := by decide +kernel
theorem dL_law_404 : decode cL_law 404 = .ok (.iconst 3, 1) := by decide +kernel
theorem dL_law_405 : decode cL_law 405 = .ok (.iadd, 1) := by decide +kernel
theorem dL_law_406 : decode cL_law 406 = .ok (.iaload, 1) := by decide +kernel
theorem dL_law_407 : decode cL_law 407 = .ok (.aload_n 0, 1) := by decide +kernel
theorem dL_law_408 : decode cL_law 408 = .ok (.iload_n 3, 1) := by decide +kernel
theorem dL_law_409 : decode cL_law 409 = .ok (.iconst 4, 1) := by decide +kernel
theorem dL_law_410 : decode cL_law 410 = .ok (.iadd, 1) := by decide +kernel
theorem dL_law_411 : decode cL_law 411 = .ok (.iaload, 1) := by decide +kernel
theorem dL_law_412 : decode cL_law 412 = .ok (.aload_n 0, 1) := by decide +kernel
theorem dL_law_413 : decode cL_law 413 = .ok (.iload_n 3, 1) := by decide +kernel
theorem dL_law_414 : decode cL_law 414 = .ok (.iconst 5, 1) := by decide +kernel
theorem dL_law_415 : decode cL_law 415 = .ok (.iadd, 1) := by decide +kernel
theorem dL_law_416 : decode cL_law 416 = .ok (.iaload, 1) := by decide +kernel
theorem dL_law_417 : decode cL_law 417 = .ok (.invokevirtual 49, 3) := by decide +kernel
theorem dL_law_420 : decode cL_law 420 = .ok (.pop, 1) := by decide +kernel
theorem dL_law_421 : decode cL_law 421 = .ok (.goto 375, 3) := by decide +kernel
set_option maxHeartbeats 4000000 in
theorem law_7 {b n0 : Nat} {xs : Nat → Int32} {N a bm sz k n : Nat} {T : CT} {σ τ : MS} (h : LI N a bm sz k n T σ τ) (h6 : L9 T σ τ a) (hx : 7 * (N : Int) + 7 ≤ (n0 : Int)) (hn0 : n0 ≤ 3584) (K : ∀ sz2 k2 n2 T2 σ2 τ2, LI (N + 1) a bm sz2 k2 n2 T2 σ2 τ2 → L9 T2 σ2 τ2 a → Wl b n0 xs 796 (ovC T2 σ2 (ovM bm τ2 (fun _ => none))) sz2 k2 n2 (LL (7 * (N : Int)) bm a b) []) : Wl b n0 xs 361 (ovC T σ (ovM bm τ (fun _ => none))) sz k n (LL (7 * (N : Int)) bm a b) [] := by
  obtain ⟨⟨h4, S, C, E, M, hK, hA, hB, hX, hT, hW, hS⟩, hI9⟩ := h6
  have t6 : τ.1 10 ≤ 6 := h.m.gda.1.2
  refine wl_aload_n dL_law_361 rfl 2 rfl ?_
  refine wl_arg dL_law_362 dL_law_363 dL_law_364 dL_law_365 dL_law_366 ⟨by omega, by omega⟩ hn0 ?_
  refine wl_arg dL_law_367 dL_law_368 dL_law_369 dL_law_370 dL_law_371 ⟨by omega, by omega⟩ hn0 ?_
  refine wl_arg dL_law_372 dL_law_373 dL_law_374 dL_law_375 dL_law_376 ⟨by omega, by omega⟩ hn0 ?_
  refine wl_arg dL_law_377 dL_law_378 dL_law_379 dL_law_380 dL_law_381 ⟨by omega, by omega⟩ hn0 ?_
  refine wl_arg dL_law_382 dL_law_383 dL_law_384 dL_law_385 dL_law_386 ⟨by omega, by omega⟩ hn0 ?_
  refine wl_X (M' := m_X11_told) (ix := 46) (As := [.int (iI (xz xs ((7 * (N : Int)) + 1))), .int (iI (xz xs ((7 * (N : Int)) + 2))), .int (iI (xz xs ((7 * (N : Int)) + 3))), .int (iI (xz xs ((7 * (N : Int)) + 4))), .int (iI (xz xs ((7 * (N : Int)) + 5)))]) (rest := []) dL_law_387 ok_X11_told im_X11_told se_X11_told mlL_46 np_X11_told rfl rfl (Nat.le_of_ble_eq_true rfl) (Nat.le_of_ble_eq_true rfl) rfl h (x6_told 1220 (r := xz xs ((7 * (N : Int)) + 1)) (k := xz xs ((7 * (N : Int)) + 2)) (f := xz xs ((7 * (N : Int)) + 3)) (m := xz xs ((7 * (N : Int)) + 4)) (w := xz xs ((7 * (N : Int)) + 5)) (S := S) (C := C) (E := E) (M := M) (Cn := τ.1 10) hT h4.2.1 h.ob (xz_r _ _) (xz_r _ _) (xz_r _ _) (xz_r _ _) (xz_r _ _) (by omega) h.x hK) (fun r T2 σ2 hp => by obtain ⟨v, -, hi, -⟩ := hp; exact hi) (fun r T2 σ2 sz2 n9 g hp => ?_)
  obtain ⟨v, rfl, hi, ht, hk, hq6, hk7, htg⟩ := hp
  show Wl b n0 xs 390 _ _ _ _ _ [.int (iI v)]
  refine wl_pop dL_law_390 rfl ?_
  refine wl_aload_n dL_law_391 rfl 1 rfl ?_
  refine wl_arg dL_law_392 dL_law_393 dL_law_394 dL_law_395 dL_law_396 ⟨by omega, by omega⟩ hn0 ?_
  refine wl_arg dL_law_397 dL_law_398 dL_law_399 dL_law_400 dL_law_401 ⟨by omega, by omega⟩ hn0 ?_
  refine wl_arg dL_law_402 dL_law_403 dL_law_404 dL_law_405 dL_law_406 ⟨by omega, by omega⟩ hn0 ?_
  refine wl_arg dL_law_407 dL_law_408 dL_law_409 dL_law_410 dL_law_411 ⟨by omega, by omega⟩ hn0 ?_
  refine wl_arg dL_law_412 dL_law_413 dL_law_414 dL_law_415 dL_law_416 ⟨by omega, by omega⟩ hn0 ?_
  refine wl_M (M' := m_X12_told) (ix := 49) (As := [.int (iI (xz xs ((7 * (N : Int)) + 1))), .int (iI (xz xs ((7 * (N : Int)) + 2))), .int (iI (xz xs ((7 * (N : Int)) + 3))), .int (iI (xz xs ((7 * (N : Int)) + 4))), .int (iI (xz xs ((7 * (N : Int)) + 5)))]) (rest := []) dL_law_417 ok_X12_told im_X12_told se_X12_told mlL_49 np_X12_told rfl rfl (Nat.le_of_ble_eq_true rfl) (Nat.le_of_ble_eq_true rfl) rfl (Nat.le_trans h.top g.1) (h.free2 g) (h.room g hi) (m6_told 1220 (x := xz xs ((7 * (N : Int)) + 1)) (k := xz xs ((7 * (N : Int)) + 2)) (f := xz xs ((7 * (N : Int)) + 3)) (n := xz xs ((7 * (N : Int)) + 4)) (w := xz xs ((7 * (N : Int)) + 5)) (xz_r _ _) (xz_r _ _) (xz_r _ _) (xz_r _ _) (xz_r _ _) (by omega) h.m hS) (fun r τ2 hp => ?_)
  obtain ⟨v2, rfl, hj, hu, hm, hm6, hm7, hm8⟩ := hp
  have hz := h.tape
  have h5 := h4.keep hk hm (by omega)
  have h7 : L9 T2 σ2 τ2 a := ⟨⟨h5, q8_next hq6 hm6 hm.2.1 hA hB t6 (hX.quiet hk7 hm7 hm6 hm.2.1) (tgk_ex htg) hW hm8⟩, hI9.quiet hK hq6 hm6 hm.2.1 t6⟩
  show Wl b n0 xs 420 _ _ _ _ _ [.int (iI v2)]
  refine wl_pop dL_law_420 rfl ?_
  refine wl_goto (tgt := 796) dL_law_421 (by decide) ?_
  exact K _ _ _ _ _ _ (h.next g hi hj (by omega)) h7
theorem mlL_50 : Cond.methodLink RL 50 yX11_pass ∈ pWW := pw4 (List.mem_of_getElem? (i := 176) rfl) rfl
theorem mlL_53 : Cond.methodLink RL 53 yX12_pass ∈ pWW := pw9 (List.mem_of_getElem? (i := 98) rfl) rfl
theorem dL_law_424 : decode cL_law 424 = .ok (.aload_n 1, 1) := by decide +kernel
theorem dL_law_425 : decode cL_law 425 = .ok (.aload_n 0, 1) := by decide +kernel
theorem dL_law_426 : decode cL_law 426 = .ok (.iload_n 3, 1) := by decide +kernel
theorem dL_law_427 : decode cL_law 427 = .ok (.iconst 1, 1) := by decide +kernel
theorem dL_law_428 : decode cL_law 428 = .ok (.iadd, 1) := by decide +kernel
theorem dL_law_429 : decode cL_law 429 = .ok (.iaload, 1) := by decide +kernel
theorem dL_law_430 : decode cL_law 430 = .ok (.aload_n 0, 1) := by decide +kernel
theorem dL_law_431 : decode cL_law 431 = .ok (.iload_n 3, 1) := by decide +kernel
theorem dL_law_432 : decode cL_law 432 = .ok (.iconst 2, 1) := by decide +kernel
theorem dL_law_433 : decode cL_law 433 = .ok (.iadd, 1) := by decide +kernel
theorem dL_law_434 : decode cL_law 434 = .ok (.iaload, 1) := by decide +kernel
theorem dL_law_435 : decode cL_law 435 = .ok (.invokevirtual 50, 3) := by decide +kernel
theorem dL_law_438 : decode cL_law 438 = .ok (.pop, 1) := by decide +kernel
theorem dL_law_439 : decode cL_law 439 = .ok (.aload_n 2, 1) := by decide +kernel
theorem dL_law_440 : decode cL_law 440 = .ok (.aload_n 0, 1) := by decide +kernel
theorem dL_law_441 : decode cL_law 441 = .ok (.iload_n 3, 1) := by decide +kernel
theorem dL_law_442 : decode cL_law 442 = .ok (.iconst 1, 1) := by decide +kernel
theorem dL_law_443 : decode cL_law 443 = .ok (.iadd, 1) := by decide +kernel
theorem dL_law_444 : decode cL_law 444 = .ok (.iaload, 1) := by decide +kernel
theorem dL_law_445 : decode cL_law 445 = .ok (.aload_n 0, 1) := by decide +kernel
theorem dL_law_446 : decode cL_law 446 = .ok (.iload_n 3, 1) := by decide +kernel
theorem dL_law_447 : decode cL_law 447 = .ok (.iconst 2, 1) := by decide +kernel
theorem dL_law_448 : decode cL_law 448 = .ok (.iadd, 1) := by decide +kernel
theorem dL_law_449 : decode cL_law 449 = .ok (.iaload, 1) := by decide +kernel
theorem dL_law_450 : decode cL_law 450 = .ok (.invokevirtual 53, 3) := by decide +kernel
theorem dL_law_453 : decode cL_law 453 = .ok (.pop, 1) := by decide +kernel
theorem dL_law_454 : decode cL_law 454 = .ok (.goto 342, 3) := by decide +kernel
set_option maxHeartbeats 4000000 in
theorem law_8 {b n0 : Nat} {xs : Nat → Int32} {N a bm sz k n : Nat} {T : CT} {σ τ : MS} (h : LI N a bm sz k n T σ τ) (h6 : L9 T σ τ a) (hx : 7 * (N : Int) + 7 ≤ (n0 : Int)) (hn0 : n0 ≤ 3584) (K : ∀ sz2 k2 n2 T2 σ2 τ2, LI (N + 1) a bm sz2 k2 n2 T2 σ2 τ2 → L9 T2 σ2 τ2 a → Wl b n0 xs 796 (ovC T2 σ2 (ovM bm τ2 (fun _ => none))) sz2 k2 n2 (LL (7 * (N : Int)) bm a b) []) : Wl b n0 xs 424 (ovC T σ (ovM bm τ (fun _ => none))) sz k n (LL (7 * (N : Int)) bm a b) [] := by
  obtain ⟨⟨h4, S, C, E, M, hK, hA, hB, hX, hT, hW, hS⟩, hI9⟩ := h6
  have t6 : τ.1 10 ≤ 6 := h.m.gda.1.2
  have hU : UNA τ := fun j x y => (hB j x y).1
  have hO := kok_of hK h4.2.1 h.m.gda h.m.par h.m.nam hA hB
  refine wl_aload_n dL_law_424 rfl 2 rfl ?_
  refine wl_arg dL_law_425 dL_law_426 dL_law_427 dL_law_428 dL_law_429 ⟨by omega, by omega⟩ hn0 ?_
  refine wl_arg dL_law_430 dL_law_431 dL_law_432 dL_law_433 dL_law_434 ⟨by omega, by omega⟩ hn0 ?_
  refine wl_X (M' := m_X11_pass) (ix := 50) (As := [.int (iI (xz xs ((7 * (N : Int)) + 1))), .int (iI (xz xs ((7 * (N : Int)) + 2)))]) (rest := []) dL_law_435 ok_X11_pass im_X11_pass se_X11_pass mlL_50 np_X11_pass rfl rfl (Nat.le_of_ble_eq_true rfl) (Nat.le_of_ble_eq_true rfl) rfl h (x6_pass 1220 (k := xz xs ((7 * (N : Int)) + 1)) (r := xz xs ((7 * (N : Int)) + 2)) (S := S) (C := C) (E := E) (M := M) (Cn := τ.1 10) hO hT h4.2.1 h.ob (xz_r _ _) (xz_r _ _) (by omega) h.x hK) (fun r T2 σ2 hp => by obtain ⟨v, -, hi, -⟩ := hp; exact hi) (fun r T2 σ2 sz2 n9 g hp => ?_)
  obtain ⟨v, rfl, hi, ht, hk, hF, hP, hk7⟩ := hp
  show Wl b n0 xs 438 _ _ _ _ _ [.int (iI v)]
  refine wl_pop dL_law_438 rfl ?_
  refine wl_aload_n dL_law_439 rfl 1 rfl ?_
  refine wl_arg dL_law_440 dL_law_441 dL_law_442 dL_law_443 dL_law_444 ⟨by omega, by omega⟩ hn0 ?_
  refine wl_arg dL_law_445 dL_law_446 dL_law_447 dL_law_448 dL_law_449 ⟨by omega, by omega⟩ hn0 ?_
  refine wl_M (M' := m_X12_pass) (ix := 53) (As := [.int (iI (xz xs ((7 * (N : Int)) + 1))), .int (iI (xz xs ((7 * (N : Int)) + 2)))]) (rest := []) dL_law_450 ok_X12_pass im_X12_pass se_X12_pass mlL_53 np_X12_pass rfl rfl (Nat.le_of_ble_eq_true rfl) (Nat.le_of_ble_eq_true rfl) rfl (Nat.le_trans h.top g.1) (h.free2 g) (h.room g hi) (m6_pass 1220 (w := xz xs ((7 * (N : Int)) + 1)) (r := xz xs ((7 * (N : Int)) + 2)) (xz_r _ _) (xz_r _ _) (by omega) h.m hU hS) (fun r τ2 hp => ?_)
  obtain ⟨v2, rfl, hj, hu, hm, hmv, ⟨hm11, hm12, hm13⟩, hm7, hmX, hm8⟩ := hp
  have hz := h.tape
  have h5 := h4.keep hk hm (by omega)
  have h8 := pass_6 hK h.ob h.x.1 h4.2.1 h.m.gda hA hB hF hP hmv hm.2.1 hm11 hm12 hm13
  have h7 : L9 T2 σ2 τ2 a := ⟨⟨h5, S, C, E, M, h8.2.1, h8.2.2.1, h8.2.2.2, pass7 hX hF ⟨by decide, by decide, by decide⟩ hk7 hm7 h4.2.1 hmv h.m.gda hm.2.1 hU, pass8 hT hK h.x.1 h.ob h4.2.1 hP hF (by decide) h8.2.1 h8.2.2.1 h8.2.2.2 hW h.m.gda h.m.par hB hmv hj.gda hj.par hj.nam hm.2.1 hm11 hm12 hj.sca hm8⟩, pass9 hI9 hK h8.2.1 h4.2.1 hP hF (by decide) h.m.gda h.m.par hB h.m.pla.1 hmv hmX hm.2.1 hm11 hm12⟩
  show Wl b n0 xs 453 _ _ _ _ _ [.int (iI v2)]
  refine wl_pop dL_law_453 rfl ?_
  refine wl_goto (tgt := 796) dL_law_454 (by decide) ?_
  exact K _ _ _ _ _ _ (h.next g hi hj (by omega)) h7
theorem mlL_54 : Cond.methodLink RL 54 yX11_start ∈ pWW := pw6 (List.mem_of_getElem? (i := 25) rfl) rfl
theorem mlL_58 : Cond.methodLink RL 58 yX12_start ∈ pWW := pw9 (List.mem_of_getElem? (i := 233) rfl) rfl
theorem dL_law_457 : decode cL_law 457 = .ok (.aload_n 1, 1) := by decide +kernel
theorem dL_law_458 : decode cL_law 458 = .ok (.aload_n 0, 1) := by decide +kernel
theorem dL_law_459 : decode cL_law 459 = .ok (.iload_n 3, 1) := by decide +kernel
theorem dL_law_460 : decode cL_law 460 = .ok (.iconst 1, 1) := by decide +kernel
theorem dL_law_461 : decode cL_law 461 = .ok (.iadd, 1) := by decide +kernel
theorem dL_law_462 : decode cL_law 462 = .ok (.iaload, 1) := by decide +kernel
theorem dL_law_463 : decode cL_law 463 = .ok (.aload_n 0, 1) := by decide +kernel
theorem dL_law_464 : decode cL_law 464 = .ok (.iload_n 3, 1) := by decide +kernel
theorem dL_law_465 : decode cL_law 465 = .ok (.iconst 2, 1) := by decide +kernel
theorem dL_law_466 : decode cL_law 466 = .ok (.iadd, 1) := by decide +kernel
theorem dL_law_467 : decode cL_law 467 = .ok (.iaload, 1) := by decide +kernel
theorem dL_law_468 : decode cL_law 468 = .ok (.aload_n 0, 1) := by decide +kernel
theorem dL_law_469 : decode cL_law 469 = .ok (.iload_n 3, 1) := by decide +kernel
theorem dL_law_470 : decode cL_law 470 = .ok (.iconst 3, 1) := by decide +kernel
theorem dL_law_471 : decode cL_law 471 = .ok (.iadd, 1) := by decide +kernel
theorem dL_law_472 : decode cL_law 472 = .ok (.iaload, 1) := by decide +kernel
theorem dL_law_473 : decode cL_law 473 = .ok (.aload_n 0, 1) := by decide +kernel
theorem dL_law_474 : decode cL_law 474 = .ok (.iload_n 3, 1) := by decide +kernel
theorem dL_law_475 : decode cL_law 475 = .ok (.iconst 4, 1) := by decide +kernel
theorem dL_law_476 : decode cL_law 476 = .ok (.iadd, 1) := by decide +kernel
theorem dL_law_477 : decode cL_law 477 = .ok (.iaload, 1) := by decide +kernel
theorem dL_law_478 : decode cL_law 478 = .ok (.aload_n 0, 1) := by decide +kernel
theorem dL_law_479 : decode cL_law 479 = .ok (.iload_n 3, 1) := by decide +kernel
theorem dL_law_480 : decode cL_law 480 = .ok (.iconst 5, 1) := by decide +kernel
theorem dL_law_481 : decode cL_law 481 = .ok (.iadd, 1) := by decide +kernel
theorem dL_law_482 : decode cL_law 482 = .ok (.iaload, 1) := by decide +kernel
theorem dL_law_483 : decode cL_law 483 = .ok (.invokevirtual 54, 3) := by decide +kernel
theorem dL_law_486 : decode cL_law 486 = .ok (.pop, 1) := by decide +kernel
theorem dL_law_487 : decode cL_law 487 = .ok (.aload_n 2, 1) := by decide +kernel
theorem dL_law_488 : decode cL_law 488 = .ok (.aload_n 0, 1) := by decide +kernel
theorem dL_law_489 : decode cL_law 489 = .ok (.iload_n 3, 1) := by decide +kernel
theorem dL_law_490 : decode cL_law 490 = .ok (.iconst 1, 1) := by decide +kernel
theorem dL_law_491 : decode cL_law 491 = .ok (.iadd, 1) := by decide +kernel
theorem dL_law_492 : decode cL_law 492 = .ok (.iaload, 1) := by decide +kernel
theorem dL_law_493 : decode cL_law 493 = .ok (.aload_n 0, 1) := by decide +kernel
theorem dL_law_494 : decode cL_law 494 = .ok (.iload_n 3, 1) := by decide +kernel
theorem dL_law_495 : decode cL_law 495 = .ok (.iconst 2, 1) := by decide +kernel
theorem dL_law_496 : decode cL_law 496 = .ok (.iadd, 1) := by decide +kernel
theorem dL_law_497 : decode cL_law 497 = .ok (.iaload, 1) := by decide +kernel
theorem dL_law_498 : decode cL_law 498 = .ok (.aload_n 0, 1) := by decide +kernel
theorem dL_law_499 : decode cL_law 499 = .ok (.iload_n 3, 1) := by decide +kernel
theorem dL_law_500 : decode cL_law 500 = .ok (.iconst 3, 1) := by decide +kernel
theorem dL_law_501 : decode cL_law 501 = .ok (.iadd, 1) := by decide +kernel
theorem dL_law_502 : decode cL_law 502 = .ok (.iaload, 1) := by decide +kernel
theorem dL_law_503 : decode cL_law 503 = .ok (.aload_n 0, 1) := by decide +kernel
theorem dL_law_504 : decode cL_law 504 = .ok (.iload_n 3, 1) := by decide +kernel
theorem dL_law_505 : decode cL_law 505 = .ok (.iconst 4, 1) := by decide +kernel
theorem dL_law_506 : decode cL_law 506 = .ok (.iadd, 1) := by decide +kernel
theorem dL_law_507 : decode cL_law 507 = .ok (.iaload, 1) := by decide +kernel
theorem dL_law_508 : decode cL_law 508 = .ok (.aload_n 0, 1) := by decide +kernel
theorem dL_law_509 : decode cL_law 509 = .ok (.iload_n 3, 1) := by decide +kernel
theorem dL_law_510 : decode cL_law 510 = .ok (.iconst 5, 1) := by decide +kernel
theorem dL_law_511 : decode cL_law 511 = .ok (.iadd, 1) := by decide +kernel
theorem dL_law_512 : decode cL_law 512 = .ok (.iaload, 1) := by decide +kernel
theorem dL_law_513 : decode cL_law 513 = .ok (.invokevirtual 58, 3) := by decide +kernel
theorem dL_law_516 : decode cL_law 516 = .ok (.pop, 1) := by decide +kernel
theorem dL_law_517 : decode cL_law 517 = .ok (.goto 279, 3) := by decide +kernel
set_option maxHeartbeats 4000000 in
theorem law_9 {b n0 : Nat} {xs : Nat → Int32} {N a bm sz k n : Nat} {T : CT} {σ τ : MS} (h : LI N a bm sz k n T σ τ) (h6 : L9 T σ τ a) (hx : 7 * (N : Int) + 7 ≤ (n0 : Int)) (hn0 : n0 ≤ 3584) (K : ∀ sz2 k2 n2 T2 σ2 τ2, LI (N + 1) a bm sz2 k2 n2 T2 σ2 τ2 → L9 T2 σ2 τ2 a → Wl b n0 xs 796 (ovC T2 σ2 (ovM bm τ2 (fun _ => none))) sz2 k2 n2 (LL (7 * (N : Int)) bm a b) []) : Wl b n0 xs 457 (ovC T σ (ovM bm τ (fun _ => none))) sz k n (LL (7 * (N : Int)) bm a b) [] := by
  obtain ⟨⟨h4, S, C, E, M, hK, hA, hB, hX, hT, hW, hS⟩, hI9⟩ := h6
  have t6 : τ.1 10 ≤ 6 := h.m.gda.1.2
  have hU : UNA τ := fun j x y => (hB j x y).1
  refine wl_aload_n dL_law_457 rfl 2 rfl ?_
  refine wl_arg dL_law_458 dL_law_459 dL_law_460 dL_law_461 dL_law_462 ⟨by omega, by omega⟩ hn0 ?_
  refine wl_arg dL_law_463 dL_law_464 dL_law_465 dL_law_466 dL_law_467 ⟨by omega, by omega⟩ hn0 ?_
  refine wl_arg dL_law_468 dL_law_469 dL_law_470 dL_law_471 dL_law_472 ⟨by omega, by omega⟩ hn0 ?_
  refine wl_arg dL_law_473 dL_law_474 dL_law_475 dL_law_476 dL_law_477 ⟨by omega, by omega⟩ hn0 ?_
  refine wl_arg dL_law_478 dL_law_479 dL_law_480 dL_law_481 dL_law_482 ⟨by omega, by omega⟩ hn0 ?_
  refine wl_X (M' := m_X11_start) (ix := 54) (As := [.int (iI (xz xs ((7 * (N : Int)) + 1))), .int (iI (xz xs ((7 * (N : Int)) + 2))), .int (iI (xz xs ((7 * (N : Int)) + 3))), .int (iI (xz xs ((7 * (N : Int)) + 4))), .int (iI (xz xs ((7 * (N : Int)) + 5)))]) (rest := []) dL_law_483 ok_X11_start im_X11_start se_X11_start mlL_54 np_X11_start rfl rfl (Nat.le_of_ble_eq_true rfl) (Nat.le_of_ble_eq_true rfl) rfl h (x6_start 1220 (r := xz xs ((7 * (N : Int)) + 1)) (p := xz xs ((7 * (N : Int)) + 2)) (q := xz xs ((7 * (N : Int)) + 3)) (s := xz xs ((7 * (N : Int)) + 4)) (t := xz xs ((7 * (N : Int)) + 5)) (S := S) (C := C) (E := E) (M := M) (Cn := τ.1 10) hT h4.2.1 h.ob (xz_r _ _) (xz_r _ _) (xz_r _ _) (xz_r _ _) (xz_r _ _) (by omega) h.x hK) (fun r T2 σ2 hp => by obtain ⟨v, -, hi, -⟩ := hp; exact hi) (fun r T2 σ2 sz2 n9 g hp => ?_)
  obtain ⟨v, rfl, hi, ht, hk, hkv, hq6, hk7, htg⟩ := hp
  show Wl b n0 xs 486 _ _ _ _ _ [.int (iI v)]
  refine wl_pop dL_law_486 rfl ?_
  refine wl_aload_n dL_law_487 rfl 1 rfl ?_
  refine wl_arg dL_law_488 dL_law_489 dL_law_490 dL_law_491 dL_law_492 ⟨by omega, by omega⟩ hn0 ?_
  refine wl_arg dL_law_493 dL_law_494 dL_law_495 dL_law_496 dL_law_497 ⟨by omega, by omega⟩ hn0 ?_
  refine wl_arg dL_law_498 dL_law_499 dL_law_500 dL_law_501 dL_law_502 ⟨by omega, by omega⟩ hn0 ?_
  refine wl_arg dL_law_503 dL_law_504 dL_law_505 dL_law_506 dL_law_507 ⟨by omega, by omega⟩ hn0 ?_
  refine wl_arg dL_law_508 dL_law_509 dL_law_510 dL_law_511 dL_law_512 ⟨by omega, by omega⟩ hn0 ?_
  refine wl_M (M' := m_X12_start) (ix := 58) (As := [.int (iI (xz xs ((7 * (N : Int)) + 1))), .int (iI (xz xs ((7 * (N : Int)) + 2))), .int (iI (xz xs ((7 * (N : Int)) + 3))), .int (iI (xz xs ((7 * (N : Int)) + 4))), .int (iI (xz xs ((7 * (N : Int)) + 5)))]) (rest := []) dL_law_513 ok_X12_start im_X12_start se_X12_start mlL_58 np_X12_start rfl rfl (Nat.le_of_ble_eq_true rfl) (Nat.le_of_ble_eq_true rfl) rfl (Nat.le_trans h.top g.1) (h.free2 g) (h.room g hi) (m6_start 1220 (x := xz xs ((7 * (N : Int)) + 1)) (a1 := xz xs ((7 * (N : Int)) + 2)) (a2 := xz xs ((7 * (N : Int)) + 3)) (a3 := xz xs ((7 * (N : Int)) + 4)) (a4 := xz xs ((7 * (N : Int)) + 5)) (xz_r _ _) (xz_r _ _) (xz_r _ _) (xz_r _ _) (xz_r _ _) (by omega) h.m hS) (fun r τ2 hp => ?_)
  obtain ⟨v2, rfl, hj, hu, hm, hmv, hm6, hmS, hmF, hm8⟩ := hp
  have hz := h.tape
  have h5 := h4.keep hk hm (by omega)
  have hvv : v = v2 := by have e5 := h4.2.1; have e6 := h4.2.2.1; have e7 := h4.2.2.2; omega
  have h7 : L9 T2 σ2 τ2 a := ⟨⟨h5, q8_next hq6 hm6 hm.2.1 hA hB t6 (start7x hX hK h.x.1 h.ob h.m.gda h.m.par hU hA hk7 hmS hmF hm6 hvv) (tgk_ex htg) hW hm8⟩, hI9.quiet hK hq6 hm6 hm.2.1 t6⟩
  show Wl b n0 xs 516 _ _ _ _ _ [.int (iI v2)]
  refine wl_pop dL_law_516 rfl ?_
  refine wl_goto (tgt := 796) dL_law_517 (by decide) ?_
  exact K _ _ _ _ _ _ (h.next g hi hj (by omega)) h7
theorem mlL_59 : Cond.methodLink RL 59 yX11_go ∈ pWW := pw6 (List.mem_of_getElem? (i := 48) rfl) rfl
theorem mlL_62 : Cond.methodLink RL 62 yX12_go ∈ pWW := pw10 (List.mem_of_getElem? (i := 9) rfl) rfl
theorem dL_law_520 : decode cL_law 520 = .ok (.aload_n 1, 1) := by decide +kernel
theorem dL_law_521 : decode cL_law 521 = .ok (.aload_n 0, 1) := by decide +kernel
theorem dL_law_522 : decode cL_law 522 = .ok (.iload_n 3, 1) := by decide +kernel
theorem dL_law_523 : decode cL_law 523 = .ok (.iconst 1, 1) := by decide +kernel
theorem dL_law_524 : decode cL_law 524 = .ok (.iadd, 1) := by decide +kernel
theorem dL_law_525 : decode cL_law 525 = .ok (.iaload, 1) := by decide +kernel
theorem dL_law_526 : decode cL_law 526 = .ok (.aload_n 0, 1) := by decide +kernel
theorem dL_law_527 : decode cL_law 527 = .ok (.iload_n 3, 1) := by decide +kernel
theorem dL_law_528 : decode cL_law 528 = .ok (.iconst 2, 1) := by decide +kernel
theorem dL_law_529 : decode cL_law 529 = .ok (.iadd, 1) := by decide +kernel
theorem dL_law_530 : decode cL_law 530 = .ok (.iaload, 1) := by decide +kernel
theorem dL_law_531 : decode cL_law 531 = .ok (.invokevirtual 59, 3) := by decide +kernel
theorem dL_law_534 : decode cL_law 534 = .ok (.pop, 1) := by decide +kernel
theorem dL_law_535 : decode cL_law 535 = .ok (.aload_n 2, 1) := by decide +kernel
theorem dL_law_536 : decode cL_law 536 = .ok (.aload_n 0, 1) := by decide +kernel
theorem dL_law_537 : decode cL_law 537 = .ok (.iload_n 3, 1) := by decide +kernel
theorem dL_law_538 : decode cL_law 538 = .ok (.iconst 1, 1) := by decide +kernel
theorem dL_law_539 : decode cL_law 539 = .ok (.iadd, 1) := by decide +kernel
theorem dL_law_540 : decode cL_law 540 = .ok (.iaload, 1) := by decide +kernel
theorem dL_law_541 : decode cL_law 541 = .ok (.aload_n 0, 1) := by decide +kernel
theorem dL_law_542 : decode cL_law 542 = .ok (.iload_n 3, 1) := by decide +kernel
theorem dL_law_543 : decode cL_law 543 = .ok (.iconst 2, 1) := by decide +kernel
theorem dL_law_544 : decode cL_law 544 = .ok (.iadd, 1) := by decide +kernel
theorem dL_law_545 : decode cL_law 545 = .ok (.iaload, 1) := by decide +kernel
theorem dL_law_546 : decode cL_law 546 = .ok (.invokevirtual 62, 3) := by decide +kernel
theorem dL_law_549 : decode cL_law 549 = .ok (.pop, 1) := by decide +kernel
theorem dL_law_550 : decode cL_law 550 = .ok (.goto 246, 3) := by decide +kernel
set_option maxHeartbeats 4000000 in
theorem law_10 {b n0 : Nat} {xs : Nat → Int32} {N a bm sz k n : Nat} {T : CT} {σ τ : MS} (h : LI N a bm sz k n T σ τ) (h6 : L9 T σ τ a) (hx : 7 * (N : Int) + 7 ≤ (n0 : Int)) (hn0 : n0 ≤ 3584) (K : ∀ sz2 k2 n2 T2 σ2 τ2, LI (N + 1) a bm sz2 k2 n2 T2 σ2 τ2 → L9 T2 σ2 τ2 a → Wl b n0 xs 796 (ovC T2 σ2 (ovM bm τ2 (fun _ => none))) sz2 k2 n2 (LL (7 * (N : Int)) bm a b) []) : Wl b n0 xs 520 (ovC T σ (ovM bm τ (fun _ => none))) sz k n (LL (7 * (N : Int)) bm a b) [] := by
  obtain ⟨⟨h4, S, C, E, M, hK, hA, hB, hX, hT, hW, hS⟩, hI9⟩ := h6
  have t6 : τ.1 10 ≤ 6 := h.m.gda.1.2
  have hU : UNA τ := fun j x y => (hB j x y).1
  refine wl_aload_n dL_law_520 rfl 2 rfl ?_
  refine wl_arg dL_law_521 dL_law_522 dL_law_523 dL_law_524 dL_law_525 ⟨by omega, by omega⟩ hn0 ?_
  refine wl_arg dL_law_526 dL_law_527 dL_law_528 dL_law_529 dL_law_530 ⟨by omega, by omega⟩ hn0 ?_
  refine wl_X (M' := m_X11_go) (ix := 59) (As := [.int (iI (xz xs ((7 * (N : Int)) + 1))), .int (iI (xz xs ((7 * (N : Int)) + 2)))]) (rest := []) dL_law_531 ok_X11_go im_X11_go se_X11_go mlL_59 np_X11_go rfl rfl (Nat.le_of_ble_eq_true rfl) (Nat.le_of_ble_eq_true rfl) rfl h (x6_go 1220 (w := xz xs ((7 * (N : Int)) + 1)) (n := xz xs ((7 * (N : Int)) + 2)) (S := S) (C := C) (E := E) (M := M) (Cn := τ.1 10) hT h4.2.1 h.ob (xz_r _ _) (xz_r _ _) (by omega) h.x hK) (fun r T2 σ2 hp => by obtain ⟨v, -, hi, -⟩ := hp; exact hi) (fun r T2 σ2 sz2 n9 g hp => ?_)
  obtain ⟨v, rfl, hi, ht, hk, hq6, hk7, htg⟩ := hp
  show Wl b n0 xs 534 _ _ _ _ _ [.int (iI v)]
  refine wl_pop dL_law_534 rfl ?_
  refine wl_aload_n dL_law_535 rfl 1 rfl ?_
  refine wl_arg dL_law_536 dL_law_537 dL_law_538 dL_law_539 dL_law_540 ⟨by omega, by omega⟩ hn0 ?_
  refine wl_arg dL_law_541 dL_law_542 dL_law_543 dL_law_544 dL_law_545 ⟨by omega, by omega⟩ hn0 ?_
  refine wl_M (M' := m_X12_go) (ix := 62) (As := [.int (iI (xz xs ((7 * (N : Int)) + 1))), .int (iI (xz xs ((7 * (N : Int)) + 2)))]) (rest := []) dL_law_546 ok_X12_go im_X12_go se_X12_go mlL_62 np_X12_go rfl rfl (Nat.le_of_ble_eq_true rfl) (Nat.le_of_ble_eq_true rfl) rfl (Nat.le_trans h.top g.1) (h.free2 g) (h.room g hi) (m6_go 1220 (w := xz xs ((7 * (N : Int)) + 1)) (nn := xz xs ((7 * (N : Int)) + 2)) (xz_r _ _) (xz_r _ _) (by omega) h.m hS) (fun r τ2 hp => ?_)
  obtain ⟨v2, rfl, hj, hu, hm, hm6, hm7, hm8⟩ := hp
  have hz := h.tape
  have h5 := h4.keep hk hm (by omega)
  have hgo := go7x hX hK h.x.1 h.ob h.m.gda h.m.par hU hA hk7 hm7 hm6 hm.2.1
  have h7 : L9 T2 σ2 τ2 a := ⟨⟨h5, q8_next hq6 hm6 hm.2.1 hA hB t6 (hgo.2) (tgk_ex htg) hW hm8⟩, hI9.quiet hK hq6 hm6 hm.2.1 t6⟩
  show Wl b n0 xs 549 _ _ _ _ _ [.int (iI v2)]
  refine wl_pop dL_law_549 rfl ?_
  refine wl_goto (tgt := 796) dL_law_550 (by decide) ?_
  exact K _ _ _ _ _ _ (h.next g hi hj (by omega)) h7
theorem mlL_63 : Cond.methodLink RL 63 yX11_stack ∈ pWW := pw6 (List.mem_of_getElem? (i := 97) rfl) rfl
theorem mlL_66 : Cond.methodLink RL 66 yX12_stack ∈ pWW := pw10 (List.mem_of_getElem? (i := 37) rfl) rfl
theorem dL_law_553 : decode cL_law 553 = .ok (.aload_n 1, 1) := by decide +kernel
theorem dL_law_554 : decode cL_law 554 = .ok (.aload_n 0, 1) := by decide +kernel
theorem dL_law_555 : decode cL_law 555 = .ok (.iload_n 3, 1) := by decide +kernel
theorem dL_law_556 : decode cL_law 556 = .ok (.iconst 1, 1) := by decide +kernel
theorem dL_law_557 : decode cL_law 557 = .ok (.iadd, 1) := by decide +kernel
theorem dL_law_558 : decode cL_law 558 = .ok (.iaload, 1) := by decide +kernel
theorem dL_law_559 : decode cL_law 559 = .ok (.aload_n 0, 1) := by decide +kernel
theorem dL_law_560 : decode cL_law 560 = .ok (.iload_n 3, 1) := by decide +kernel
theorem dL_law_561 : decode cL_law 561 = .ok (.iconst 2, 1) := by decide +kernel
theorem dL_law_562 : decode cL_law 562 = .ok (.iadd, 1) := by decide +kernel
theorem dL_law_563 : decode cL_law 563 = .ok (.iaload, 1) := by decide +kernel
theorem dL_law_564 : decode cL_law 564 = .ok (.invokevirtual 63, 3) := by decide +kernel
theorem dL_law_567 : decode cL_law 567 = .ok (.pop, 1) := by decide +kernel
theorem dL_law_568 : decode cL_law 568 = .ok (.aload_n 2, 1) := by decide +kernel
theorem dL_law_569 : decode cL_law 569 = .ok (.aload_n 0, 1) := by decide +kernel
theorem dL_law_570 : decode cL_law 570 = .ok (.iload_n 3, 1) := by decide +kernel
theorem dL_law_571 : decode cL_law 571 = .ok (.iconst 1, 1) := by decide +kernel
theorem dL_law_572 : decode cL_law 572 = .ok (.iadd, 1) := by decide +kernel
theorem dL_law_573 : decode cL_law 573 = .ok (.iaload, 1) := by decide +kernel
theorem dL_law_574 : decode cL_law 574 = .ok (.aload_n 0, 1) := by decide +kernel
theorem dL_law_575 : decode cL_law 575 = .ok (.iload_n 3, 1) := by decide +kernel
theorem dL_law_576 : decode cL_law 576 = .ok (.iconst 2, 1) := by decide +kernel
theorem dL_law_577 : decode cL_law 577 = .ok (.iadd, 1) := by decide +kernel
theorem dL_law_578 : decode cL_law 578 = .ok (.iaload, 1) := by decide +kernel
theorem dL_law_579 : decode cL_law 579 = .ok (.invokevirtual 66, 3) := by decide +kernel
theorem dL_law_582 : decode cL_law 582 = .ok (.pop, 1) := by decide +kernel
theorem dL_law_583 : decode cL_law 583 = .ok (.goto 213, 3) := by decide +kernel
set_option maxHeartbeats 4000000 in
theorem law_11 {b n0 : Nat} {xs : Nat → Int32} {N a bm sz k n : Nat} {T : CT} {σ τ : MS} (h : LI N a bm sz k n T σ τ) (h6 : L9 T σ τ a) (hx : 7 * (N : Int) + 7 ≤ (n0 : Int)) (hn0 : n0 ≤ 3584) (K : ∀ sz2 k2 n2 T2 σ2 τ2, LI (N + 1) a bm sz2 k2 n2 T2 σ2 τ2 → L9 T2 σ2 τ2 a → Wl b n0 xs 796 (ovC T2 σ2 (ovM bm τ2 (fun _ => none))) sz2 k2 n2 (LL (7 * (N : Int)) bm a b) []) : Wl b n0 xs 553 (ovC T σ (ovM bm τ (fun _ => none))) sz k n (LL (7 * (N : Int)) bm a b) [] := by
  obtain ⟨⟨h4, S, C, E, M, hK, hA, hB, hX, hT, hW, hS⟩, hI9⟩ := h6
  have t6 : τ.1 10 ≤ 6 := h.m.gda.1.2
  refine wl_aload_n dL_law_553 rfl 2 rfl ?_
  refine wl_arg dL_law_554 dL_law_555 dL_law_556 dL_law_557 dL_law_558 ⟨by omega, by omega⟩ hn0 ?_
  refine wl_arg dL_law_559 dL_law_560 dL_law_561 dL_law_562 dL_law_563 ⟨by omega, by omega⟩ hn0 ?_
  refine wl_X (M' := m_X11_stack) (ix := 63) (As := [.int (iI (xz xs ((7 * (N : Int)) + 1))), .int (iI (xz xs ((7 * (N : Int)) + 2)))]) (rest := []) dL_law_564 ok_X11_stack im_X11_stack se_X11_stack mlL_63 np_X11_stack rfl rfl (Nat.le_of_ble_eq_true rfl) (Nat.le_of_ble_eq_true rfl) rfl h (x6_stack 1220 (k := xz xs ((7 * (N : Int)) + 1)) (w := xz xs ((7 * (N : Int)) + 2)) (S := S) (C := C) (E := E) (M := M) (Cn := τ.1 10) hT h4.2.1 h.ob (xz_r _ _) (xz_r _ _) (by omega) h.x hK) (fun r T2 σ2 hp => by obtain ⟨v, -, hi, -⟩ := hp; exact hi) (fun r T2 σ2 sz2 n9 g hp => ?_)
  obtain ⟨v, rfl, hi, ht, hk, hq6, hk7, hx7, htg⟩ := hp
  show Wl b n0 xs 567 _ _ _ _ _ [.int (iI v)]
  refine wl_pop dL_law_567 rfl ?_
  refine wl_aload_n dL_law_568 rfl 1 rfl ?_
  refine wl_arg dL_law_569 dL_law_570 dL_law_571 dL_law_572 dL_law_573 ⟨by omega, by omega⟩ hn0 ?_
  refine wl_arg dL_law_574 dL_law_575 dL_law_576 dL_law_577 dL_law_578 ⟨by omega, by omega⟩ hn0 ?_
  refine wl_M (M' := m_X12_stack) (ix := 66) (As := [.int (iI (xz xs ((7 * (N : Int)) + 1))), .int (iI (xz xs ((7 * (N : Int)) + 2)))]) (rest := []) dL_law_579 ok_X12_stack im_X12_stack se_X12_stack mlL_66 np_X12_stack rfl rfl (Nat.le_of_ble_eq_true rfl) (Nat.le_of_ble_eq_true rfl) rfl (Nat.le_trans h.top g.1) (h.free2 g) (h.room g hi) (m6_stack 1220 (k := xz xs ((7 * (N : Int)) + 1)) (w := xz xs ((7 * (N : Int)) + 2)) (xz_r _ _) (xz_r _ _) (by omega) h.m hS) (fun r τ2 hp => ?_)
  obtain ⟨v2, rfl, hj, hu, hm, hm6, hm7, hms, hm8⟩ := hp
  have hz := h.tape
  have h5 := h4.keep hk hm (by omega)
  have h7 : L9 T2 σ2 τ2 a := ⟨⟨h5, q8_next hq6 hm6 hm.2.1 hA hB t6 (hX.quiet hk7 hm7 hm6 hm.2.1) (tgk_ex htg) hW hm8⟩, hI9.quiet hK hq6 hm6 hm.2.1 t6⟩
  show Wl b n0 xs 582 _ _ _ _ _ [.int (iI v2)]
  refine wl_pop dL_law_582 rfl ?_
  refine wl_goto (tgt := 796) dL_law_583 (by decide) ?_
  exact K _ _ _ _ _ _ (h.next g hi hj (by omega)) h7
theorem mlL_67 : Cond.methodLink RL 67 yX11_known ∈ pWW := pw6 (List.mem_of_getElem? (i := 125) rfl) rfl
theorem mlL_70 : Cond.methodLink RL 70 yX12_known ∈ pWW := pw10 (List.mem_of_getElem? (i := 53) rfl) rfl
theorem dL_law_586 : decode cL_law 586 = .ok (.aload_n 1, 1) := by decide +kernel
theorem dL_law_587 : decode cL_law 587 = .ok (.aload_n 0, 1) := by decide +kernel
theorem dL_law_588 : decode cL_law 588 = .ok (.iload_n 3, 1) := by decide +kernel
theorem dL_law_589 : decode cL_law 589 = .ok (.iconst 1, 1) := by decide +kernel
theorem dL_law_590 : decode cL_law 590 = .ok (.iadd, 1) := by decide +kernel
theorem dL_law_591 : decode cL_law 591 = .ok (.iaload, 1) := by decide +kernel
theorem dL_law_592 : decode cL_law 592 = .ok (.aload_n 0, 1) := by decide +kernel
theorem dL_law_593 : decode cL_law 593 = .ok (.iload_n 3, 1) := by decide +kernel
theorem dL_law_594 : decode cL_law 594 = .ok (.iconst 2, 1) := by decide +kernel
theorem dL_law_595 : decode cL_law 595 = .ok (.iadd, 1) := by decide +kernel
theorem dL_law_596 : decode cL_law 596 = .ok (.iaload, 1) := by decide +kernel
theorem dL_law_597 : decode cL_law 597 = .ok (.invokevirtual 67, 3) := by decide +kernel
theorem dL_law_600 : decode cL_law 600 = .ok (.pop, 1) := by decide +kernel
theorem dL_law_601 : decode cL_law 601 = .ok (.aload_n 2, 1) := by decide +kernel
theorem dL_law_602 : decode cL_law 602 = .ok (.aload_n 0, 1) := by decide +kernel
theorem dL_law_603 : decode cL_law 603 = .ok (.iload_n 3, 1) := by decide +kernel
theorem dL_law_604 : decode cL_law 604 = .ok (.iconst 1, 1) := by decide +kernel
theorem dL_law_605 : decode cL_law 605 = .ok (.iadd, 1) := by decide +kernel
theorem dL_law_606 : decode cL_law 606 = .ok (.iaload, 1) := by decide +kernel
theorem dL_law_607 : decode cL_law 607 = .ok (.aload_n 0, 1) := by decide +kernel
theorem dL_law_608 : decode cL_law 608 = .ok (.iload_n 3, 1) := by decide +kernel
theorem dL_law_609 : decode cL_law 609 = .ok (.iconst 2, 1) := by decide +kernel
theorem dL_law_610 : decode cL_law 610 = .ok (.iadd, 1) := by decide +kernel
theorem dL_law_611 : decode cL_law 611 = .ok (.iaload, 1) := by decide +kernel
theorem dL_law_612 : decode cL_law 612 = .ok (.invokevirtual 70, 3) := by decide +kernel
theorem dL_law_615 : decode cL_law 615 = .ok (.pop, 1) := by decide +kernel
theorem dL_law_616 : decode cL_law 616 = .ok (.goto 180, 3) := by decide +kernel
set_option maxHeartbeats 4000000 in
theorem law_12 {b n0 : Nat} {xs : Nat → Int32} {N a bm sz k n : Nat} {T : CT} {σ τ : MS} (h : LI N a bm sz k n T σ τ) (h6 : L9 T σ τ a) (hx : 7 * (N : Int) + 7 ≤ (n0 : Int)) (hn0 : n0 ≤ 3584) (K : ∀ sz2 k2 n2 T2 σ2 τ2, LI (N + 1) a bm sz2 k2 n2 T2 σ2 τ2 → L9 T2 σ2 τ2 a → Wl b n0 xs 796 (ovC T2 σ2 (ovM bm τ2 (fun _ => none))) sz2 k2 n2 (LL (7 * (N : Int)) bm a b) []) : Wl b n0 xs 586 (ovC T σ (ovM bm τ (fun _ => none))) sz k n (LL (7 * (N : Int)) bm a b) [] := by
  obtain ⟨⟨h4, S, C, E, M, hK, hA, hB, hX, hT, hW, hS⟩, hI9⟩ := h6
  have t6 : τ.1 10 ≤ 6 := h.m.gda.1.2
  refine wl_aload_n dL_law_586 rfl 2 rfl ?_
  refine wl_arg dL_law_587 dL_law_588 dL_law_589 dL_law_590 dL_law_591 ⟨by omega, by omega⟩ hn0 ?_
  refine wl_arg dL_law_592 dL_law_593 dL_law_594 dL_law_595 dL_law_596 ⟨by omega, by omega⟩ hn0 ?_
  refine wl_X (M' := m_X11_known) (ix := 67) (As := [.int (iI (xz xs ((7 * (N : Int)) + 1))), .int (iI (xz xs ((7 * (N : Int)) + 2)))]) (rest := []) dL_law_597 ok_X11_known im_X11_known se_X11_known mlL_67 np_X11_known rfl rfl (Nat.le_of_ble_eq_true rfl) (Nat.le_of_ble_eq_true rfl) rfl h (x6_known 1220 (k := xz xs ((7 * (N : Int)) + 1)) (m := xz xs ((7 * (N : Int)) + 2)) (S := S) (C := C) (E := E) (M := M) (Cn := τ.1 10) hT h4.2.1 (kvh8x hX hT hK h.x.1 h.ob h.m.gda h.m.r7 hA) h.ob (xz_r _ _) (xz_r _ _) (by omega) h.x hK) (fun r T2 σ2 hp => by obtain ⟨v, -, hi, -⟩ := hp; exact hi) (fun r T2 σ2 sz2 n9 g hp => ?_)
  obtain ⟨v, rfl, hi, ht, hk, hq6, hk7, htg⟩ := hp
  show Wl b n0 xs 600 _ _ _ _ _ [.int (iI v)]
  refine wl_pop dL_law_600 rfl ?_
  refine wl_aload_n dL_law_601 rfl 1 rfl ?_
  refine wl_arg dL_law_602 dL_law_603 dL_law_604 dL_law_605 dL_law_606 ⟨by omega, by omega⟩ hn0 ?_
  refine wl_arg dL_law_607 dL_law_608 dL_law_609 dL_law_610 dL_law_611 ⟨by omega, by omega⟩ hn0 ?_
  refine wl_M (M' := m_X12_known) (ix := 70) (As := [.int (iI (xz xs ((7 * (N : Int)) + 1))), .int (iI (xz xs ((7 * (N : Int)) + 2)))]) (rest := []) dL_law_612 ok_X12_known im_X12_known se_X12_known mlL_70 np_X12_known rfl rfl (Nat.le_of_ble_eq_true rfl) (Nat.le_of_ble_eq_true rfl) rfl (Nat.le_trans h.top g.1) (h.free2 g) (h.room g hi) (m6_known 1220 (k := xz xs ((7 * (N : Int)) + 1)) (n := xz xs ((7 * (N : Int)) + 2)) (xz_r _ _) (xz_r _ _) (by omega) h.m hS) (fun r τ2 hp => ?_)
  obtain ⟨v2, rfl, hj, hu, hm, hm6, hm7, hms, hm8⟩ := hp
  have hz := h.tape
  have h5 := h4.keep hk hm (by omega)
  have hkn := known8x hX hT hK h.x.1 h.ob h.m.gda h.m.par hW h.m.r7 hA hB hq6 hk7 hi.1 ((g.gt h.dom).ob h.ob) htg hms
  have h7 : L9 T2 σ2 τ2 a := ⟨⟨h5, q8_next hq6 hm6 hm.2.1 hA hB t6 (hX.quiet hk7 hm7 hm6 hm.2.1) hkn.2 hW hm8⟩, hI9.quiet hK hq6 hm6 hm.2.1 t6⟩
  show Wl b n0 xs 615 _ _ _ _ _ [.int (iI v2)]
  refine wl_pop dL_law_615 rfl ?_
  refine wl_goto (tgt := 796) dL_law_616 (by decide) ?_
  exact K _ _ _ _ _ _ (h.next g hi hj (by omega)) h7
theorem mlL_71 : Cond.methodLink RL 71 yX11_value ∈ pWW := pw6 (List.mem_of_getElem? (i := 145) rfl) rfl
theorem mlL_74 : Cond.methodLink RL 74 yX12_value ∈ pWW := pw10 (List.mem_of_getElem? (i := 61) rfl) rfl
theorem dL_law_619 : decode cL_law 619 = .ok (.aload_n 1, 1) := by decide +kernel
theorem dL_law_620 : decode cL_law 620 = .ok (.aload_n 0, 1) := by decide +kernel
theorem dL_law_621 : decode cL_law 621 = .ok (.iload_n 3, 1) := by decide +kernel
theorem dL_law_622 : decode cL_law 622 = .ok (.iconst 1, 1) := by decide +kernel
theorem dL_law_623 : decode cL_law 623 = .ok (.iadd, 1) := by decide +kernel
theorem dL_law_624 : decode cL_law 624 = .ok (.iaload, 1) := by decide +kernel
theorem dL_law_625 : decode cL_law 625 = .ok (.aload_n 0, 1) := by decide +kernel
theorem dL_law_626 : decode cL_law 626 = .ok (.iload_n 3, 1) := by decide +kernel
theorem dL_law_627 : decode cL_law 627 = .ok (.iconst 2, 1) := by decide +kernel
theorem dL_law_628 : decode cL_law 628 = .ok (.iadd, 1) := by decide +kernel
theorem dL_law_629 : decode cL_law 629 = .ok (.iaload, 1) := by decide +kernel
theorem dL_law_630 : decode cL_law 630 = .ok (.invokevirtual 71, 3) := by decide +kernel
theorem dL_law_633 : decode cL_law 633 = .ok (.pop, 1) := by decide +kernel
theorem dL_law_634 : decode cL_law 634 = .ok (.aload_n 2, 1) := by decide +kernel
theorem dL_law_635 : decode cL_law 635 = .ok (.aload_n 0, 1) := by decide +kernel
theorem dL_law_636 : decode cL_law 636 = .ok (.iload_n 3, 1) := by decide +kernel
theorem dL_law_637 : decode cL_law 637 = .ok (.iconst 1, 1) := by decide +kernel
theorem dL_law_638 : decode cL_law 638 = .ok (.iadd, 1) := by decide +kernel
theorem dL_law_639 : decode cL_law 639 = .ok (.iaload, 1) := by decide +kernel
theorem dL_law_640 : decode cL_law 640 = .ok (.aload_n 0, 1) := by decide +kernel
theorem dL_law_641 : decode cL_law 641 = .ok (.iload_n 3, 1) := by decide +kernel
theorem dL_law_642 : decode cL_law 642 = .ok (.iconst 2, 1) := by decide +kernel
theorem dL_law_643 : decode cL_law 643 = .ok (.iadd, 1) := by decide +kernel
theorem dL_law_644 : decode cL_law 644 = .ok (.iaload, 1) := by decide +kernel
theorem dL_law_645 : decode cL_law 645 = .ok (.invokevirtual 74, 3) := by decide +kernel
theorem dL_law_648 : decode cL_law 648 = .ok (.pop, 1) := by decide +kernel
theorem dL_law_649 : decode cL_law 649 = .ok (.goto 147, 3) := by decide +kernel
set_option maxHeartbeats 4000000 in
theorem law_13 {b n0 : Nat} {xs : Nat → Int32} {N a bm sz k n : Nat} {T : CT} {σ τ : MS} (h : LI N a bm sz k n T σ τ) (h6 : L9 T σ τ a) (hx : 7 * (N : Int) + 7 ≤ (n0 : Int)) (hn0 : n0 ≤ 3584) (K : ∀ sz2 k2 n2 T2 σ2 τ2, LI (N + 1) a bm sz2 k2 n2 T2 σ2 τ2 → L9 T2 σ2 τ2 a → Wl b n0 xs 796 (ovC T2 σ2 (ovM bm τ2 (fun _ => none))) sz2 k2 n2 (LL (7 * (N : Int)) bm a b) []) : Wl b n0 xs 619 (ovC T σ (ovM bm τ (fun _ => none))) sz k n (LL (7 * (N : Int)) bm a b) [] := by
  obtain ⟨⟨h4, S, C, E, M, hK, hA, hB, hX, hT, hW, hS⟩, hI9⟩ := h6
  have t6 : τ.1 10 ≤ 6 := h.m.gda.1.2
  refine wl_aload_n dL_law_619 rfl 2 rfl ?_
  refine wl_arg dL_law_620 dL_law_621 dL_law_622 dL_law_623 dL_law_624 ⟨by omega, by omega⟩ hn0 ?_
  refine wl_arg dL_law_625 dL_law_626 dL_law_627 dL_law_628 dL_law_629 ⟨by omega, by omega⟩ hn0 ?_
  refine wl_X (M' := m_X11_value) (ix := 71) (As := [.int (iI (xz xs ((7 * (N : Int)) + 1))), .int (iI (xz xs ((7 * (N : Int)) + 2)))]) (rest := []) dL_law_630 ok_X11_value im_X11_value se_X11_value mlL_71 np_X11_value rfl rfl (Nat.le_of_ble_eq_true rfl) (Nat.le_of_ble_eq_true rfl) rfl h (x6_value 1220 (k := xz xs ((7 * (N : Int)) + 1)) (m := xz xs ((7 * (N : Int)) + 2)) (S := S) (C := C) (E := E) (M := M) (Cn := τ.1 10) hT h4.2.1 (kvh8x hX hT hK h.x.1 h.ob h.m.gda h.m.r7 hA) h.ob (xz_r _ _) (xz_r _ _) (by omega) h.x hK) (fun r T2 σ2 hp => by obtain ⟨v, -, hi, -⟩ := hp; exact hi) (fun r T2 σ2 sz2 n9 g hp => ?_)
  obtain ⟨v, rfl, hi, ht, hk, hq6, hk7, htg⟩ := hp
  show Wl b n0 xs 633 _ _ _ _ _ [.int (iI v)]
  refine wl_pop dL_law_633 rfl ?_
  refine wl_aload_n dL_law_634 rfl 1 rfl ?_
  refine wl_arg dL_law_635 dL_law_636 dL_law_637 dL_law_638 dL_law_639 ⟨by omega, by omega⟩ hn0 ?_
  refine wl_arg dL_law_640 dL_law_641 dL_law_642 dL_law_643 dL_law_644 ⟨by omega, by omega⟩ hn0 ?_
  refine wl_M (M' := m_X12_value) (ix := 74) (As := [.int (iI (xz xs ((7 * (N : Int)) + 1))), .int (iI (xz xs ((7 * (N : Int)) + 2)))]) (rest := []) dL_law_645 ok_X12_value im_X12_value se_X12_value mlL_74 np_X12_value rfl rfl (Nat.le_of_ble_eq_true rfl) (Nat.le_of_ble_eq_true rfl) rfl (Nat.le_trans h.top g.1) (h.free2 g) (h.room g hi) (m6_value 1220 (k := xz xs ((7 * (N : Int)) + 1)) (n := xz xs ((7 * (N : Int)) + 2)) (xz_r _ _) (xz_r _ _) (by omega) h.m (fun q9 a9 b9 => cdw_whb hW a9 b9) hS) (fun r τ2 hp => ?_)
  obtain ⟨v2, rfl, hj, hu, hm, hm6, hm7, hms, hm8⟩ := hp
  have hz := h.tape
  have h5 := h4.keep hk hm (by omega)
  have hkn := value8x hX hT hK h.x.1 h.ob h.m.gda h.m.par hW h.m.r7 hA hB hq6 hk7 hi.1 ((g.gt h.dom).ob h.ob) htg hms
  have h7 : L9 T2 σ2 τ2 a := ⟨⟨h5, q8_next hq6 hm6 hm.2.1 hA hB t6 (hX.quiet hk7 hm7 hm6 hm.2.1) hkn.2 hW hm8⟩, hI9.quiet hK hq6 hm6 hm.2.1 t6⟩
  show Wl b n0 xs 648 _ _ _ _ _ [.int (iI v2)]
  refine wl_pop dL_law_648 rfl ?_
  refine wl_goto (tgt := 796) dL_law_649 (by decide) ?_
  exact K _ _ _ _ _ _ (h.next g hi hj (by omega)) h7
theorem mlL_75 : Cond.methodLink RL 75 yX11_run ∈ pWW := pw6 (List.mem_of_getElem? (i := 159) rfl) rfl
theorem mlL_78 : Cond.methodLink RL 78 yX12_run ∈ pWW := pw10 (List.mem_of_getElem? (i := 69) rfl) rfl
theorem dL_law_652 : decode cL_law 652 = .ok (.aload_n 1, 1) := by decide +kernel
theorem dL_law_653 : decode cL_law 653 = .ok (.aload_n 0, 1) := by decide +kernel
theorem dL_law_654 : decode cL_law 654 = .ok (.iload_n 3, 1) := by decide +kernel
theorem dL_law_655 : decode cL_law 655 = .ok (.iconst 1, 1) := by decide +kernel
theorem dL_law_656 : decode cL_law 656 = .ok (.iadd, 1) := by decide +kernel
theorem dL_law_657 : decode cL_law 657 = .ok (.iaload, 1) := by decide +kernel
theorem dL_law_658 : decode cL_law 658 = .ok (.invokevirtual 75, 3) := by decide +kernel
theorem dL_law_661 : decode cL_law 661 = .ok (.pop, 1) := by decide +kernel
theorem dL_law_662 : decode cL_law 662 = .ok (.aload_n 2, 1) := by decide +kernel
theorem dL_law_663 : decode cL_law 663 = .ok (.aload_n 0, 1) := by decide +kernel
theorem dL_law_664 : decode cL_law 664 = .ok (.iload_n 3, 1) := by decide +kernel
theorem dL_law_665 : decode cL_law 665 = .ok (.iconst 1, 1) := by decide +kernel
theorem dL_law_666 : decode cL_law 666 = .ok (.iadd, 1) := by decide +kernel
theorem dL_law_667 : decode cL_law 667 = .ok (.iaload, 1) := by decide +kernel
theorem dL_law_668 : decode cL_law 668 = .ok (.invokevirtual 78, 3) := by decide +kernel
theorem dL_law_671 : decode cL_law 671 = .ok (.pop, 1) := by decide +kernel
theorem dL_law_672 : decode cL_law 672 = .ok (.goto 124, 3) := by decide +kernel
set_option maxHeartbeats 4000000 in
theorem law_14 {b n0 : Nat} {xs : Nat → Int32} {N a bm sz k n : Nat} {T : CT} {σ τ : MS} (h : LI N a bm sz k n T σ τ) (h6 : L9 T σ τ a) (hx : 7 * (N : Int) + 7 ≤ (n0 : Int)) (hn0 : n0 ≤ 3584) (K : ∀ sz2 k2 n2 T2 σ2 τ2, LI (N + 1) a bm sz2 k2 n2 T2 σ2 τ2 → L9 T2 σ2 τ2 a → Wl b n0 xs 796 (ovC T2 σ2 (ovM bm τ2 (fun _ => none))) sz2 k2 n2 (LL (7 * (N : Int)) bm a b) []) : Wl b n0 xs 652 (ovC T σ (ovM bm τ (fun _ => none))) sz k n (LL (7 * (N : Int)) bm a b) [] := by
  obtain ⟨⟨h4, S, C, E, M, hK, hA, hB, hX, hT, hW, hS⟩, hI9⟩ := h6
  have t6 : τ.1 10 ≤ 6 := h.m.gda.1.2
  refine wl_aload_n dL_law_652 rfl 2 rfl ?_
  refine wl_arg dL_law_653 dL_law_654 dL_law_655 dL_law_656 dL_law_657 ⟨by omega, by omega⟩ hn0 ?_
  refine wl_X (M' := m_X11_run) (ix := 75) (As := [.int (iI (xz xs ((7 * (N : Int)) + 1)))]) (rest := []) dL_law_658 ok_X11_run im_X11_run se_X11_run mlL_75 np_X11_run rfl rfl (Nat.le_of_ble_eq_true rfl) (Nat.le_of_ble_eq_true rfl) rfl h (x6_run 1220 (w := xz xs ((7 * (N : Int)) + 1)) (S := S) (C := C) (E := E) (M := M) (Cn := τ.1 10) hT h4.2.1 h.ob (xz_r _ _) (by omega) h.x hK) (fun r T2 σ2 hp => by obtain ⟨v, -, hi, -⟩ := hp; exact hi) (fun r T2 σ2 sz2 n9 g hp => ?_)
  obtain ⟨v, rfl, hi, ht, hk, hq6, hk7, hx7, htg⟩ := hp
  show Wl b n0 xs 661 _ _ _ _ _ [.int (iI v)]
  refine wl_pop dL_law_661 rfl ?_
  refine wl_aload_n dL_law_662 rfl 1 rfl ?_
  refine wl_arg dL_law_663 dL_law_664 dL_law_665 dL_law_666 dL_law_667 ⟨by omega, by omega⟩ hn0 ?_
  refine wl_M (M' := m_X12_run) (ix := 78) (As := [.int (iI (xz xs ((7 * (N : Int)) + 1)))]) (rest := []) dL_law_668 ok_X12_run im_X12_run se_X12_run mlL_78 np_X12_run rfl rfl (Nat.le_of_ble_eq_true rfl) (Nat.le_of_ble_eq_true rfl) rfl (Nat.le_trans h.top g.1) (h.free2 g) (h.room g hi) (m6_run 1220 (w := xz xs ((7 * (N : Int)) + 1)) (xz_r _ _) (by omega) h.m hS) (fun r τ2 hp => ?_)
  obtain ⟨v2, rfl, hj, hu, hm, hm6, hm7, hms, hm8⟩ := hp
  have hz := h.tape
  have h5 := h4.keep hk hm (by omega)
  have h7 : L9 T2 σ2 τ2 a := ⟨⟨h5, q8_next hq6 hm6 hm.2.1 hA hB t6 (hX.quiet hk7 hm7 hm6 hm.2.1) (tgk_ex htg) hW hm8⟩, hI9.quiet hK hq6 hm6 hm.2.1 t6⟩
  show Wl b n0 xs 671 _ _ _ _ _ [.int (iI v2)]
  refine wl_pop dL_law_671 rfl ?_
  refine wl_goto (tgt := 796) dL_law_672 (by decide) ?_
  exact K _ _ _ _ _ _ (h.next g hi hj (by omega)) h7
theorem mlL_79 : Cond.methodLink RL 79 yX11_printed ∈ pWW := pw6 (List.mem_of_getElem? (i := 164) rfl) rfl
theorem mlL_82 : Cond.methodLink RL 82 yX12_printed ∈ pWW := pw10 (List.mem_of_getElem? (i := 73) rfl) rfl
theorem dL_law_675 : decode cL_law 675 = .ok (.aload_n 1, 1) := by decide +kernel
theorem dL_law_676 : decode cL_law 676 = .ok (.aload_n 0, 1) := by decide +kernel
theorem dL_law_677 : decode cL_law 677 = .ok (.iload_n 3, 1) := by decide +kernel
theorem dL_law_678 : decode cL_law 678 = .ok (.iconst 1, 1) := by decide +kernel
theorem dL_law_679 : decode cL_law 679 = .ok (.iadd, 1) := by decide +kernel
theorem dL_law_680 : decode cL_law 680 = .ok (.iaload, 1) := by decide +kernel
theorem dL_law_681 : decode cL_law 681 = .ok (.invokevirtual 79, 3) := by decide +kernel
theorem dL_law_684 : decode cL_law 684 = .ok (.pop, 1) := by decide +kernel
theorem dL_law_685 : decode cL_law 685 = .ok (.aload_n 2, 1) := by decide +kernel
theorem dL_law_686 : decode cL_law 686 = .ok (.aload_n 0, 1) := by decide +kernel
theorem dL_law_687 : decode cL_law 687 = .ok (.iload_n 3, 1) := by decide +kernel
theorem dL_law_688 : decode cL_law 688 = .ok (.iconst 1, 1) := by decide +kernel
theorem dL_law_689 : decode cL_law 689 = .ok (.iadd, 1) := by decide +kernel
theorem dL_law_690 : decode cL_law 690 = .ok (.iaload, 1) := by decide +kernel
theorem dL_law_691 : decode cL_law 691 = .ok (.invokevirtual 82, 3) := by decide +kernel
theorem dL_law_694 : decode cL_law 694 = .ok (.pop, 1) := by decide +kernel
theorem dL_law_695 : decode cL_law 695 = .ok (.goto 101, 3) := by decide +kernel
set_option maxHeartbeats 4000000 in
theorem law_15 {b n0 : Nat} {xs : Nat → Int32} {N a bm sz k n : Nat} {T : CT} {σ τ : MS} (h : LI N a bm sz k n T σ τ) (h6 : L9 T σ τ a) (hx : 7 * (N : Int) + 7 ≤ (n0 : Int)) (hn0 : n0 ≤ 3584) (K : ∀ sz2 k2 n2 T2 σ2 τ2, LI (N + 1) a bm sz2 k2 n2 T2 σ2 τ2 → L9 T2 σ2 τ2 a → Wl b n0 xs 796 (ovC T2 σ2 (ovM bm τ2 (fun _ => none))) sz2 k2 n2 (LL (7 * (N : Int)) bm a b) []) : Wl b n0 xs 675 (ovC T σ (ovM bm τ (fun _ => none))) sz k n (LL (7 * (N : Int)) bm a b) [] := by
  obtain ⟨⟨h4, S, C, E, M, hK, hA, hB, hX, hT, hW, hS⟩, hI9⟩ := h6
  have t6 : τ.1 10 ≤ 6 := h.m.gda.1.2
  refine wl_aload_n dL_law_675 rfl 2 rfl ?_
  refine wl_arg dL_law_676 dL_law_677 dL_law_678 dL_law_679 dL_law_680 ⟨by omega, by omega⟩ hn0 ?_
  refine wl_X (M' := m_X11_printed) (ix := 79) (As := [.int (iI (xz xs ((7 * (N : Int)) + 1)))]) (rest := []) dL_law_681 ok_X11_printed im_X11_printed se_X11_printed mlL_79 np_X11_printed rfl rfl (Nat.le_of_ble_eq_true rfl) (Nat.le_of_ble_eq_true rfl) rfl h (x6_printed 1220 (i := xz xs ((7 * (N : Int)) + 1)) (S := S) (C := C) (E := E) (M := M) (Cn := τ.1 10) hT h4.2.1 h.ob (xz_r _ _) (by omega) h.x hK) (fun r T2 σ2 hp => by obtain ⟨v, -, hi, -⟩ := hp; exact hi) (fun r T2 σ2 sz2 n9 g hp => ?_)
  obtain ⟨v, rfl, hi, ht, hk, hq6, hk7, hx7, htg⟩ := hp
  show Wl b n0 xs 684 _ _ _ _ _ [.int (iI v)]
  refine wl_pop dL_law_684 rfl ?_
  refine wl_aload_n dL_law_685 rfl 1 rfl ?_
  refine wl_arg dL_law_686 dL_law_687 dL_law_688 dL_law_689 dL_law_690 ⟨by omega, by omega⟩ hn0 ?_
  refine wl_M (M' := m_X12_printed) (ix := 82) (As := [.int (iI (xz xs ((7 * (N : Int)) + 1)))]) (rest := []) dL_law_691 ok_X12_printed im_X12_printed se_X12_printed mlL_82 np_X12_printed rfl rfl (Nat.le_of_ble_eq_true rfl) (Nat.le_of_ble_eq_true rfl) rfl (Nat.le_trans h.top g.1) (h.free2 g) (h.room g hi) (m6_printed 1220 (x := xz xs ((7 * (N : Int)) + 1)) (xz_r _ _) (by omega) h.m hS) (fun r τ2 hp => ?_)
  obtain ⟨v2, rfl, hj, hu, hm, hm6, hm7, hms, hm8⟩ := hp
  have hz := h.tape
  have h5 := h4.keep hk hm (by omega)
  have h7 : L9 T2 σ2 τ2 a := ⟨⟨h5, q8_next hq6 hm6 hm.2.1 hA hB t6 (hX.quiet hk7 hm7 hm6 hm.2.1) (tgk_ex htg) hW hm8⟩, hI9.quiet hK hq6 hm6 hm.2.1 t6⟩
  show Wl b n0 xs 694 _ _ _ _ _ [.int (iI v2)]
  refine wl_pop dL_law_694 rfl ?_
  refine wl_goto (tgt := 796) dL_law_695 (by decide) ?_
  exact K _ _ _ _ _ _ (h.next g hi hj (by omega)) h7
theorem mlL_83 : Cond.methodLink RL 83 yX11_beside ∈ pWW := pw6 (List.mem_of_getElem? (i := 168) rfl) rfl
theorem mlL_87 : Cond.methodLink RL 87 yX12_beside ∈ pWW := pw10 (List.mem_of_getElem? (i := 77) rfl) rfl
theorem dL_law_698 : decode cL_law 698 = .ok (.aload_n 1, 1) := by decide +kernel
theorem dL_law_699 : decode cL_law 699 = .ok (.aload_n 0, 1) := by decide +kernel
theorem dL_law_700 : decode cL_law 700 = .ok (.iload_n 3, 1) := by decide +kernel
theorem dL_law_701 : decode cL_law 701 = .ok (.iconst 1, 1) := by decide +kernel
theorem dL_law_702 : decode cL_law 702 = .ok (.iadd, 1) := by decide +kernel
theorem dL_law_703 : decode cL_law 703 = .ok (.iaload, 1) := by decide +kernel
theorem dL_law_704 : decode cL_law 704 = .ok (.aload_n 0, 1) := by decide +kernel
theorem dL_law_705 : decode cL_law 705 = .ok (.iload_n 3, 1) := by decide +kernel
theorem dL_law_706 : decode cL_law 706 = .ok (.iconst 2, 1) := by decide +kernel
theorem dL_law_707 : decode cL_law 707 = .ok (.iadd, 1) := by decide +kernel
theorem dL_law_708 : decode cL_law 708 = .ok (.iaload, 1) := by decide +kernel
theorem dL_law_709 : decode cL_law 709 = .ok (.aload_n 0, 1) := by decide +kernel
theorem dL_law_710 : decode cL_law 710 = .ok (.iload_n 3, 1) := by decide +kernel
theorem dL_law_711 : decode cL_law 711 = .ok (.iconst 3, 1) := by decide +kernel
theorem dL_law_712 : decode cL_law 712 = .ok (.iadd, 1) := by decide +kernel
theorem dL_law_713 : decode cL_law 713 = .ok (.iaload, 1) := by decide +kernel
theorem dL_law_714 : decode cL_law 714 = .ok (.aload_n 0, 1) := by decide +kernel
theorem dL_law_715 : decode cL_law 715 = .ok (.iload_n 3, 1) := by decide +kernel
theorem dL_law_716 : decode cL_law 716 = .ok (.iconst 4, 1) := by decide +kernel
theorem dL_law_717 : decode cL_law 717 = .ok (.iadd, 1) := by decide +kernel
theorem dL_law_718 : decode cL_law 718 = .ok (.iaload, 1) := by decide +kernel
theorem dL_law_719 : decode cL_law 719 = .ok (.aload_n 0, 1) := by decide +kernel
theorem dL_law_720 : decode cL_law 720 = .ok (.iload_n 3, 1) := by decide +kernel
theorem dL_law_721 : decode cL_law 721 = .ok (.iconst 5, 1) := by decide +kernel
theorem dL_law_722 : decode cL_law 722 = .ok (.iadd, 1) := by decide +kernel
theorem dL_law_723 : decode cL_law 723 = .ok (.iaload, 1) := by decide +kernel
theorem dL_law_724 : decode cL_law 724 = .ok (.aload_n 0, 1) := by decide +kernel
theorem dL_law_725 : decode cL_law 725 = .ok (.iload_n 3, 1) := by decide +kernel
theorem dL_law_726 : decode cL_law 726 = .ok (.bipush 6, 2) := by decide +kernel
theorem dL_law_728 : decode cL_law 728 = .ok (.iadd, 1) := by decide +kernel
theorem dL_law_729 : decode cL_law 729 = .ok (.iaload, 1) := by decide +kernel
theorem dL_law_730 : decode cL_law 730 = .ok (.invokevirtual 83, 3) := by decide +kernel
theorem dL_law_733 : decode cL_law 733 = .ok (.aload_n 2, 1) := by decide +kernel
theorem dL_law_734 : decode cL_law 734 = .ok (.aload_n 0, 1) := by decide +kernel
theorem dL_law_735 : decode cL_law 735 = .ok (.iload_n 3, 1) := by decide +kernel
theorem dL_law_736 : decode cL_law 736 = .ok (.iconst 1, 1) := by decide +kernel
theorem dL_law_737 : decode cL_law 737 = .ok (.iadd, 1) := by decide +kernel
theorem dL_law_738 : decode cL_law 738 = .ok (.iaload, 1) := by decide +kernel
theorem dL_law_739 : decode cL_law 739 = .ok (.aload_n 0, 1) := by decide +kernel
theorem dL_law_740 : decode cL_law 740 = .ok (.iload_n 3, 1) := by decide +kernel
theorem dL_law_741 : decode cL_law 741 = .ok (.iconst 2, 1) := by decide +kernel
theorem dL_law_742 : decode cL_law 742 = .ok (.iadd, 1) := by decide +kernel
theorem dL_law_743 : decode cL_law 743 = .ok (.iaload, 1) := by decide +kernel
theorem dL_law_744 : decode cL_law 744 = .ok (.aload_n 0, 1) := by decide +kernel
theorem dL_law_745 : decode cL_law 745 = .ok (.iload_n 3, 1) := by decide +kernel
theorem dL_law_746 : decode cL_law 746 = .ok (.iconst 3, 1) := by decide +kernel
theorem dL_law_747 : decode cL_law 747 = .ok (.iadd, 1) := by decide +kernel
theorem dL_law_748 : decode cL_law 748 = .ok (.iaload, 1) := by decide +kernel
theorem dL_law_749 : decode cL_law 749 = .ok (.aload_n 0, 1) := by decide +kernel
theorem dL_law_750 : decode cL_law 750 = .ok (.iload_n 3, 1) := by decide +kernel
theorem dL_law_751 : decode cL_law 751 = .ok (.iconst 4, 1) := by decide +kernel
theorem dL_law_752 : decode cL_law 752 = .ok (.iadd, 1) := by decide +kernel
theorem dL_law_753 : decode cL_law 753 = .ok (.iaload, 1) := by decide +kernel
theorem dL_law_754 : decode cL_law 754 = .ok (.aload_n 0, 1) := by decide +kernel
theorem dL_law_755 : decode cL_law 755 = .ok (.iload_n 3, 1) := by decide +kernel
theorem dL_law_756 : decode cL_law 756 = .ok (.iconst 5, 1) := by decide +kernel
theorem dL_law_757 : decode cL_law 757 = .ok (.iadd, 1) := by decide +kernel
theorem dL_law_758 : decode cL_law 758 = .ok (.iaload, 1) := by decide +kernel
theorem dL_law_759 : decode cL_law 759 = .ok (.aload_n 0, 1) := by decide +kernel
theorem dL_law_760 : decode cL_law 760 = .ok (.iload_n 3, 1) := by decide +kernel
theorem dL_law_761 : decode cL_law 761 = .ok (.bipush 6, 2) := by decide +kernel
theorem dL_law_763 : decode cL_law 763 = .ok (.iadd, 1) := by decide +kernel
theorem dL_law_764 : decode cL_law 764 = .ok (.iaload, 1) := by decide +kernel
theorem dL_law_765 : decode cL_law 765 = .ok (.invokevirtual 87, 3) := by decide +kernel
theorem dL_law_768 : decode cL_law 768 = .ok (.if_icmp .eq 28, 3) := by decide +kernel
set_option maxHeartbeats 4000000 in
theorem law_16 {b n0 : Nat} {xs : Nat → Int32} {N a bm sz k n : Nat} {T : CT} {σ τ : MS} (h : LI N a bm sz k n T σ τ) (h6 : L9 T σ τ a) (hx : 7 * (N : Int) + 7 ≤ (n0 : Int)) (hn0 : n0 ≤ 3584) (K : ∀ sz2 k2 n2 T2 σ2 τ2, LI (N + 1) a bm sz2 k2 n2 T2 σ2 τ2 → L9 T2 σ2 τ2 a → Wl b n0 xs 796 (ovC T2 σ2 (ovM bm τ2 (fun _ => none))) sz2 k2 n2 (LL (7 * (N : Int)) bm a b) []) : Wl b n0 xs 698 (ovC T σ (ovM bm τ (fun _ => none))) sz k n (LL (7 * (N : Int)) bm a b) [] := by
  obtain ⟨⟨h4, S, C, E, M, hK, hA, hB, hX, hT, hW, hS⟩, hI9⟩ := h6
  have t6 : τ.1 10 ≤ 6 := h.m.gda.1.2
  refine wl_aload_n dL_law_698 rfl 2 rfl ?_
  refine wl_arg dL_law_699 dL_law_700 dL_law_701 dL_law_702 dL_law_703 ⟨by omega, by omega⟩ hn0 ?_
  refine wl_arg dL_law_704 dL_law_705 dL_law_706 dL_law_707 dL_law_708 ⟨by omega, by omega⟩ hn0 ?_
  refine wl_arg dL_law_709 dL_law_710 dL_law_711 dL_law_712 dL_law_713 ⟨by omega, by omega⟩ hn0 ?_
  refine wl_arg dL_law_714 dL_law_715 dL_law_716 dL_law_717 dL_law_718 ⟨by omega, by omega⟩ hn0 ?_
  refine wl_arg dL_law_719 dL_law_720 dL_law_721 dL_law_722 dL_law_723 ⟨by omega, by omega⟩ hn0 ?_
  refine wl_arg6 dL_law_724 dL_law_725 dL_law_726 (by decide) dL_law_728 dL_law_729 ⟨by omega, by omega⟩ hn0 ?_
  refine wl_X (M' := m_X11_beside) (ix := 83) (As := [.int (iI (xz xs ((7 * (N : Int)) + 1))), .int (iI (xz xs ((7 * (N : Int)) + 2))), .int (iI (xz xs ((7 * (N : Int)) + 3))), .int (iI (xz xs ((7 * (N : Int)) + 4))), .int (iI (xz xs ((7 * (N : Int)) + 5))), .int (iI (xz xs ((7 * (N : Int)) + 6)))]) (rest := []) dL_law_730 ok_X11_beside im_X11_beside se_X11_beside mlL_83 np_X11_beside rfl rfl (Nat.le_of_ble_eq_true rfl) (Nat.le_of_ble_eq_true rfl) rfl h (x6_beside 1220 (r := xz xs ((7 * (N : Int)) + 1)) (p := xz xs ((7 * (N : Int)) + 2)) (q := xz xs ((7 * (N : Int)) + 3)) (s := xz xs ((7 * (N : Int)) + 4)) (t := xz xs ((7 * (N : Int)) + 5)) (n := xz xs ((7 * (N : Int)) + 6)) (S := S) (C := C) (E := E) (M := M) (Cn := τ.1 10) hT h4.2.1 hI9.2.1 h.ob (xz_r _ _) (xz_r _ _) (xz_r _ _) (xz_r _ _) (xz_r _ _) (xz_r _ _) (by omega) h.x hK) (fun r T2 σ2 hp => by obtain ⟨v, -, hi, -⟩ := hp; exact hi) (fun r T2 σ2 sz2 n9 g hp => ?_)
  obtain ⟨v, rfl, hi, ht, hk, hq6, hk7, htg⟩ := hp
  show Wl b n0 xs 733 _ _ _ _ _ [.int (iI v)]
  refine wl_aload_n dL_law_733 rfl 1 rfl ?_
  refine wl_arg dL_law_734 dL_law_735 dL_law_736 dL_law_737 dL_law_738 ⟨by omega, by omega⟩ hn0 ?_
  refine wl_arg dL_law_739 dL_law_740 dL_law_741 dL_law_742 dL_law_743 ⟨by omega, by omega⟩ hn0 ?_
  refine wl_arg dL_law_744 dL_law_745 dL_law_746 dL_law_747 dL_law_748 ⟨by omega, by omega⟩ hn0 ?_
  refine wl_arg dL_law_749 dL_law_750 dL_law_751 dL_law_752 dL_law_753 ⟨by omega, by omega⟩ hn0 ?_
  refine wl_arg dL_law_754 dL_law_755 dL_law_756 dL_law_757 dL_law_758 ⟨by omega, by omega⟩ hn0 ?_
  refine wl_arg6 dL_law_759 dL_law_760 dL_law_761 (by decide) dL_law_763 dL_law_764 ⟨by omega, by omega⟩ hn0 ?_
  refine wl_M (M' := m_X12_beside) (ix := 87) (As := [.int (iI (xz xs ((7 * (N : Int)) + 1))), .int (iI (xz xs ((7 * (N : Int)) + 2))), .int (iI (xz xs ((7 * (N : Int)) + 3))), .int (iI (xz xs ((7 * (N : Int)) + 4))), .int (iI (xz xs ((7 * (N : Int)) + 5))), .int (iI (xz xs ((7 * (N : Int)) + 6)))]) (rest := [.int (iI v)]) dL_law_765 ok_X12_beside im_X12_beside se_X12_beside mlL_87 np_X12_beside rfl rfl (Nat.le_of_ble_eq_true rfl) (Nat.le_of_ble_eq_true rfl) rfl (Nat.le_trans h.top g.1) (h.free2 g) (h.room g hi) (m6_beside 1220 (x := xz xs ((7 * (N : Int)) + 1)) (a1 := xz xs ((7 * (N : Int)) + 2)) (a2 := xz xs ((7 * (N : Int)) + 3)) (a3 := xz xs ((7 * (N : Int)) + 4)) (a4 := xz xs ((7 * (N : Int)) + 5)) (ln := xz xs ((7 * (N : Int)) + 6)) (xz_r _ _) (xz_r _ _) (xz_r _ _) (xz_r _ _) (xz_r _ _) (xz_r _ _) (by omega) h.m (fun q9 a9 b9 => cdw_whb hW a9 b9) hS) (fun r τ2 hp => ?_)
  obtain ⟨v2, rfl, hj, hu, hm, hm6, hm7, hms, hm8⟩ := hp
  have hz := h.tape
  have h5 := h4.keep hk hm (by omega)
  have h7 : L9 T2 σ2 τ2 a := ⟨⟨h5, q8_next hq6 hm6 hm.2.1 hA hB t6 (hX.quiet hk7 hm7 hm6 hm.2.1) htg.1 hW hm8⟩, hI9.quiet hK hq6 hm6 hm.2.1 t6⟩
  show Wl b n0 xs 768 _ _ _ _ _ [.int (iI v2), .int (iI v)]
  obtain rfl := beside9 hI9 hK hA hB hX.1 h.m.gda h.m.par h.m.nam h.m.pla.1 hW htg.2 hms
  exact wl_same (tgt := 796) dL_law_768 (by decide) (K _ _ _ _ _ _ (h.next g hi hj (by omega)) h7)
theorem mlL_88 : Cond.methodLink RL 88 yX11_compared ∈ pWW := pw6 (List.mem_of_getElem? (i := 234) rfl) rfl
theorem mlL_91 : Cond.methodLink RL 91 yX12_compared ∈ pWW := pw10 (List.mem_of_getElem? (i := 89) rfl) rfl
theorem dL_law_773 : decode cL_law 773 = .ok (.aload_n 1, 1) := by decide +kernel
theorem dL_law_774 : decode cL_law 774 = .ok (.aload_n 0, 1) := by decide +kernel
theorem dL_law_775 : decode cL_law 775 = .ok (.iload_n 3, 1) := by decide +kernel
theorem dL_law_776 : decode cL_law 776 = .ok (.iconst 1, 1) := by decide +kernel
theorem dL_law_777 : decode cL_law 777 = .ok (.iadd, 1) := by decide +kernel
theorem dL_law_778 : decode cL_law 778 = .ok (.iaload, 1) := by decide +kernel
theorem dL_law_779 : decode cL_law 779 = .ok (.invokevirtual 88, 3) := by decide +kernel
theorem dL_law_782 : decode cL_law 782 = .ok (.pop, 1) := by decide +kernel
theorem dL_law_783 : decode cL_law 783 = .ok (.aload_n 2, 1) := by decide +kernel
theorem dL_law_784 : decode cL_law 784 = .ok (.aload_n 0, 1) := by decide +kernel
theorem dL_law_785 : decode cL_law 785 = .ok (.iload_n 3, 1) := by decide +kernel
theorem dL_law_786 : decode cL_law 786 = .ok (.iconst 1, 1) := by decide +kernel
theorem dL_law_787 : decode cL_law 787 = .ok (.iadd, 1) := by decide +kernel
theorem dL_law_788 : decode cL_law 788 = .ok (.iaload, 1) := by decide +kernel
theorem dL_law_789 : decode cL_law 789 = .ok (.invokevirtual 91, 3) := by decide +kernel
theorem dL_law_792 : decode cL_law 792 = .ok (.pop, 1) := by decide +kernel
theorem dL_law_793 : decode cL_law 793 = .ok (.goto 3, 3) := by decide +kernel
set_option maxHeartbeats 4000000 in
theorem law_17 {b n0 : Nat} {xs : Nat → Int32} {N a bm sz k n : Nat} {T : CT} {σ τ : MS} (h : LI N a bm sz k n T σ τ) (h6 : L9 T σ τ a) (hx : 7 * (N : Int) + 7 ≤ (n0 : Int)) (hn0 : n0 ≤ 3584) (K : ∀ sz2 k2 n2 T2 σ2 τ2, LI (N + 1) a bm sz2 k2 n2 T2 σ2 τ2 → L9 T2 σ2 τ2 a → Wl b n0 xs 796 (ovC T2 σ2 (ovM bm τ2 (fun _ => none))) sz2 k2 n2 (LL (7 * (N : Int)) bm a b) []) : Wl b n0 xs 773 (ovC T σ (ovM bm τ (fun _ => none))) sz k n (LL (7 * (N : Int)) bm a b) [] := by
  obtain ⟨⟨h4, S, C, E, M, hK, hA, hB, hX, hT, hW, hS⟩, hI9⟩ := h6
  have t6 : τ.1 10 ≤ 6 := h.m.gda.1.2
  refine wl_aload_n dL_law_773 rfl 2 rfl ?_
  refine wl_arg dL_law_774 dL_law_775 dL_law_776 dL_law_777 dL_law_778 ⟨by omega, by omega⟩ hn0 ?_
  refine wl_X (M' := m_X11_compared) (ix := 88) (As := [.int (iI (xz xs ((7 * (N : Int)) + 1)))]) (rest := []) dL_law_779 ok_X11_compared im_X11_compared se_X11_compared mlL_88 np_X11_compared rfl rfl (Nat.le_of_ble_eq_true rfl) (Nat.le_of_ble_eq_true rfl) rfl h (x6_compared 1220 (w := xz xs ((7 * (N : Int)) + 1)) (S := S) (C := C) (E := E) (M := M) (Cn := τ.1 10) hT h4.2.1 h.ob (xz_r _ _) (by omega) h.x hK) (fun r T2 σ2 hp => by obtain ⟨v, -, hi, -⟩ := hp; exact hi) (fun r T2 σ2 sz2 n9 g hp => ?_)
  obtain ⟨v, rfl, hi, ht, hk, hq6, hk7, htg⟩ := hp
  show Wl b n0 xs 782 _ _ _ _ _ [.int (iI v)]
  refine wl_pop dL_law_782 rfl ?_
  refine wl_aload_n dL_law_783 rfl 1 rfl ?_
  refine wl_arg dL_law_784 dL_law_785 dL_law_786 dL_law_787 dL_law_788 ⟨by omega, by omega⟩ hn0 ?_
  refine wl_M (M' := m_X12_compared) (ix := 91) (As := [.int (iI (xz xs ((7 * (N : Int)) + 1)))]) (rest := []) dL_law_789 ok_X12_compared im_X12_compared se_X12_compared mlL_91 np_X12_compared rfl rfl (Nat.le_of_ble_eq_true rfl) (Nat.le_of_ble_eq_true rfl) rfl (Nat.le_trans h.top g.1) (h.free2 g) (h.room g hi) (m6_compared 1220 (x := xz xs ((7 * (N : Int)) + 1)) (xz_r _ _) (by omega) h.m hS) (fun r τ2 hp => ?_)
  obtain ⟨v2, rfl, hj, hu, hm, hm6, hm7, hm8⟩ := hp
  have hz := h.tape
  have h5 := h4.keep hk hm (by omega)
  have h7 : L9 T2 σ2 τ2 a := ⟨⟨h5, q8_next hq6 hm6 hm.2.1 hA hB t6 (hX.quiet hk7 hm7 hm6 hm.2.1) (tgk_ex htg) hW hm8⟩, hI9.quiet hK hq6 hm6 hm.2.1 t6⟩
  show Wl b n0 xs 792 _ _ _ _ _ [.int (iI v2)]
  refine wl_pop dL_law_792 rfl ?_
  refine wl_goto (tgt := 796) dL_law_793 (by decide) ?_
  exact K _ _ _ _ _ _ (h.next g hi hj (by omega)) h7
