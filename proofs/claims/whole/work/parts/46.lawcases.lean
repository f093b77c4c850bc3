set_option maxHeartbeats 4000000 in
set_option maxRecDepth 100000 in
theorem w_law_c0 {p : Program} {l : Launch} {e : Env} {s : State} {m : MethodId} {below : List Frame} {meth : Method} {c : Code} {Q : State → Prop} {D1 D2 : va_G} {aa bb : Nat → Nat → Nat} {q1 q2 : Nat → ClassId} {b L : Nat} {xs : Nat → Int32} (S : CallFix p m c bc_W_law 4 s #[Value.ref b] lw_g bR_W) (hX : va_X b L xs s s.heap) (hbl : b < s.heap.size) (hL : L ≤ 2560) (hJ1 : wJ kC aa) (hJ2 : wJ mC bb) (hw1 : ∀ x, wA kC aa x → s.heap.size ≤ x) (hw2 : ∀ x, wA mC bb x → s.heap.size ≤ x) (hdj : ∀ x, wA mC bb x → ¬ wA kC aa x) (hK1 : va_K D1 kCl (kT q1) s) (hK2 : va_K D2 mCl (mT q2) s) {k : Nat} (hk : 5 * k + 5 ≤ L) {σ τ : kS} {H : Heap} {locs : List Loc} {ls : Array Slot} (hl : lv_has ls 4 [(3, .int (nI (5 * k))), (2, .ref (bb 0 0)), (1, .ref (aa 0 0)), (0, .ref b)]) (hP1 : va_P D1 kCl (kW aa q1 σ) H) (hP2 : va_P D2 mCl (mW bb q2 τ) H) (hS : va_S (fun x => s.heap.size ≤ x) s.heap H locs) {r0 : Int32} {σ1 τ1 : kS} (hF : F_K_process σ (xs (5 * k + 1)) (xs (5 * k + 2)) (xs (5 * k + 3)) = some (r0, σ1)) (hG : F_M_process τ (xs (5 * k + 1)) (xs (5 * k + 2)) (xs (5 * k + 3)) = some (r0, τ1)) (kk : ∀ (H : Heap) (locs : List Loc), va_P D1 kCl (kW aa q1 σ1) H → va_P D2 mCl (mW bb q2 τ1) H → va_S (fun x => s.heap.size ≤ x) s.heap H locs → W p l e room_1 s m #[Value.ref b] below meth c H locs 108 1465 Q (F0 m 728 ls [])) : W p l e room_1 s m #[Value.ref b] below meth c H locs 108 1465 Q (F0 m 128 ls []) := by
  obtain ⟨hx, hb, hml, hown, ht⟩ := id S
  refine lv_aload_n hx hb de_W_law_128 rfl (lv_at hl 2 rfl) ?_
  refine lv_aload_n hx hb de_W_law_129 rfl (lv_at hl 3 rfl) ?_
  refine lv_iload_n hx hb de_W_law_130 rfl (lv_at hl 0 rfl) ?_
  refine lv_iconst (v := 1) hx hb de_W_law_131 (by decide) ?_
  refine lv_iadd hx hb de_W_law_132 ?_
  rw [show nI (5 * k) + 1 = nI (5 * k + 1) from nI_add (5 * k) 1]
  refine l_sld hx hb hX hbl hS (show 5 * k + 1 < L by omega) (by omega) de_W_law_133 ?_
  refine lv_aload_n hx hb de_W_law_134 rfl (lv_at hl 3 rfl) ?_
  refine lv_iload_n hx hb de_W_law_135 rfl (lv_at hl 0 rfl) ?_
  refine lv_iconst (v := 2) hx hb de_W_law_136 (by decide) ?_
  refine lv_iadd hx hb de_W_law_137 ?_
  rw [show nI (5 * k) + 2 = nI (5 * k + 2) from nI_add (5 * k) 2]
  refine l_sld hx hb hX hbl hS (show 5 * k + 2 < L by omega) (by omega) de_W_law_138 ?_
  refine lv_aload_n hx hb de_W_law_139 rfl (lv_at hl 3 rfl) ?_
  refine lv_iload_n hx hb de_W_law_140 rfl (lv_at hl 0 rfl) ?_
  refine lv_iconst (v := 3) hx hb de_W_law_141 (by decide) ?_
  refine lv_iadd hx hb de_W_law_142 ?_
  rw [show nI (5 * k) + 3 = nI (5 * k + 3) from nI_add (5 * k) 3]
  refine l_sld hx hb hX hbl hS (show 5 * k + 3 < L by omega) (by omega) de_W_law_143 ?_
  refine lk_i (va_runV (As := [.int (xs (5 * k + 1)), .int (xs (5 * k + 2)), .int (xs (5 * k + 3))]) (rest := []) S (c_K_process l D1 aa q1 hJ1 σ (xs (5 * k + 1)) (xs (5 * k + 2)) (xs (5 * k + 3)) (r0, σ1) hF) (cwV 3 ht (gv_in tw_1_199 tw_1_200 tw_1_201 tw_1_1 tc_K_process) rfl rfl rfl bh_K_process ⟨Nat.le_of_ble_eq_true rfl, Nat.le_of_ble_eq_true rfl⟩) (kpreV hK1 hP1 (kr_0 hK1 hP1 (by decide))) rfl rfl hl.1 rfl (lv_room (Nat.le_of_ble_eq_true rfl)) de_W_law_144 ⟨(Nat.le_of_ble_eq_true rfl), (Nat.le_of_ble_eq_true rfl)⟩) hS hw1 hP2 hdj (fun H locs hP1 hP2 hS => ?_)
  refine lv_aload_n hx hb de_W_law_147 rfl (lv_at hl 1 rfl) ?_
  refine lv_aload_n hx hb de_W_law_148 rfl (lv_at hl 3 rfl) ?_
  refine lv_iload_n hx hb de_W_law_149 rfl (lv_at hl 0 rfl) ?_
  refine lv_iconst (v := 1) hx hb de_W_law_150 (by decide) ?_
  refine lv_iadd hx hb de_W_law_151 ?_
  rw [show nI (5 * k) + 1 = nI (5 * k + 1) from nI_add (5 * k) 1]
  refine l_sld hx hb hX hbl hS (show 5 * k + 1 < L by omega) (by omega) de_W_law_152 ?_
  refine lv_aload_n hx hb de_W_law_153 rfl (lv_at hl 3 rfl) ?_
  refine lv_iload_n hx hb de_W_law_154 rfl (lv_at hl 0 rfl) ?_
  refine lv_iconst (v := 2) hx hb de_W_law_155 (by decide) ?_
  refine lv_iadd hx hb de_W_law_156 ?_
  rw [show nI (5 * k) + 2 = nI (5 * k + 2) from nI_add (5 * k) 2]
  refine l_sld hx hb hX hbl hS (show 5 * k + 2 < L by omega) (by omega) de_W_law_157 ?_
  refine lv_aload_n hx hb de_W_law_158 rfl (lv_at hl 3 rfl) ?_
  refine lv_iload_n hx hb de_W_law_159 rfl (lv_at hl 0 rfl) ?_
  refine lv_iconst (v := 3) hx hb de_W_law_160 (by decide) ?_
  refine lv_iadd hx hb de_W_law_161 ?_
  rw [show nI (5 * k) + 3 = nI (5 * k + 3) from nI_add (5 * k) 3]
  refine l_sld hx hb hX hbl hS (show 5 * k + 3 < L by omega) (by omega) de_W_law_162 ?_
  refine lm_i (va_runV (As := [.int (xs (5 * k + 1)), .int (xs (5 * k + 2)), .int (xs (5 * k + 3))]) (rest := [.int r0]) S (c_M_process l D2 bb q2 hJ2 τ (xs (5 * k + 1)) (xs (5 * k + 2)) (xs (5 * k + 3)) (r0, τ1) hG) (cwV 3 ht (gv_in tw_3_59 tw_3_60 tw_3_61 tw_1_7 tc_M_process) rfl rfl rfl bh_M_process ⟨Nat.le_of_ble_eq_true rfl, Nat.le_of_ble_eq_true rfl⟩) (mpreV hK2 hP2 (mr_0 hK2 hP2 (by decide))) rfl rfl hl.1 rfl (lv_room (Nat.le_of_ble_eq_true rfl)) de_W_law_163 ⟨(Nat.le_of_ble_eq_true rfl), (Nat.le_of_ble_eq_true rfl)⟩) hS hw2 hP1 (fun x h1 h2 => hdj x h2 h1) (fun H locs hP2 hP1 hS => ?_)
  refine lv_icmp_eq (tgt := 728) hx hb de_W_law_166 (by decide) (fun hc => ?_) (fun hc => ?_)
  · exact kk H locs hP1 hP2 hS
  · exact absurd rfl hc
set_option maxHeartbeats 4000000 in
set_option maxRecDepth 100000 in
theorem w_law_c1 {p : Program} {l : Launch} {e : Env} {s : State} {m : MethodId} {below : List Frame} {meth : Method} {c : Code} {Q : State → Prop} {D1 D2 : va_G} {aa bb : Nat → Nat → Nat} {q1 q2 : Nat → ClassId} {b L : Nat} {xs : Nat → Int32} (S : CallFix p m c bc_W_law 4 s #[Value.ref b] lw_g bR_W) (hX : va_X b L xs s s.heap) (hbl : b < s.heap.size) (hL : L ≤ 2560) (hJ1 : wJ kC aa) (hJ2 : wJ mC bb) (hw1 : ∀ x, wA kC aa x → s.heap.size ≤ x) (hw2 : ∀ x, wA mC bb x → s.heap.size ≤ x) (hdj : ∀ x, wA mC bb x → ¬ wA kC aa x) (hK1 : va_K D1 kCl (kT q1) s) (hK2 : va_K D2 mCl (mT q2) s) {k : Nat} (hk : 5 * k + 5 ≤ L) {σ τ : kS} {H : Heap} {locs : List Loc} {ls : Array Slot} (hl : lv_has ls 4 [(3, .int (nI (5 * k))), (2, .ref (bb 0 0)), (1, .ref (aa 0 0)), (0, .ref b)]) (hP1 : va_P D1 kCl (kW aa q1 σ) H) (hP2 : va_P D2 mCl (mW bb q2 τ) H) (hS : va_S (fun x => s.heap.size ≤ x) s.heap H locs) {r0 : Int32} {σ1 τ1 : kS} (hF : F_K_instruct σ (xs (5 * k + 1)) (xs (5 * k + 2)) (xs (5 * k + 3)) (xs (5 * k + 4)) = some (r0, σ1)) (hG : F_M_instruct τ (xs (5 * k + 1)) (xs (5 * k + 2)) (xs (5 * k + 3)) (xs (5 * k + 4)) = some (r0, τ1)) (kk : ∀ (H : Heap) (locs : List Loc), va_P D1 kCl (kW aa q1 σ1) H → va_P D2 mCl (mW bb q2 τ1) H → va_S (fun x => s.heap.size ≤ x) s.heap H locs → W p l e room_1 s m #[Value.ref b] below meth c H locs 108 1465 Q (F0 m 728 ls [])) : W p l e room_1 s m #[Value.ref b] below meth c H locs 108 1465 Q (F0 m 171 ls []) := by
  obtain ⟨hx, hb, hml, hown, ht⟩ := id S
  refine lv_aload_n hx hb de_W_law_171 rfl (lv_at hl 2 rfl) ?_
  refine lv_aload_n hx hb de_W_law_172 rfl (lv_at hl 3 rfl) ?_
  refine lv_iload_n hx hb de_W_law_173 rfl (lv_at hl 0 rfl) ?_
  refine lv_iconst (v := 1) hx hb de_W_law_174 (by decide) ?_
  refine lv_iadd hx hb de_W_law_175 ?_
  rw [show nI (5 * k) + 1 = nI (5 * k + 1) from nI_add (5 * k) 1]
  refine l_sld hx hb hX hbl hS (show 5 * k + 1 < L by omega) (by omega) de_W_law_176 ?_
  refine lv_aload_n hx hb de_W_law_177 rfl (lv_at hl 3 rfl) ?_
  refine lv_iload_n hx hb de_W_law_178 rfl (lv_at hl 0 rfl) ?_
  refine lv_iconst (v := 2) hx hb de_W_law_179 (by decide) ?_
  refine lv_iadd hx hb de_W_law_180 ?_
  rw [show nI (5 * k) + 2 = nI (5 * k + 2) from nI_add (5 * k) 2]
  refine l_sld hx hb hX hbl hS (show 5 * k + 2 < L by omega) (by omega) de_W_law_181 ?_
  refine lv_aload_n hx hb de_W_law_182 rfl (lv_at hl 3 rfl) ?_
  refine lv_iload_n hx hb de_W_law_183 rfl (lv_at hl 0 rfl) ?_
  refine lv_iconst (v := 3) hx hb de_W_law_184 (by decide) ?_
  refine lv_iadd hx hb de_W_law_185 ?_
  rw [show nI (5 * k) + 3 = nI (5 * k + 3) from nI_add (5 * k) 3]
  refine l_sld hx hb hX hbl hS (show 5 * k + 3 < L by omega) (by omega) de_W_law_186 ?_
  refine lv_aload_n hx hb de_W_law_187 rfl (lv_at hl 3 rfl) ?_
  refine lv_iload_n hx hb de_W_law_188 rfl (lv_at hl 0 rfl) ?_
  refine lv_iconst (v := 4) hx hb de_W_law_189 (by decide) ?_
  refine lv_iadd hx hb de_W_law_190 ?_
  rw [show nI (5 * k) + 4 = nI (5 * k + 4) from nI_add (5 * k) 4]
  refine l_sld hx hb hX hbl hS (show 5 * k + 4 < L by omega) (by omega) de_W_law_191 ?_
  refine lk_i (va_runV (As := [.int (xs (5 * k + 1)), .int (xs (5 * k + 2)), .int (xs (5 * k + 3)), .int (xs (5 * k + 4))]) (rest := []) S (c_K_instruct l D1 aa q1 hJ1 σ (xs (5 * k + 1)) (xs (5 * k + 2)) (xs (5 * k + 3)) (xs (5 * k + 4)) (r0, σ1) hF) (cwV 4 ht (gv_in tw_1_206 tw_1_207 tw_1_208 tw_1_1 tc_K_instruct) rfl rfl rfl bh_K_instruct ⟨Nat.le_of_ble_eq_true rfl, Nat.le_of_ble_eq_true rfl⟩) (kpreV hK1 hP1 (kr_0 hK1 hP1 (by decide))) rfl rfl hl.1 rfl (lv_room (Nat.le_of_ble_eq_true rfl)) de_W_law_192 ⟨(Nat.le_of_ble_eq_true rfl), (Nat.le_of_ble_eq_true rfl)⟩) hS hw1 hP2 hdj (fun H locs hP1 hP2 hS => ?_)
  refine lv_aload_n hx hb de_W_law_195 rfl (lv_at hl 1 rfl) ?_
  refine lv_aload_n hx hb de_W_law_196 rfl (lv_at hl 3 rfl) ?_
  refine lv_iload_n hx hb de_W_law_197 rfl (lv_at hl 0 rfl) ?_
  refine lv_iconst (v := 1) hx hb de_W_law_198 (by decide) ?_
  refine lv_iadd hx hb de_W_law_199 ?_
  rw [show nI (5 * k) + 1 = nI (5 * k + 1) from nI_add (5 * k) 1]
  refine l_sld hx hb hX hbl hS (show 5 * k + 1 < L by omega) (by omega) de_W_law_200 ?_
  refine lv_aload_n hx hb de_W_law_201 rfl (lv_at hl 3 rfl) ?_
  refine lv_iload_n hx hb de_W_law_202 rfl (lv_at hl 0 rfl) ?_
  refine lv_iconst (v := 2) hx hb de_W_law_203 (by decide) ?_
  refine lv_iadd hx hb de_W_law_204 ?_
  rw [show nI (5 * k) + 2 = nI (5 * k + 2) from nI_add (5 * k) 2]
  refine l_sld hx hb hX hbl hS (show 5 * k + 2 < L by omega) (by omega) de_W_law_205 ?_
  refine lv_aload_n hx hb de_W_law_206 rfl (lv_at hl 3 rfl) ?_
  refine lv_iload_n hx hb de_W_law_207 rfl (lv_at hl 0 rfl) ?_
  refine lv_iconst (v := 3) hx hb de_W_law_208 (by decide) ?_
  refine lv_iadd hx hb de_W_law_209 ?_
  rw [show nI (5 * k) + 3 = nI (5 * k + 3) from nI_add (5 * k) 3]
  refine l_sld hx hb hX hbl hS (show 5 * k + 3 < L by omega) (by omega) de_W_law_210 ?_
  refine lv_aload_n hx hb de_W_law_211 rfl (lv_at hl 3 rfl) ?_
  refine lv_iload_n hx hb de_W_law_212 rfl (lv_at hl 0 rfl) ?_
  refine lv_iconst (v := 4) hx hb de_W_law_213 (by decide) ?_
  refine lv_iadd hx hb de_W_law_214 ?_
  rw [show nI (5 * k) + 4 = nI (5 * k + 4) from nI_add (5 * k) 4]
  refine l_sld hx hb hX hbl hS (show 5 * k + 4 < L by omega) (by omega) de_W_law_215 ?_
  refine lm_i (va_runV (As := [.int (xs (5 * k + 1)), .int (xs (5 * k + 2)), .int (xs (5 * k + 3)), .int (xs (5 * k + 4))]) (rest := [.int r0]) S (c_M_instruct l D2 bb q2 hJ2 τ (xs (5 * k + 1)) (xs (5 * k + 2)) (xs (5 * k + 3)) (xs (5 * k + 4)) (r0, τ1) hG) (cwV 4 ht (gv_in tw_3_63 tw_3_64 tw_3_65 tw_1_7 tc_M_instruct) rfl rfl rfl bh_M_instruct ⟨Nat.le_of_ble_eq_true rfl, Nat.le_of_ble_eq_true rfl⟩) (mpreV hK2 hP2 (mr_0 hK2 hP2 (by decide))) rfl rfl hl.1 rfl (lv_room (Nat.le_of_ble_eq_true rfl)) de_W_law_216 ⟨(Nat.le_of_ble_eq_true rfl), (Nat.le_of_ble_eq_true rfl)⟩) hS hw2 hP1 (fun x h1 h2 => hdj x h2 h1) (fun H locs hP2 hP1 hS => ?_)
  refine lv_icmp_eq (tgt := 728) hx hb de_W_law_219 (by decide) (fun hc => ?_) (fun hc => ?_)
  · exact kk H locs hP1 hP2 hS
  · exact absurd rfl hc
set_option maxHeartbeats 4000000 in
set_option maxRecDepth 100000 in
theorem w_law_c2z {p : Program} {l : Launch} {e : Env} {s : State} {m : MethodId} {below : List Frame} {meth : Method} {c : Code} {Q : State → Prop} {D1 D2 : va_G} {aa bb : Nat → Nat → Nat} {q1 q2 : Nat → ClassId} {b L : Nat} {xs : Nat → Int32} (S : CallFix p m c bc_W_law 4 s #[Value.ref b] lw_g bR_W) (hX : va_X b L xs s s.heap) (hbl : b < s.heap.size) (hL : L ≤ 2560) (hJ1 : wJ kC aa) (hJ2 : wJ mC bb) (hw1 : ∀ x, wA kC aa x → s.heap.size ≤ x) (hw2 : ∀ x, wA mC bb x → s.heap.size ≤ x) (hdj : ∀ x, wA mC bb x → ¬ wA kC aa x) (hK1 : va_K D1 kCl (kT q1) s) (hK2 : va_K D2 mCl (mT q2) s) {k : Nat} (hk : 5 * k + 5 ≤ L) {σ τ : kS} {H : Heap} {locs : List Loc} {ls : Array Slot} (hl : lv_has ls 4 [(3, .int (nI (5 * k))), (2, .ref (bb 0 0)), (1, .ref (aa 0 0)), (0, .ref b)]) (hP1 : va_P D1 kCl (kW aa q1 σ) H) (hP2 : va_P D2 mCl (mW bb q2 τ) H) (hS : va_S (fun x => s.heap.size ≤ x) s.heap H locs) (hz : xs (5 * k + 3) = 0) {r0 : Int32} {σ1 τ1 : kS} (hF : F_K_resource σ (xs (5 * k + 1)) (xs (5 * k + 2)) 0 = some (r0, σ1)) (hG : F_M_resource τ (xs (5 * k + 1)) (xs (5 * k + 2)) 0 = some (r0, τ1)) (kk : ∀ (H : Heap) (locs : List Loc), va_P D1 kCl (kW aa q1 σ1) H → va_P D2 mCl (mW bb q2 τ1) H → va_S (fun x => s.heap.size ≤ x) s.heap H locs → W p l e room_1 s m #[Value.ref b] below meth c H locs 108 1465 Q (F0 m 728 ls [])) : W p l e room_1 s m #[Value.ref b] below meth c H locs 108 1465 Q (F0 m 224 ls []) := by
  obtain ⟨hx, hb, hml, hown, ht⟩ := id S
  refine lv_aload_n hx hb de_W_law_224 rfl (lv_at hl 2 rfl) ?_
  refine lv_aload_n hx hb de_W_law_225 rfl (lv_at hl 3 rfl) ?_
  refine lv_iload_n hx hb de_W_law_226 rfl (lv_at hl 0 rfl) ?_
  refine lv_iconst (v := 1) hx hb de_W_law_227 (by decide) ?_
  refine lv_iadd hx hb de_W_law_228 ?_
  rw [show nI (5 * k) + 1 = nI (5 * k + 1) from nI_add (5 * k) 1]
  refine l_sld hx hb hX hbl hS (show 5 * k + 1 < L by omega) (by omega) de_W_law_229 ?_
  refine lv_aload_n hx hb de_W_law_230 rfl (lv_at hl 3 rfl) ?_
  refine lv_iload_n hx hb de_W_law_231 rfl (lv_at hl 0 rfl) ?_
  refine lv_iconst (v := 2) hx hb de_W_law_232 (by decide) ?_
  refine lv_iadd hx hb de_W_law_233 ?_
  rw [show nI (5 * k) + 2 = nI (5 * k + 2) from nI_add (5 * k) 2]
  refine l_sld hx hb hX hbl hS (show 5 * k + 2 < L by omega) (by omega) de_W_law_234 ?_
  refine lv_aload_n hx hb de_W_law_235 rfl (lv_at hl 3 rfl) ?_
  refine lv_iload_n hx hb de_W_law_236 rfl (lv_at hl 0 rfl) ?_
  refine lv_iconst (v := 3) hx hb de_W_law_237 (by decide) ?_
  refine lv_iadd hx hb de_W_law_238 ?_
  rw [show nI (5 * k) + 3 = nI (5 * k + 3) from nI_add (5 * k) 3]
  refine l_sld hx hb hX hbl hS (show 5 * k + 3 < L by omega) (by omega) de_W_law_239 ?_
  refine lv_if_eq (tgt := 247) hx hb de_W_law_240 (by decide) (fun hc => ?_) (fun hc => ?_)
  rotate_left
  · exact absurd hz hc
  refine lv_iconst (v := 0) hx hb de_W_law_247 (by decide) ?_
  refine lk_i (va_runV (As := [.int (xs (5 * k + 1)), .int (xs (5 * k + 2)), .int 0]) (rest := []) S (c_K_resource l D1 aa q1 hJ1 σ (xs (5 * k + 1)) (xs (5 * k + 2)) 0 (r0, σ1) hF) (cwV 3 ht (gv_in tw_1_228 tw_1_229 tw_1_230 tw_1_1 tc_K_resource) rfl rfl rfl bh_K_resource ⟨Nat.le_of_ble_eq_true rfl, Nat.le_of_ble_eq_true rfl⟩) (kpreV hK1 hP1 (kr_0 hK1 hP1 (by decide))) rfl rfl hl.1 rfl (lv_room (Nat.le_of_ble_eq_true rfl)) de_W_law_248 ⟨(Nat.le_of_ble_eq_true rfl), (Nat.le_of_ble_eq_true rfl)⟩) hS hw1 hP2 hdj (fun H locs hP1 hP2 hS => ?_)
  refine lv_aload_n hx hb de_W_law_251 rfl (lv_at hl 1 rfl) ?_
  refine lv_aload_n hx hb de_W_law_252 rfl (lv_at hl 3 rfl) ?_
  refine lv_iload_n hx hb de_W_law_253 rfl (lv_at hl 0 rfl) ?_
  refine lv_iconst (v := 1) hx hb de_W_law_254 (by decide) ?_
  refine lv_iadd hx hb de_W_law_255 ?_
  rw [show nI (5 * k) + 1 = nI (5 * k + 1) from nI_add (5 * k) 1]
  refine l_sld hx hb hX hbl hS (show 5 * k + 1 < L by omega) (by omega) de_W_law_256 ?_
  refine lv_aload_n hx hb de_W_law_257 rfl (lv_at hl 3 rfl) ?_
  refine lv_iload_n hx hb de_W_law_258 rfl (lv_at hl 0 rfl) ?_
  refine lv_iconst (v := 2) hx hb de_W_law_259 (by decide) ?_
  refine lv_iadd hx hb de_W_law_260 ?_
  rw [show nI (5 * k) + 2 = nI (5 * k + 2) from nI_add (5 * k) 2]
  refine l_sld hx hb hX hbl hS (show 5 * k + 2 < L by omega) (by omega) de_W_law_261 ?_
  refine lv_aload_n hx hb de_W_law_262 rfl (lv_at hl 3 rfl) ?_
  refine lv_iload_n hx hb de_W_law_263 rfl (lv_at hl 0 rfl) ?_
  refine lv_iconst (v := 3) hx hb de_W_law_264 (by decide) ?_
  refine lv_iadd hx hb de_W_law_265 ?_
  rw [show nI (5 * k) + 3 = nI (5 * k + 3) from nI_add (5 * k) 3]
  refine l_sld hx hb hX hbl hS (show 5 * k + 3 < L by omega) (by omega) de_W_law_266 ?_
  refine lv_if_eq (tgt := 274) hx hb de_W_law_267 (by decide) (fun hc => ?_) (fun hc => ?_)
  rotate_left
  · exact absurd hz hc
  refine lv_iconst (v := 0) hx hb de_W_law_274 (by decide) ?_
  refine lm_i (va_runV (As := [.int (xs (5 * k + 1)), .int (xs (5 * k + 2)), .int 0]) (rest := [.int r0]) S (c_M_resource l D2 bb q2 hJ2 τ (xs (5 * k + 1)) (xs (5 * k + 2)) 0 (r0, τ1) hG) (cwV 3 ht (gv_in tw_3_80 tw_3_81 tw_3_82 tw_1_7 tc_M_resource) rfl rfl rfl bh_M_resource ⟨Nat.le_of_ble_eq_true rfl, Nat.le_of_ble_eq_true rfl⟩) (mpreV hK2 hP2 (mr_0 hK2 hP2 (by decide))) rfl rfl hl.1 rfl (lv_room (Nat.le_of_ble_eq_true rfl)) de_W_law_275 ⟨(Nat.le_of_ble_eq_true rfl), (Nat.le_of_ble_eq_true rfl)⟩) hS hw2 hP1 (fun x h1 h2 => hdj x h2 h1) (fun H locs hP2 hP1 hS => ?_)
  refine lv_icmp_eq (tgt := 728) hx hb de_W_law_278 (by decide) (fun hc => ?_) (fun hc => ?_)
  · exact kk H locs hP1 hP2 hS
  · exact absurd rfl hc
set_option maxHeartbeats 4000000 in
set_option maxRecDepth 100000 in
theorem w_law_c2n {p : Program} {l : Launch} {e : Env} {s : State} {m : MethodId} {below : List Frame} {meth : Method} {c : Code} {Q : State → Prop} {D1 D2 : va_G} {aa bb : Nat → Nat → Nat} {q1 q2 : Nat → ClassId} {b L : Nat} {xs : Nat → Int32} (S : CallFix p m c bc_W_law 4 s #[Value.ref b] lw_g bR_W) (hX : va_X b L xs s s.heap) (hbl : b < s.heap.size) (hL : L ≤ 2560) (hJ1 : wJ kC aa) (hJ2 : wJ mC bb) (hw1 : ∀ x, wA kC aa x → s.heap.size ≤ x) (hw2 : ∀ x, wA mC bb x → s.heap.size ≤ x) (hdj : ∀ x, wA mC bb x → ¬ wA kC aa x) (hK1 : va_K D1 kCl (kT q1) s) (hK2 : va_K D2 mCl (mT q2) s) {k : Nat} (hk : 5 * k + 5 ≤ L) {σ τ : kS} {H : Heap} {locs : List Loc} {ls : Array Slot} (hl : lv_has ls 4 [(3, .int (nI (5 * k))), (2, .ref (bb 0 0)), (1, .ref (aa 0 0)), (0, .ref b)]) (hP1 : va_P D1 kCl (kW aa q1 σ) H) (hP2 : va_P D2 mCl (mW bb q2 τ) H) (hS : va_S (fun x => s.heap.size ≤ x) s.heap H locs) (hz : ¬ xs (5 * k + 3) = 0) {r0 : Int32} {σ1 τ1 : kS} (hF : F_K_resource σ (xs (5 * k + 1)) (xs (5 * k + 2)) 1 = some (r0, σ1)) (hG : F_M_resource τ (xs (5 * k + 1)) (xs (5 * k + 2)) 1 = some (r0, τ1)) (kk : ∀ (H : Heap) (locs : List Loc), va_P D1 kCl (kW aa q1 σ1) H → va_P D2 mCl (mW bb q2 τ1) H → va_S (fun x => s.heap.size ≤ x) s.heap H locs → W p l e room_1 s m #[Value.ref b] below meth c H locs 108 1465 Q (F0 m 728 ls [])) : W p l e room_1 s m #[Value.ref b] below meth c H locs 108 1465 Q (F0 m 224 ls []) := by
  obtain ⟨hx, hb, hml, hown, ht⟩ := id S
  refine lv_aload_n hx hb de_W_law_224 rfl (lv_at hl 2 rfl) ?_
  refine lv_aload_n hx hb de_W_law_225 rfl (lv_at hl 3 rfl) ?_
  refine lv_iload_n hx hb de_W_law_226 rfl (lv_at hl 0 rfl) ?_
  refine lv_iconst (v := 1) hx hb de_W_law_227 (by decide) ?_
  refine lv_iadd hx hb de_W_law_228 ?_
  rw [show nI (5 * k) + 1 = nI (5 * k + 1) from nI_add (5 * k) 1]
  refine l_sld hx hb hX hbl hS (show 5 * k + 1 < L by omega) (by omega) de_W_law_229 ?_
  refine lv_aload_n hx hb de_W_law_230 rfl (lv_at hl 3 rfl) ?_
  refine lv_iload_n hx hb de_W_law_231 rfl (lv_at hl 0 rfl) ?_
  refine lv_iconst (v := 2) hx hb de_W_law_232 (by decide) ?_
  refine lv_iadd hx hb de_W_law_233 ?_
  rw [show nI (5 * k) + 2 = nI (5 * k + 2) from nI_add (5 * k) 2]
  refine l_sld hx hb hX hbl hS (show 5 * k + 2 < L by omega) (by omega) de_W_law_234 ?_
  refine lv_aload_n hx hb de_W_law_235 rfl (lv_at hl 3 rfl) ?_
  refine lv_iload_n hx hb de_W_law_236 rfl (lv_at hl 0 rfl) ?_
  refine lv_iconst (v := 3) hx hb de_W_law_237 (by decide) ?_
  refine lv_iadd hx hb de_W_law_238 ?_
  rw [show nI (5 * k) + 3 = nI (5 * k + 3) from nI_add (5 * k) 3]
  refine l_sld hx hb hX hbl hS (show 5 * k + 3 < L by omega) (by omega) de_W_law_239 ?_
  refine lv_if_eq (tgt := 247) hx hb de_W_law_240 (by decide) (fun hc => ?_) (fun hc => ?_)
  · exact absurd hc hz
  refine lv_iconst (v := 1) hx hb de_W_law_243 (by decide) ?_
  refine lv_goto (tgt := 248) hx hb de_W_law_244 (by decide) ?_
  refine lk_i (va_runV (As := [.int (xs (5 * k + 1)), .int (xs (5 * k + 2)), .int 1]) (rest := []) S (c_K_resource l D1 aa q1 hJ1 σ (xs (5 * k + 1)) (xs (5 * k + 2)) 1 (r0, σ1) hF) (cwV 3 ht (gv_in tw_1_228 tw_1_229 tw_1_230 tw_1_1 tc_K_resource) rfl rfl rfl bh_K_resource ⟨Nat.le_of_ble_eq_true rfl, Nat.le_of_ble_eq_true rfl⟩) (kpreV hK1 hP1 (kr_0 hK1 hP1 (by decide))) rfl rfl hl.1 rfl (lv_room (Nat.le_of_ble_eq_true rfl)) de_W_law_248 ⟨(Nat.le_of_ble_eq_true rfl), (Nat.le_of_ble_eq_true rfl)⟩) hS hw1 hP2 hdj (fun H locs hP1 hP2 hS => ?_)
  refine lv_aload_n hx hb de_W_law_251 rfl (lv_at hl 1 rfl) ?_
  refine lv_aload_n hx hb de_W_law_252 rfl (lv_at hl 3 rfl) ?_
  refine lv_iload_n hx hb de_W_law_253 rfl (lv_at hl 0 rfl) ?_
  refine lv_iconst (v := 1) hx hb de_W_law_254 (by decide) ?_
  refine lv_iadd hx hb de_W_law_255 ?_
  rw [show nI (5 * k) + 1 = nI (5 * k + 1) from nI_add (5 * k) 1]
  refine l_sld hx hb hX hbl hS (show 5 * k + 1 < L by omega) (by omega) de_W_law_256 ?_
  refine lv_aload_n hx hb de_W_law_257 rfl (lv_at hl 3 rfl) ?_
  refine lv_iload_n hx hb de_W_law_258 rfl (lv_at hl 0 rfl) ?_
  refine lv_iconst (v := 2) hx hb de_W_law_259 (by decide) ?_
  refine lv_iadd hx hb de_W_law_260 ?_
  rw [show nI (5 * k) + 2 = nI (5 * k + 2) from nI_add (5 * k) 2]
  refine l_sld hx hb hX hbl hS (show 5 * k + 2 < L by omega) (by omega) de_W_law_261 ?_
  refine lv_aload_n hx hb de_W_law_262 rfl (lv_at hl 3 rfl) ?_
  refine lv_iload_n hx hb de_W_law_263 rfl (lv_at hl 0 rfl) ?_
  refine lv_iconst (v := 3) hx hb de_W_law_264 (by decide) ?_
  refine lv_iadd hx hb de_W_law_265 ?_
  rw [show nI (5 * k) + 3 = nI (5 * k + 3) from nI_add (5 * k) 3]
  refine l_sld hx hb hX hbl hS (show 5 * k + 3 < L by omega) (by omega) de_W_law_266 ?_
  refine lv_if_eq (tgt := 274) hx hb de_W_law_267 (by decide) (fun hc => ?_) (fun hc => ?_)
  · exact absurd hc hz
  refine lv_iconst (v := 1) hx hb de_W_law_270 (by decide) ?_
  refine lv_goto (tgt := 275) hx hb de_W_law_271 (by decide) ?_
  refine lm_i (va_runV (As := [.int (xs (5 * k + 1)), .int (xs (5 * k + 2)), .int 1]) (rest := [.int r0]) S (c_M_resource l D2 bb q2 hJ2 τ (xs (5 * k + 1)) (xs (5 * k + 2)) 1 (r0, τ1) hG) (cwV 3 ht (gv_in tw_3_80 tw_3_81 tw_3_82 tw_1_7 tc_M_resource) rfl rfl rfl bh_M_resource ⟨Nat.le_of_ble_eq_true rfl, Nat.le_of_ble_eq_true rfl⟩) (mpreV hK2 hP2 (mr_0 hK2 hP2 (by decide))) rfl rfl hl.1 rfl (lv_room (Nat.le_of_ble_eq_true rfl)) de_W_law_275 ⟨(Nat.le_of_ble_eq_true rfl), (Nat.le_of_ble_eq_true rfl)⟩) hS hw2 hP1 (fun x h1 h2 => hdj x h2 h1) (fun H locs hP2 hP1 hS => ?_)
  refine lv_icmp_eq (tgt := 728) hx hb de_W_law_278 (by decide) (fun hc => ?_) (fun hc => ?_)
  · exact kk H locs hP1 hP2 hS
  · exact absurd rfl hc
set_option maxHeartbeats 4000000 in
set_option maxRecDepth 100000 in
theorem w_law_c3 {p : Program} {l : Launch} {e : Env} {s : State} {m : MethodId} {below : List Frame} {meth : Method} {c : Code} {Q : State → Prop} {D1 D2 : va_G} {aa bb : Nat → Nat → Nat} {q1 q2 : Nat → ClassId} {b L : Nat} {xs : Nat → Int32} (S : CallFix p m c bc_W_law 4 s #[Value.ref b] lw_g bR_W) (hX : va_X b L xs s s.heap) (hbl : b < s.heap.size) (hL : L ≤ 2560) (hJ1 : wJ kC aa) (hJ2 : wJ mC bb) (hw1 : ∀ x, wA kC aa x → s.heap.size ≤ x) (hw2 : ∀ x, wA mC bb x → s.heap.size ≤ x) (hdj : ∀ x, wA mC bb x → ¬ wA kC aa x) (hK1 : va_K D1 kCl (kT q1) s) (hK2 : va_K D2 mCl (mT q2) s) {k : Nat} (hk : 5 * k + 5 ≤ L) {σ τ : kS} {H : Heap} {locs : List Loc} {ls : Array Slot} (hl : lv_has ls 4 [(3, .int (nI (5 * k))), (2, .ref (bb 0 0)), (1, .ref (aa 0 0)), (0, .ref b)]) (hP1 : va_P D1 kCl (kW aa q1 σ) H) (hP2 : va_P D2 mCl (mW bb q2 τ) H) (hS : va_S (fun x => s.heap.size ≤ x) s.heap H locs) {r0 : Int32} {σ1 τ1 : kS} (hF : F_K_tank σ (xs (5 * k + 1)) (xs (5 * k + 2)) (xs (5 * k + 3)) = some (r0, σ1)) (hG : F_M_tank τ (xs (5 * k + 1)) (xs (5 * k + 2)) (xs (5 * k + 3)) = some (r0, τ1)) (kk : ∀ (H : Heap) (locs : List Loc), va_P D1 kCl (kW aa q1 σ1) H → va_P D2 mCl (mW bb q2 τ1) H → va_S (fun x => s.heap.size ≤ x) s.heap H locs → W p l e room_1 s m #[Value.ref b] below meth c H locs 108 1465 Q (F0 m 728 ls [])) : W p l e room_1 s m #[Value.ref b] below meth c H locs 108 1465 Q (F0 m 283 ls []) := by
  obtain ⟨hx, hb, hml, hown, ht⟩ := id S
  refine lv_aload_n hx hb de_W_law_283 rfl (lv_at hl 2 rfl) ?_
  refine lv_aload_n hx hb de_W_law_284 rfl (lv_at hl 3 rfl) ?_
  refine lv_iload_n hx hb de_W_law_285 rfl (lv_at hl 0 rfl) ?_
  refine lv_iconst (v := 1) hx hb de_W_law_286 (by decide) ?_
  refine lv_iadd hx hb de_W_law_287 ?_
  rw [show nI (5 * k) + 1 = nI (5 * k + 1) from nI_add (5 * k) 1]
  refine l_sld hx hb hX hbl hS (show 5 * k + 1 < L by omega) (by omega) de_W_law_288 ?_
  refine lv_aload_n hx hb de_W_law_289 rfl (lv_at hl 3 rfl) ?_
  refine lv_iload_n hx hb de_W_law_290 rfl (lv_at hl 0 rfl) ?_
  refine lv_iconst (v := 2) hx hb de_W_law_291 (by decide) ?_
  refine lv_iadd hx hb de_W_law_292 ?_
  rw [show nI (5 * k) + 2 = nI (5 * k + 2) from nI_add (5 * k) 2]
  refine l_sld hx hb hX hbl hS (show 5 * k + 2 < L by omega) (by omega) de_W_law_293 ?_
  refine lv_aload_n hx hb de_W_law_294 rfl (lv_at hl 3 rfl) ?_
  refine lv_iload_n hx hb de_W_law_295 rfl (lv_at hl 0 rfl) ?_
  refine lv_iconst (v := 3) hx hb de_W_law_296 (by decide) ?_
  refine lv_iadd hx hb de_W_law_297 ?_
  rw [show nI (5 * k) + 3 = nI (5 * k + 3) from nI_add (5 * k) 3]
  refine l_sld hx hb hX hbl hS (show 5 * k + 3 < L by omega) (by omega) de_W_law_298 ?_
  refine lk_i (va_runV (As := [.int (xs (5 * k + 1)), .int (xs (5 * k + 2)), .int (xs (5 * k + 3))]) (rest := []) S (c_K_tank l D1 aa q1 hJ1 σ (xs (5 * k + 1)) (xs (5 * k + 2)) (xs (5 * k + 3)) (r0, σ1) hF) (cwV 3 ht (gv_in tw_2_16 tw_2_17 tw_2_18 tw_1_1 tc_K_tank) rfl rfl rfl bh_K_tank ⟨Nat.le_of_ble_eq_true rfl, Nat.le_of_ble_eq_true rfl⟩) (kpreV hK1 hP1 (kr_0 hK1 hP1 (by decide))) rfl rfl hl.1 rfl (lv_room (Nat.le_of_ble_eq_true rfl)) de_W_law_299 ⟨(Nat.le_of_ble_eq_true rfl), (Nat.le_of_ble_eq_true rfl)⟩) hS hw1 hP2 hdj (fun H locs hP1 hP2 hS => ?_)
  refine lv_aload_n hx hb de_W_law_302 rfl (lv_at hl 1 rfl) ?_
  refine lv_aload_n hx hb de_W_law_303 rfl (lv_at hl 3 rfl) ?_
  refine lv_iload_n hx hb de_W_law_304 rfl (lv_at hl 0 rfl) ?_
  refine lv_iconst (v := 1) hx hb de_W_law_305 (by decide) ?_
  refine lv_iadd hx hb de_W_law_306 ?_
  rw [show nI (5 * k) + 1 = nI (5 * k + 1) from nI_add (5 * k) 1]
  refine l_sld hx hb hX hbl hS (show 5 * k + 1 < L by omega) (by omega) de_W_law_307 ?_
  refine lv_aload_n hx hb de_W_law_308 rfl (lv_at hl 3 rfl) ?_
  refine lv_iload_n hx hb de_W_law_309 rfl (lv_at hl 0 rfl) ?_
  refine lv_iconst (v := 2) hx hb de_W_law_310 (by decide) ?_
  refine lv_iadd hx hb de_W_law_311 ?_
  rw [show nI (5 * k) + 2 = nI (5 * k + 2) from nI_add (5 * k) 2]
  refine l_sld hx hb hX hbl hS (show 5 * k + 2 < L by omega) (by omega) de_W_law_312 ?_
  refine lv_aload_n hx hb de_W_law_313 rfl (lv_at hl 3 rfl) ?_
  refine lv_iload_n hx hb de_W_law_314 rfl (lv_at hl 0 rfl) ?_
  refine lv_iconst (v := 3) hx hb de_W_law_315 (by decide) ?_
  refine lv_iadd hx hb de_W_law_316 ?_
  rw [show nI (5 * k) + 3 = nI (5 * k + 3) from nI_add (5 * k) 3]
  refine l_sld hx hb hX hbl hS (show 5 * k + 3 < L by omega) (by omega) de_W_law_317 ?_
  refine lm_i (va_runV (As := [.int (xs (5 * k + 1)), .int (xs (5 * k + 2)), .int (xs (5 * k + 3))]) (rest := [.int r0]) S (c_M_tank l D2 bb q2 hJ2 τ (xs (5 * k + 1)) (xs (5 * k + 2)) (xs (5 * k + 3)) (r0, τ1) hG) (cwV 3 ht (gv_in tw_3_108 tw_3_109 tw_3_110 tw_1_7 tc_M_tank) rfl rfl rfl bh_M_tank ⟨Nat.le_of_ble_eq_true rfl, Nat.le_of_ble_eq_true rfl⟩) (mpreV hK2 hP2 (mr_0 hK2 hP2 (by decide))) rfl rfl hl.1 rfl (lv_room (Nat.le_of_ble_eq_true rfl)) de_W_law_318 ⟨(Nat.le_of_ble_eq_true rfl), (Nat.le_of_ble_eq_true rfl)⟩) hS hw2 hP1 (fun x h1 h2 => hdj x h2 h1) (fun H locs hP2 hP1 hS => ?_)
  refine lv_icmp_eq (tgt := 728) hx hb de_W_law_321 (by decide) (fun hc => ?_) (fun hc => ?_)
  · exact kk H locs hP1 hP2 hS
  · exact absurd rfl hc
set_option maxHeartbeats 4000000 in
set_option maxRecDepth 100000 in
theorem w_law_c4 {p : Program} {l : Launch} {e : Env} {s : State} {m : MethodId} {below : List Frame} {meth : Method} {c : Code} {Q : State → Prop} {D1 D2 : va_G} {aa bb : Nat → Nat → Nat} {q1 q2 : Nat → ClassId} {b L : Nat} {xs : Nat → Int32} (S : CallFix p m c bc_W_law 4 s #[Value.ref b] lw_g bR_W) (hX : va_X b L xs s s.heap) (hbl : b < s.heap.size) (hL : L ≤ 2560) (hJ1 : wJ kC aa) (hJ2 : wJ mC bb) (hw1 : ∀ x, wA kC aa x → s.heap.size ≤ x) (hw2 : ∀ x, wA mC bb x → s.heap.size ≤ x) (hdj : ∀ x, wA mC bb x → ¬ wA kC aa x) (hK1 : va_K D1 kCl (kT q1) s) (hK2 : va_K D2 mCl (mT q2) s) {k : Nat} (hk : 5 * k + 5 ≤ L) {σ τ : kS} {H : Heap} {locs : List Loc} {ls : Array Slot} (hl : lv_has ls 4 [(3, .int (nI (5 * k))), (2, .ref (bb 0 0)), (1, .ref (aa 0 0)), (0, .ref b)]) (hP1 : va_P D1 kCl (kW aa q1 σ) H) (hP2 : va_P D2 mCl (mW bb q2 τ) H) (hS : va_S (fun x => s.heap.size ≤ x) s.heap H locs) {r0 : Int32} {σ1 τ1 : kS} (hF : F_K_activate σ (xs (5 * k + 1)) (xs (5 * k + 2)) = some (r0, σ1)) (hG : F_M_activate τ (xs (5 * k + 1)) (xs (5 * k + 2)) = some (r0, τ1)) (kk : ∀ (H : Heap) (locs : List Loc), va_P D1 kCl (kW aa q1 σ1) H → va_P D2 mCl (mW bb q2 τ1) H → va_S (fun x => s.heap.size ≤ x) s.heap H locs → W p l e room_1 s m #[Value.ref b] below meth c H locs 108 1465 Q (F0 m 728 ls [])) : W p l e room_1 s m #[Value.ref b] below meth c H locs 108 1465 Q (F0 m 326 ls []) := by
  obtain ⟨hx, hb, hml, hown, ht⟩ := id S
  refine lv_aload_n hx hb de_W_law_326 rfl (lv_at hl 2 rfl) ?_
  refine lv_aload_n hx hb de_W_law_327 rfl (lv_at hl 3 rfl) ?_
  refine lv_iload_n hx hb de_W_law_328 rfl (lv_at hl 0 rfl) ?_
  refine lv_iconst (v := 1) hx hb de_W_law_329 (by decide) ?_
  refine lv_iadd hx hb de_W_law_330 ?_
  rw [show nI (5 * k) + 1 = nI (5 * k + 1) from nI_add (5 * k) 1]
  refine l_sld hx hb hX hbl hS (show 5 * k + 1 < L by omega) (by omega) de_W_law_331 ?_
  refine lv_aload_n hx hb de_W_law_332 rfl (lv_at hl 3 rfl) ?_
  refine lv_iload_n hx hb de_W_law_333 rfl (lv_at hl 0 rfl) ?_
  refine lv_iconst (v := 2) hx hb de_W_law_334 (by decide) ?_
  refine lv_iadd hx hb de_W_law_335 ?_
  rw [show nI (5 * k) + 2 = nI (5 * k + 2) from nI_add (5 * k) 2]
  refine l_sld hx hb hX hbl hS (show 5 * k + 2 < L by omega) (by omega) de_W_law_336 ?_
  refine lk_i (va_runV (As := [.int (xs (5 * k + 1)), .int (xs (5 * k + 2))]) (rest := []) S (c_K_activate l D1 aa q1 hJ1 σ (xs (5 * k + 1)) (xs (5 * k + 2)) (r0, σ1) hF) (cwV 2 ht (gv_in tw_2_20 tw_2_21 tw_2_22 tw_1_1 tc_K_activate) rfl rfl rfl bh_K_activate ⟨Nat.le_of_ble_eq_true rfl, Nat.le_of_ble_eq_true rfl⟩) (kpreV hK1 hP1 (kr_0 hK1 hP1 (by decide))) rfl rfl hl.1 rfl (lv_room (Nat.le_of_ble_eq_true rfl)) de_W_law_337 ⟨(Nat.le_of_ble_eq_true rfl), (Nat.le_of_ble_eq_true rfl)⟩) hS hw1 hP2 hdj (fun H locs hP1 hP2 hS => ?_)
  refine lv_aload_n hx hb de_W_law_340 rfl (lv_at hl 1 rfl) ?_
  refine lv_aload_n hx hb de_W_law_341 rfl (lv_at hl 3 rfl) ?_
  refine lv_iload_n hx hb de_W_law_342 rfl (lv_at hl 0 rfl) ?_
  refine lv_iconst (v := 1) hx hb de_W_law_343 (by decide) ?_
  refine lv_iadd hx hb de_W_law_344 ?_
  rw [show nI (5 * k) + 1 = nI (5 * k + 1) from nI_add (5 * k) 1]
  refine l_sld hx hb hX hbl hS (show 5 * k + 1 < L by omega) (by omega) de_W_law_345 ?_
  refine lv_aload_n hx hb de_W_law_346 rfl (lv_at hl 3 rfl) ?_
  refine lv_iload_n hx hb de_W_law_347 rfl (lv_at hl 0 rfl) ?_
  refine lv_iconst (v := 2) hx hb de_W_law_348 (by decide) ?_
  refine lv_iadd hx hb de_W_law_349 ?_
  rw [show nI (5 * k) + 2 = nI (5 * k + 2) from nI_add (5 * k) 2]
  refine l_sld hx hb hX hbl hS (show 5 * k + 2 < L by omega) (by omega) de_W_law_350 ?_
  refine lm_i (va_runV (As := [.int (xs (5 * k + 1)), .int (xs (5 * k + 2))]) (rest := [.int r0]) S (c_M_activate l D2 bb q2 hJ2 τ (xs (5 * k + 1)) (xs (5 * k + 2)) (r0, τ1) hG) (cwV 2 ht (gv_in tw_3_185 tw_3_166 tw_3_167 tw_1_7 tc_M_activate) rfl rfl rfl bh_M_activate ⟨Nat.le_of_ble_eq_true rfl, Nat.le_of_ble_eq_true rfl⟩) (mpreV hK2 hP2 (mr_0 hK2 hP2 (by decide))) rfl rfl hl.1 rfl (lv_room (Nat.le_of_ble_eq_true rfl)) de_W_law_351 ⟨(Nat.le_of_ble_eq_true rfl), (Nat.le_of_ble_eq_true rfl)⟩) hS hw2 hP1 (fun x h1 h2 => hdj x h2 h1) (fun H locs hP2 hP1 hS => ?_)
  refine lv_icmp_eq (tgt := 728) hx hb de_W_law_354 (by decide) (fun hc => ?_) (fun hc => ?_)
  · exact kk H locs hP1 hP2 hS
  · exact absurd rfl hc
set_option maxHeartbeats 4000000 in
set_option maxRecDepth 100000 in
theorem w_law_c5 {p : Program} {l : Launch} {e : Env} {s : State} {m : MethodId} {below : List Frame} {meth : Method} {c : Code} {Q : State → Prop} {D1 D2 : va_G} {aa bb : Nat → Nat → Nat} {q1 q2 : Nat → ClassId} {b L : Nat} {xs : Nat → Int32} (S : CallFix p m c bc_W_law 4 s #[Value.ref b] lw_g bR_W) (hX : va_X b L xs s s.heap) (hbl : b < s.heap.size) (hL : L ≤ 2560) (hJ1 : wJ kC aa) (hJ2 : wJ mC bb) (hw1 : ∀ x, wA kC aa x → s.heap.size ≤ x) (hw2 : ∀ x, wA mC bb x → s.heap.size ≤ x) (hdj : ∀ x, wA mC bb x → ¬ wA kC aa x) (hK1 : va_K D1 kCl (kT q1) s) (hK2 : va_K D2 mCl (mT q2) s) {k : Nat} (hk : 5 * k + 5 ≤ L) {σ τ : kS} {H : Heap} {locs : List Loc} {ls : Array Slot} (hl : lv_has ls 4 [(3, .int (nI (5 * k))), (2, .ref (bb 0 0)), (1, .ref (aa 0 0)), (0, .ref b)]) (hP1 : va_P D1 kCl (kW aa q1 σ) H) (hP2 : va_P D2 mCl (mW bb q2 τ) H) (hS : va_S (fun x => s.heap.size ≤ x) s.heap H locs) {r0 : Int32} {σ1 τ1 : kS} (hF : F_K_interrupt σ (xs (5 * k + 1)) = some (r0, σ1)) (hG : F_M_interrupt τ (xs (5 * k + 1)) = some (r0, τ1)) (kk : ∀ (H : Heap) (locs : List Loc), va_P D1 kCl (kW aa q1 σ1) H → va_P D2 mCl (mW bb q2 τ1) H → va_S (fun x => s.heap.size ≤ x) s.heap H locs → W p l e room_1 s m #[Value.ref b] below meth c H locs 108 1465 Q (F0 m 728 ls [])) : W p l e room_1 s m #[Value.ref b] below meth c H locs 108 1465 Q (F0 m 359 ls []) := by
  obtain ⟨hx, hb, hml, hown, ht⟩ := id S
  refine lv_aload_n hx hb de_W_law_359 rfl (lv_at hl 2 rfl) ?_
  refine lv_aload_n hx hb de_W_law_360 rfl (lv_at hl 3 rfl) ?_
  refine lv_iload_n hx hb de_W_law_361 rfl (lv_at hl 0 rfl) ?_
  refine lv_iconst (v := 1) hx hb de_W_law_362 (by decide) ?_
  refine lv_iadd hx hb de_W_law_363 ?_
  rw [show nI (5 * k) + 1 = nI (5 * k + 1) from nI_add (5 * k) 1]
  refine l_sld hx hb hX hbl hS (show 5 * k + 1 < L by omega) (by omega) de_W_law_364 ?_
  refine lk_i (va_runV (As := [.int (xs (5 * k + 1))]) (rest := []) S (c_K_interrupt l D1 aa q1 hJ1 σ (xs (5 * k + 1)) (r0, σ1) hF) (cwV 1 ht (gv_in tw_2_24 tw_2_25 tw_2_26 tw_1_1 tc_K_interrupt) rfl rfl rfl bh_K_interrupt ⟨Nat.le_of_ble_eq_true rfl, Nat.le_of_ble_eq_true rfl⟩) (kpreV hK1 hP1 (kr_0 hK1 hP1 (by decide))) rfl rfl hl.1 rfl (lv_room (Nat.le_of_ble_eq_true rfl)) de_W_law_365 ⟨(Nat.le_of_ble_eq_true rfl), (Nat.le_of_ble_eq_true rfl)⟩) hS hw1 hP2 hdj (fun H locs hP1 hP2 hS => ?_)
  refine lv_aload_n hx hb de_W_law_368 rfl (lv_at hl 1 rfl) ?_
  refine lv_aload_n hx hb de_W_law_369 rfl (lv_at hl 3 rfl) ?_
  refine lv_iload_n hx hb de_W_law_370 rfl (lv_at hl 0 rfl) ?_
  refine lv_iconst (v := 1) hx hb de_W_law_371 (by decide) ?_
  refine lv_iadd hx hb de_W_law_372 ?_
  rw [show nI (5 * k) + 1 = nI (5 * k + 1) from nI_add (5 * k) 1]
  refine l_sld hx hb hX hbl hS (show 5 * k + 1 < L by omega) (by omega) de_W_law_373 ?_
  refine lm_i (va_runV (As := [.int (xs (5 * k + 1))]) (rest := [.int r0]) S (c_M_interrupt l D2 bb q2 hJ2 τ (xs (5 * k + 1)) (r0, τ1) hG) (cwV 1 ht (gv_in tw_3_186 tw_3_158 tw_3_159 tw_1_7 tc_M_interrupt) rfl rfl rfl bh_M_interrupt ⟨Nat.le_of_ble_eq_true rfl, Nat.le_of_ble_eq_true rfl⟩) (mpreV hK2 hP2 (mr_0 hK2 hP2 (by decide))) rfl rfl hl.1 rfl (lv_room (Nat.le_of_ble_eq_true rfl)) de_W_law_374 ⟨(Nat.le_of_ble_eq_true rfl), (Nat.le_of_ble_eq_true rfl)⟩) hS hw2 hP1 (fun x h1 h2 => hdj x h2 h1) (fun H locs hP2 hP1 hS => ?_)
  refine lv_icmp_eq (tgt := 728) hx hb de_W_law_377 (by decide) (fun hc => ?_) (fun hc => ?_)
  · exact kk H locs hP1 hP2 hS
  · exact absurd rfl hc
set_option maxHeartbeats 4000000 in
set_option maxRecDepth 100000 in
theorem w_law_c6 {p : Program} {l : Launch} {e : Env} {s : State} {m : MethodId} {below : List Frame} {meth : Method} {c : Code} {Q : State → Prop} {D1 D2 : va_G} {aa bb : Nat → Nat → Nat} {q1 q2 : Nat → ClassId} {b L : Nat} {xs : Nat → Int32} (S : CallFix p m c bc_W_law 4 s #[Value.ref b] lw_g bR_W) (hX : va_X b L xs s s.heap) (hbl : b < s.heap.size) (hL : L ≤ 2560) (hJ1 : wJ kC aa) (hJ2 : wJ mC bb) (hw1 : ∀ x, wA kC aa x → s.heap.size ≤ x) (hw2 : ∀ x, wA mC bb x → s.heap.size ≤ x) (hdj : ∀ x, wA mC bb x → ¬ wA kC aa x) (hK1 : va_K D1 kCl (kT q1) s) (hK2 : va_K D2 mCl (mT q2) s) {k : Nat} (hk : 5 * k + 5 ≤ L) {σ τ : kS} {H : Heap} {locs : List Loc} {ls : Array Slot} (hl : lv_has ls 4 [(3, .int (nI (5 * k))), (2, .ref (bb 0 0)), (1, .ref (aa 0 0)), (0, .ref b)]) (hP1 : va_P D1 kCl (kW aa q1 σ) H) (hP2 : va_P D2 mCl (mW bb q2 τ) H) (hS : va_S (fun x => s.heap.size ≤ x) s.heap H locs) {r0 : Int32} {σ1 τ1 : kS} (hF : F_K_kill σ (xs (5 * k + 1)) = some (r0, σ1)) (hG : F_M_kill τ (xs (5 * k + 1)) = some (r0, τ1)) (kk : ∀ (H : Heap) (locs : List Loc), va_P D1 kCl (kW aa q1 σ1) H → va_P D2 mCl (mW bb q2 τ1) H → va_S (fun x => s.heap.size ≤ x) s.heap H locs → W p l e room_1 s m #[Value.ref b] below meth c H locs 108 1465 Q (F0 m 728 ls [])) : W p l e room_1 s m #[Value.ref b] below meth c H locs 108 1465 Q (F0 m 382 ls []) := by
  obtain ⟨hx, hb, hml, hown, ht⟩ := id S
  refine lv_aload_n hx hb de_W_law_382 rfl (lv_at hl 2 rfl) ?_
  refine lv_aload_n hx hb de_W_law_383 rfl (lv_at hl 3 rfl) ?_
  refine lv_iload_n hx hb de_W_law_384 rfl (lv_at hl 0 rfl) ?_
  refine lv_iconst (v := 1) hx hb de_W_law_385 (by decide) ?_
  refine lv_iadd hx hb de_W_law_386 ?_
  rw [show nI (5 * k) + 1 = nI (5 * k + 1) from nI_add (5 * k) 1]
  refine l_sld hx hb hX hbl hS (show 5 * k + 1 < L by omega) (by omega) de_W_law_387 ?_
  refine lk_i (va_runV (As := [.int (xs (5 * k + 1))]) (rest := []) S (c_K_kill l D1 aa q1 hJ1 σ (xs (5 * k + 1)) (r0, σ1) hF) (cwV 1 ht (gv_in tw_2_44 tw_2_45 tw_2_46 tw_1_1 tc_K_kill) rfl rfl rfl bh_K_kill ⟨Nat.le_of_ble_eq_true rfl, Nat.le_of_ble_eq_true rfl⟩) (kpreV hK1 hP1 (kr_0 hK1 hP1 (by decide))) rfl rfl hl.1 rfl (lv_room (Nat.le_of_ble_eq_true rfl)) de_W_law_388 ⟨(Nat.le_of_ble_eq_true rfl), (Nat.le_of_ble_eq_true rfl)⟩) hS hw1 hP2 hdj (fun H locs hP1 hP2 hS => ?_)
  refine lv_aload_n hx hb de_W_law_391 rfl (lv_at hl 1 rfl) ?_
  refine lv_aload_n hx hb de_W_law_392 rfl (lv_at hl 3 rfl) ?_
  refine lv_iload_n hx hb de_W_law_393 rfl (lv_at hl 0 rfl) ?_
  refine lv_iconst (v := 1) hx hb de_W_law_394 (by decide) ?_
  refine lv_iadd hx hb de_W_law_395 ?_
  rw [show nI (5 * k) + 1 = nI (5 * k + 1) from nI_add (5 * k) 1]
  refine l_sld hx hb hX hbl hS (show 5 * k + 1 < L by omega) (by omega) de_W_law_396 ?_
  refine lm_i (va_runV (As := [.int (xs (5 * k + 1))]) (rest := [.int r0]) S (c_M_kill l D2 bb q2 hJ2 τ (xs (5 * k + 1)) (r0, τ1) hG) (cwV 1 ht (gv_in tw_3_187 tw_3_170 tw_3_171 tw_1_7 tc_M_kill) rfl rfl rfl bh_M_kill ⟨Nat.le_of_ble_eq_true rfl, Nat.le_of_ble_eq_true rfl⟩) (mpreV hK2 hP2 (mr_0 hK2 hP2 (by decide))) rfl rfl hl.1 rfl (lv_room (Nat.le_of_ble_eq_true rfl)) de_W_law_397 ⟨(Nat.le_of_ble_eq_true rfl), (Nat.le_of_ble_eq_true rfl)⟩) hS hw2 hP1 (fun x h1 h2 => hdj x h2 h1) (fun H locs hP2 hP1 hS => ?_)
  refine lv_icmp_eq (tgt := 728) hx hb de_W_law_400 (by decide) (fun hc => ?_) (fun hc => ?_)
  · exact kk H locs hP1 hP2 hS
  · exact absurd rfl hc
set_option maxHeartbeats 4000000 in
set_option maxRecDepth 100000 in
theorem w_law_c7 {p : Program} {l : Launch} {e : Env} {s : State} {m : MethodId} {below : List Frame} {meth : Method} {c : Code} {Q : State → Prop} {D1 D2 : va_G} {aa bb : Nat → Nat → Nat} {q1 q2 : Nat → ClassId} {b L : Nat} {xs : Nat → Int32} (S : CallFix p m c bc_W_law 4 s #[Value.ref b] lw_g bR_W) (hX : va_X b L xs s s.heap) (hbl : b < s.heap.size) (hL : L ≤ 2560) (hJ1 : wJ kC aa) (hJ2 : wJ mC bb) (hw1 : ∀ x, wA kC aa x → s.heap.size ≤ x) (hw2 : ∀ x, wA mC bb x → s.heap.size ≤ x) (hdj : ∀ x, wA mC bb x → ¬ wA kC aa x) (hK1 : va_K D1 kCl (kT q1) s) (hK2 : va_K D2 mCl (mT q2) s) {k : Nat} (hk : 5 * k + 5 ≤ L) {σ τ : kS} {H : Heap} {locs : List Loc} {ls : Array Slot} (hl : lv_has ls 4 [(3, .int (nI (5 * k))), (2, .ref (bb 0 0)), (1, .ref (aa 0 0)), (0, .ref b)]) (hP1 : va_P D1 kCl (kW aa q1 σ) H) (hP2 : va_P D2 mCl (mW bb q2 τ) H) (hS : va_S (fun x => s.heap.size ≤ x) s.heap H locs) {r0 : Int32} {σ1 τ1 : kS} (hF : F_K_run σ (xs (5 * k + 1)) ((((xs (5 * k + 2)).toInt64) <<< ((32 : Int32).toInt64 &&& 63)) ||| (((xs (5 * k + 3)).toInt64) &&& 4294967295)) = some (r0, σ1)) (hG : F_M_run τ (xs (5 * k + 1)) ((((xs (5 * k + 2)).toInt64) <<< ((32 : Int32).toInt64 &&& 63)) ||| (((xs (5 * k + 3)).toInt64) &&& 4294967295)) = some (r0, τ1)) (kk : ∀ (H : Heap) (locs : List Loc), va_P D1 kCl (kW aa q1 σ1) H → va_P D2 mCl (mW bb q2 τ1) H → va_S (fun x => s.heap.size ≤ x) s.heap H locs → W p l e room_1 s m #[Value.ref b] below meth c H locs 108 1465 Q (F0 m 728 ls [])) : W p l e room_1 s m #[Value.ref b] below meth c H locs 108 1465 Q (F0 m 405 ls []) := by
  obtain ⟨hx, hb, hml, hown, ht⟩ := id S
  refine lv_aload_n hx hb de_W_law_405 rfl (lv_at hl 2 rfl) ?_
  refine lv_aload_n hx hb de_W_law_406 rfl (lv_at hl 3 rfl) ?_
  refine lv_iload_n hx hb de_W_law_407 rfl (lv_at hl 0 rfl) ?_
  refine lv_iconst (v := 1) hx hb de_W_law_408 (by decide) ?_
  refine lv_iadd hx hb de_W_law_409 ?_
  rw [show nI (5 * k) + 1 = nI (5 * k + 1) from nI_add (5 * k) 1]
  refine l_sld hx hb hX hbl hS (show 5 * k + 1 < L by omega) (by omega) de_W_law_410 ?_
  refine lv_aload_n hx hb de_W_law_411 rfl (lv_at hl 3 rfl) ?_
  refine lv_iload_n hx hb de_W_law_412 rfl (lv_at hl 0 rfl) ?_
  refine lv_iconst (v := 2) hx hb de_W_law_413 (by decide) ?_
  refine lv_iadd hx hb de_W_law_414 ?_
  rw [show nI (5 * k) + 2 = nI (5 * k + 2) from nI_add (5 * k) 2]
  refine l_sld hx hb hX hbl hS (show 5 * k + 2 < L by omega) (by omega) de_W_law_415 ?_
  refine lv_i2l (v := (xs (5 * k + 2)).toInt64) hx hb de_W_law_416 rfl ?_
  refine lv_bipush (v := 32) hx hb de_W_law_417 (by decide) ?_
  refine lv_lshl (v := ((xs (5 * k + 2)).toInt64) <<< ((32 : Int32).toInt64 &&& 63)) hx hb de_W_law_419 rfl ?_
  refine lv_aload_n hx hb de_W_law_420 rfl (lv_at hl 3 rfl) ?_
  refine lv_iload_n hx hb de_W_law_421 rfl (lv_at hl 0 rfl) ?_
  refine lv_iconst (v := 3) hx hb de_W_law_422 (by decide) ?_
  refine lv_iadd hx hb de_W_law_423 ?_
  rw [show nI (5 * k) + 3 = nI (5 * k + 3) from nI_add (5 * k) 3]
  refine l_sld hx hb hX hbl hS (show 5 * k + 3 < L by omega) (by omega) de_W_law_424 ?_
  refine lv_i2l (v := (xs (5 * k + 3)).toInt64) hx hb de_W_law_425 rfl ?_
  refine lv_ldc2 (v := 4294967295) hx hb hown (ht _ tw_3_237) de_W_law_426 ?_
  refine lv_land hx hb de_W_law_429 ?_
  refine lv_lor hx hb de_W_law_430 ?_
  refine lk_i (va_runV (As := [.int (xs (5 * k + 1)), .long ((((xs (5 * k + 2)).toInt64) <<< ((32 : Int32).toInt64 &&& 63)) ||| (((xs (5 * k + 3)).toInt64) &&& 4294967295))]) (rest := []) S (c_K_run l D1 aa q1 hJ1 σ (xs (5 * k + 1)) ((((xs (5 * k + 2)).toInt64) <<< ((32 : Int32).toInt64 &&& 63)) ||| (((xs (5 * k + 3)).toInt64) &&& 4294967295)) (r0, σ1) hF) (cwV 2 ht (gv_in tw_2_63 tw_2_64 tw_2_65 tw_1_1 tc_K_run) rfl rfl rfl bh_K_run ⟨Nat.le_of_ble_eq_true rfl, Nat.le_of_ble_eq_true rfl⟩) (kpreV hK1 hP1 (kr_0 hK1 hP1 (by decide))) rfl rfl hl.1 rfl (lv_room (Nat.le_of_ble_eq_true rfl)) de_W_law_431 ⟨(Nat.le_of_ble_eq_true rfl), (Nat.le_of_ble_eq_true rfl)⟩) hS hw1 hP2 hdj (fun H locs hP1 hP2 hS => ?_)
  refine lv_aload_n hx hb de_W_law_434 rfl (lv_at hl 1 rfl) ?_
  refine lv_aload_n hx hb de_W_law_435 rfl (lv_at hl 3 rfl) ?_
  refine lv_iload_n hx hb de_W_law_436 rfl (lv_at hl 0 rfl) ?_
  refine lv_iconst (v := 1) hx hb de_W_law_437 (by decide) ?_
  refine lv_iadd hx hb de_W_law_438 ?_
  rw [show nI (5 * k) + 1 = nI (5 * k + 1) from nI_add (5 * k) 1]
  refine l_sld hx hb hX hbl hS (show 5 * k + 1 < L by omega) (by omega) de_W_law_439 ?_
  refine lv_aload_n hx hb de_W_law_440 rfl (lv_at hl 3 rfl) ?_
  refine lv_iload_n hx hb de_W_law_441 rfl (lv_at hl 0 rfl) ?_
  refine lv_iconst (v := 2) hx hb de_W_law_442 (by decide) ?_
  refine lv_iadd hx hb de_W_law_443 ?_
  rw [show nI (5 * k) + 2 = nI (5 * k + 2) from nI_add (5 * k) 2]
  refine l_sld hx hb hX hbl hS (show 5 * k + 2 < L by omega) (by omega) de_W_law_444 ?_
  refine lv_i2l (v := (xs (5 * k + 2)).toInt64) hx hb de_W_law_445 rfl ?_
  refine lv_bipush (v := 32) hx hb de_W_law_446 (by decide) ?_
  refine lv_lshl (v := ((xs (5 * k + 2)).toInt64) <<< ((32 : Int32).toInt64 &&& 63)) hx hb de_W_law_448 rfl ?_
  refine lv_aload_n hx hb de_W_law_449 rfl (lv_at hl 3 rfl) ?_
  refine lv_iload_n hx hb de_W_law_450 rfl (lv_at hl 0 rfl) ?_
  refine lv_iconst (v := 3) hx hb de_W_law_451 (by decide) ?_
  refine lv_iadd hx hb de_W_law_452 ?_
  rw [show nI (5 * k) + 3 = nI (5 * k + 3) from nI_add (5 * k) 3]
  refine l_sld hx hb hX hbl hS (show 5 * k + 3 < L by omega) (by omega) de_W_law_453 ?_
  refine lv_i2l (v := (xs (5 * k + 3)).toInt64) hx hb de_W_law_454 rfl ?_
  refine lv_ldc2 (v := 4294967295) hx hb hown (ht _ tw_3_237) de_W_law_455 ?_
  refine lv_land hx hb de_W_law_458 ?_
  refine lv_lor hx hb de_W_law_459 ?_
  refine lm_i (va_runV (As := [.int (xs (5 * k + 1)), .long ((((xs (5 * k + 2)).toInt64) <<< ((32 : Int32).toInt64 &&& 63)) ||| (((xs (5 * k + 3)).toInt64) &&& 4294967295))]) (rest := [.int r0]) S (c_M_run l D2 bb q2 hJ2 τ (xs (5 * k + 1)) ((((xs (5 * k + 2)).toInt64) <<< ((32 : Int32).toInt64 &&& 63)) ||| (((xs (5 * k + 3)).toInt64) &&& 4294967295)) (r0, τ1) hG) (cwV 2 ht (gv_in tw_3_112 tw_3_113 tw_3_114 tw_1_7 tc_M_run) rfl rfl rfl bh_M_run ⟨Nat.le_of_ble_eq_true rfl, Nat.le_of_ble_eq_true rfl⟩) (mpreV hK2 hP2 (mr_0 hK2 hP2 (by decide))) rfl rfl hl.1 rfl (lv_room (Nat.le_of_ble_eq_true rfl)) de_W_law_460 ⟨(Nat.le_of_ble_eq_true rfl), (Nat.le_of_ble_eq_true rfl)⟩) hS hw2 hP1 (fun x h1 h2 => hdj x h2 h1) (fun H locs hP2 hP1 hS => ?_)
  refine lv_icmp_eq (tgt := 728) hx hb de_W_law_463 (by decide) (fun hc => ?_) (fun hc => ?_)
  · exact kk H locs hP1 hP2 hS
  · exact absurd rfl hc
set_option maxHeartbeats 4000000 in
set_option maxRecDepth 100000 in
theorem w_law_c8 {p : Program} {l : Launch} {e : Env} {s : State} {m : MethodId} {below : List Frame} {meth : Method} {c : Code} {Q : State → Prop} {D1 D2 : va_G} {aa bb : Nat → Nat → Nat} {q1 q2 : Nat → ClassId} {b L : Nat} {xs : Nat → Int32} (S : CallFix p m c bc_W_law 4 s #[Value.ref b] lw_g bR_W) (hX : va_X b L xs s s.heap) (hbl : b < s.heap.size) (hL : L ≤ 2560) (hJ1 : wJ kC aa) (hJ2 : wJ mC bb) (hw1 : ∀ x, wA kC aa x → s.heap.size ≤ x) (hw2 : ∀ x, wA mC bb x → s.heap.size ≤ x) (hdj : ∀ x, wA mC bb x → ¬ wA kC aa x) (hK1 : va_K D1 kCl (kT q1) s) (hK2 : va_K D2 mCl (mT q2) s) {k : Nat} (hk : 5 * k + 5 ≤ L) {σ τ : kS} {H : Heap} {locs : List Loc} {ls : Array Slot} (hl : lv_has ls 4 [(3, .int (nI (5 * k))), (2, .ref (bb 0 0)), (1, .ref (aa 0 0)), (0, .ref b)]) (hP1 : va_P D1 kCl (kW aa q1 σ) H) (hP2 : va_P D2 mCl (mW bb q2 τ) H) (hS : va_S (fun x => s.heap.size ≤ x) s.heap H locs) {r0 : Int64} {σ1 τ1 : kS} (hF : F_K_now σ  = some r0) (hG : F_M_now τ  = some r0) (kk : ∀ (H : Heap) (locs : List Loc), va_P D1 kCl (kW aa q1 σ) H → va_P D2 mCl (mW bb q2 τ) H → va_S (fun x => s.heap.size ≤ x) s.heap H locs → W p l e room_1 s m #[Value.ref b] below meth c H locs 108 1465 Q (F0 m 728 ls [])) : W p l e room_1 s m #[Value.ref b] below meth c H locs 108 1465 Q (F0 m 468 ls []) := by
  obtain ⟨hx, hb, hml, hown, ht⟩ := id S
  refine lv_aload_n hx hb de_W_law_468 rfl (lv_at hl 2 rfl) ?_
  refine lk_l (va_runV (As := []) (rest := []) S (c_K_now l D1 aa q1 hJ1 σ  r0 hF) (cwV 0 ht (gv_in tw_2_156 tw_2_157 tw_2_158 tw_1_1 tc_K_now) rfl rfl rfl bh_K_now ⟨Nat.le_of_ble_eq_true rfl, Nat.le_of_ble_eq_true rfl⟩) (kpreV hK1 hP1 (kr_0 hK1 hP1 (by decide))) rfl rfl hl.1 rfl (lv_room (Nat.le_of_ble_eq_true rfl)) de_W_law_469 ⟨(Nat.le_of_ble_eq_true rfl), (Nat.le_of_ble_eq_true rfl)⟩) hS hw1 hP2 hdj (fun H locs hP1 hP2 hS => ?_)
  refine lv_aload_n hx hb de_W_law_472 rfl (lv_at hl 1 rfl) ?_
  refine lm_l (va_runV (As := []) (rest := [.long r0]) S (c_M_now l D2 bb q2 hJ2 τ  r0 hG) (cwV 0 ht (gv_in tw_3_188 tw_3_189 tw_3_190 tw_1_7 tc_M_now) rfl rfl rfl bh_M_now ⟨Nat.le_of_ble_eq_true rfl, Nat.le_of_ble_eq_true rfl⟩) (mpreV hK2 hP2 (mr_0 hK2 hP2 (by decide))) rfl rfl hl.1 rfl (lv_room (Nat.le_of_ble_eq_true rfl)) de_W_law_473 ⟨(Nat.le_of_ble_eq_true rfl), (Nat.le_of_ble_eq_true rfl)⟩) hS hw2 hP1 (fun x h1 h2 => hdj x h2 h1) (fun H locs hP2 hP1 hS => ?_)
  refine W.lcmp hx hb de_W_law_476 ?_
  refine lv_if_eq (tgt := 728) hx hb de_W_law_477 (by decide) (fun hc => ?_) (fun hc => ?_)
  · exact kk H locs hP1 hP2 hS
  · exact absurd (by rw [lcz]) hc
set_option maxHeartbeats 4000000 in
set_option maxRecDepth 100000 in
theorem w_law_c9 {p : Program} {l : Launch} {e : Env} {s : State} {m : MethodId} {below : List Frame} {meth : Method} {c : Code} {Q : State → Prop} {D1 D2 : va_G} {aa bb : Nat → Nat → Nat} {q1 q2 : Nat → ClassId} {b L : Nat} {xs : Nat → Int32} (S : CallFix p m c bc_W_law 4 s #[Value.ref b] lw_g bR_W) (hX : va_X b L xs s s.heap) (hbl : b < s.heap.size) (hL : L ≤ 2560) (hJ1 : wJ kC aa) (hJ2 : wJ mC bb) (hw1 : ∀ x, wA kC aa x → s.heap.size ≤ x) (hw2 : ∀ x, wA mC bb x → s.heap.size ≤ x) (hdj : ∀ x, wA mC bb x → ¬ wA kC aa x) (hK1 : va_K D1 kCl (kT q1) s) (hK2 : va_K D2 mCl (mT q2) s) {k : Nat} (hk : 5 * k + 5 ≤ L) {σ τ : kS} {H : Heap} {locs : List Loc} {ls : Array Slot} (hl : lv_has ls 4 [(3, .int (nI (5 * k))), (2, .ref (bb 0 0)), (1, .ref (aa 0 0)), (0, .ref b)]) (hP1 : va_P D1 kCl (kW aa q1 σ) H) (hP2 : va_P D2 mCl (mW bb q2 τ) H) (hS : va_S (fun x => s.heap.size ≤ x) s.heap H locs) {r0 : Int64} {σ1 τ1 : kS} (hF : F_K_next σ  = some r0) (hG : F_M_next τ  = some r0) (kk : ∀ (H : Heap) (locs : List Loc), va_P D1 kCl (kW aa q1 σ) H → va_P D2 mCl (mW bb q2 τ) H → va_S (fun x => s.heap.size ≤ x) s.heap H locs → W p l e room_1 s m #[Value.ref b] below meth c H locs 108 1465 Q (F0 m 728 ls [])) : W p l e room_1 s m #[Value.ref b] below meth c H locs 108 1465 Q (F0 m 482 ls []) := by
  obtain ⟨hx, hb, hml, hown, ht⟩ := id S
  refine lv_aload_n hx hb de_W_law_482 rfl (lv_at hl 2 rfl) ?_
  refine lk_l (va_runV (As := []) (rest := []) S (c_K_next l D1 aa q1 hJ1 σ  r0 hF) (cwV 0 ht (gv_in tw_2_160 tw_2_161 tw_2_162 tw_1_1 tc_K_next) rfl rfl rfl bh_K_next ⟨Nat.le_of_ble_eq_true rfl, Nat.le_of_ble_eq_true rfl⟩) (kpreV hK1 hP1 (kr_0 hK1 hP1 (by decide))) rfl rfl hl.1 rfl (lv_room (Nat.le_of_ble_eq_true rfl)) de_W_law_483 ⟨(Nat.le_of_ble_eq_true rfl), (Nat.le_of_ble_eq_true rfl)⟩) hS hw1 hP2 hdj (fun H locs hP1 hP2 hS => ?_)
  refine lv_aload_n hx hb de_W_law_486 rfl (lv_at hl 1 rfl) ?_
  refine lm_l (va_runV (As := []) (rest := [.long r0]) S (c_M_next l D2 bb q2 hJ2 τ  r0 hG) (cwV 0 ht (gv_in tw_3_192 tw_3_193 tw_3_194 tw_1_7 tc_M_next) rfl rfl rfl bh_M_next ⟨Nat.le_of_ble_eq_true rfl, Nat.le_of_ble_eq_true rfl⟩) (mpreV hK2 hP2 (mr_0 hK2 hP2 (by decide))) rfl rfl hl.1 rfl (lv_room (Nat.le_of_ble_eq_true rfl)) de_W_law_487 ⟨(Nat.le_of_ble_eq_true rfl), (Nat.le_of_ble_eq_true rfl)⟩) hS hw2 hP1 (fun x h1 h2 => hdj x h2 h1) (fun H locs hP2 hP1 hS => ?_)
  refine W.lcmp hx hb de_W_law_490 ?_
  refine lv_if_eq (tgt := 728) hx hb de_W_law_491 (by decide) (fun hc => ?_) (fun hc => ?_)
  · exact kk H locs hP1 hP2 hS
  · exact absurd (by rw [lcz]) hc
set_option maxHeartbeats 4000000 in
set_option maxRecDepth 100000 in
theorem w_law_c10 {p : Program} {l : Launch} {e : Env} {s : State} {m : MethodId} {below : List Frame} {meth : Method} {c : Code} {Q : State → Prop} {D1 D2 : va_G} {aa bb : Nat → Nat → Nat} {q1 q2 : Nat → ClassId} {b L : Nat} {xs : Nat → Int32} (S : CallFix p m c bc_W_law 4 s #[Value.ref b] lw_g bR_W) (hX : va_X b L xs s s.heap) (hbl : b < s.heap.size) (hL : L ≤ 2560) (hJ1 : wJ kC aa) (hJ2 : wJ mC bb) (hw1 : ∀ x, wA kC aa x → s.heap.size ≤ x) (hw2 : ∀ x, wA mC bb x → s.heap.size ≤ x) (hdj : ∀ x, wA mC bb x → ¬ wA kC aa x) (hK1 : va_K D1 kCl (kT q1) s) (hK2 : va_K D2 mCl (mT q2) s) {k : Nat} (hk : 5 * k + 5 ≤ L) {σ τ : kS} {H : Heap} {locs : List Loc} {ls : Array Slot} (hl : lv_has ls 4 [(3, .int (nI (5 * k))), (2, .ref (bb 0 0)), (1, .ref (aa 0 0)), (0, .ref b)]) (hP1 : va_P D1 kCl (kW aa q1 σ) H) (hP2 : va_P D2 mCl (mW bb q2 τ) H) (hS : va_S (fun x => s.heap.size ≤ x) s.heap H locs) {r0 : Int32} {σ1 τ1 : kS} (hF : F_K_state σ (xs (5 * k + 1)) = some r0) (hG : F_M_state τ (xs (5 * k + 1)) = some r0) (kk : ∀ (H : Heap) (locs : List Loc), va_P D1 kCl (kW aa q1 σ) H → va_P D2 mCl (mW bb q2 τ) H → va_S (fun x => s.heap.size ≤ x) s.heap H locs → W p l e room_1 s m #[Value.ref b] below meth c H locs 108 1465 Q (F0 m 728 ls [])) : W p l e room_1 s m #[Value.ref b] below meth c H locs 108 1465 Q (F0 m 496 ls []) := by
  obtain ⟨hx, hb, hml, hown, ht⟩ := id S
  refine lv_aload_n hx hb de_W_law_496 rfl (lv_at hl 2 rfl) ?_
  refine lv_aload_n hx hb de_W_law_497 rfl (lv_at hl 3 rfl) ?_
  refine lv_iload_n hx hb de_W_law_498 rfl (lv_at hl 0 rfl) ?_
  refine lv_iconst (v := 1) hx hb de_W_law_499 (by decide) ?_
  refine lv_iadd hx hb de_W_law_500 ?_
  rw [show nI (5 * k) + 1 = nI (5 * k + 1) from nI_add (5 * k) 1]
  refine l_sld hx hb hX hbl hS (show 5 * k + 1 < L by omega) (by omega) de_W_law_501 ?_
  refine lk_i (va_runV (As := [.int (xs (5 * k + 1))]) (rest := []) S (c_K_state l D1 aa q1 hJ1 σ (xs (5 * k + 1)) r0 hF) (cwV 1 ht (gv_in tw_2_165 tw_2_166 tw_2_167 tw_1_1 tc_K_state) rfl rfl rfl bh_K_state ⟨Nat.le_of_ble_eq_true rfl, Nat.le_of_ble_eq_true rfl⟩) (kpreV hK1 hP1 (kr_0 hK1 hP1 (by decide))) rfl rfl hl.1 rfl (lv_room (Nat.le_of_ble_eq_true rfl)) de_W_law_502 ⟨(Nat.le_of_ble_eq_true rfl), (Nat.le_of_ble_eq_true rfl)⟩) hS hw1 hP2 hdj (fun H locs hP1 hP2 hS => ?_)
  refine lv_aload_n hx hb de_W_law_505 rfl (lv_at hl 1 rfl) ?_
  refine lv_aload_n hx hb de_W_law_506 rfl (lv_at hl 3 rfl) ?_
  refine lv_iload_n hx hb de_W_law_507 rfl (lv_at hl 0 rfl) ?_
  refine lv_iconst (v := 1) hx hb de_W_law_508 (by decide) ?_
  refine lv_iadd hx hb de_W_law_509 ?_
  rw [show nI (5 * k) + 1 = nI (5 * k + 1) from nI_add (5 * k) 1]
  refine l_sld hx hb hX hbl hS (show 5 * k + 1 < L by omega) (by omega) de_W_law_510 ?_
  refine lm_i (va_runV (As := [.int (xs (5 * k + 1))]) (rest := [.int r0]) S (c_M_state l D2 bb q2 hJ2 τ (xs (5 * k + 1)) r0 hG) (cwV 1 ht (gv_in tw_3_197 tw_3_198 tw_3_199 tw_1_7 tc_M_state) rfl rfl rfl bh_M_state ⟨Nat.le_of_ble_eq_true rfl, Nat.le_of_ble_eq_true rfl⟩) (mpreV hK2 hP2 (mr_0 hK2 hP2 (by decide))) rfl rfl hl.1 rfl (lv_room (Nat.le_of_ble_eq_true rfl)) de_W_law_511 ⟨(Nat.le_of_ble_eq_true rfl), (Nat.le_of_ble_eq_true rfl)⟩) hS hw2 hP1 (fun x h1 h2 => hdj x h2 h1) (fun H locs hP2 hP1 hS => ?_)
  refine lv_icmp_eq (tgt := 728) hx hb de_W_law_514 (by decide) (fun hc => ?_) (fun hc => ?_)
  · exact kk H locs hP1 hP2 hS
  · exact absurd rfl hc
set_option maxHeartbeats 4000000 in
set_option maxRecDepth 100000 in
theorem w_law_c11 {p : Program} {l : Launch} {e : Env} {s : State} {m : MethodId} {below : List Frame} {meth : Method} {c : Code} {Q : State → Prop} {D1 D2 : va_G} {aa bb : Nat → Nat → Nat} {q1 q2 : Nat → ClassId} {b L : Nat} {xs : Nat → Int32} (S : CallFix p m c bc_W_law 4 s #[Value.ref b] lw_g bR_W) (hX : va_X b L xs s s.heap) (hbl : b < s.heap.size) (hL : L ≤ 2560) (hJ1 : wJ kC aa) (hJ2 : wJ mC bb) (hw1 : ∀ x, wA kC aa x → s.heap.size ≤ x) (hw2 : ∀ x, wA mC bb x → s.heap.size ≤ x) (hdj : ∀ x, wA mC bb x → ¬ wA kC aa x) (hK1 : va_K D1 kCl (kT q1) s) (hK2 : va_K D2 mCl (mT q2) s) {k : Nat} (hk : 5 * k + 5 ≤ L) {σ τ : kS} {H : Heap} {locs : List Loc} {ls : Array Slot} (hl : lv_has ls 4 [(3, .int (nI (5 * k))), (2, .ref (bb 0 0)), (1, .ref (aa 0 0)), (0, .ref b)]) (hP1 : va_P D1 kCl (kW aa q1 σ) H) (hP2 : va_P D2 mCl (mW bb q2 τ) H) (hS : va_S (fun x => s.heap.size ≤ x) s.heap H locs) {r0 : Int32} {σ1 τ1 : kS} (hF : F_K_place σ (xs (5 * k + 1)) = some r0) (hG : F_M_place τ (xs (5 * k + 1)) = some r0) (kk : ∀ (H : Heap) (locs : List Loc), va_P D1 kCl (kW aa q1 σ) H → va_P D2 mCl (mW bb q2 τ) H → va_S (fun x => s.heap.size ≤ x) s.heap H locs → W p l e room_1 s m #[Value.ref b] below meth c H locs 108 1465 Q (F0 m 728 ls [])) : W p l e room_1 s m #[Value.ref b] below meth c H locs 108 1465 Q (F0 m 519 ls []) := by
  obtain ⟨hx, hb, hml, hown, ht⟩ := id S
  refine lv_aload_n hx hb de_W_law_519 rfl (lv_at hl 2 rfl) ?_
  refine lv_aload_n hx hb de_W_law_520 rfl (lv_at hl 3 rfl) ?_
  refine lv_iload_n hx hb de_W_law_521 rfl (lv_at hl 0 rfl) ?_
  refine lv_iconst (v := 1) hx hb de_W_law_522 (by decide) ?_
  refine lv_iadd hx hb de_W_law_523 ?_
  rw [show nI (5 * k) + 1 = nI (5 * k + 1) from nI_add (5 * k) 1]
  refine l_sld hx hb hX hbl hS (show 5 * k + 1 < L by omega) (by omega) de_W_law_524 ?_
  refine lk_i (va_runV (As := [.int (xs (5 * k + 1))]) (rest := []) S (c_K_place l D1 aa q1 hJ1 σ (xs (5 * k + 1)) r0 hF) (cwV 1 ht (gv_in tw_2_169 tw_2_170 tw_2_171 tw_1_1 tc_K_place) rfl rfl rfl bh_K_place ⟨Nat.le_of_ble_eq_true rfl, Nat.le_of_ble_eq_true rfl⟩) (kpreV hK1 hP1 (kr_0 hK1 hP1 (by decide))) rfl rfl hl.1 rfl (lv_room (Nat.le_of_ble_eq_true rfl)) de_W_law_525 ⟨(Nat.le_of_ble_eq_true rfl), (Nat.le_of_ble_eq_true rfl)⟩) hS hw1 hP2 hdj (fun H locs hP1 hP2 hS => ?_)
  refine lv_aload_n hx hb de_W_law_528 rfl (lv_at hl 1 rfl) ?_
  refine lv_aload_n hx hb de_W_law_529 rfl (lv_at hl 3 rfl) ?_
  refine lv_iload_n hx hb de_W_law_530 rfl (lv_at hl 0 rfl) ?_
  refine lv_iconst (v := 1) hx hb de_W_law_531 (by decide) ?_
  refine lv_iadd hx hb de_W_law_532 ?_
  rw [show nI (5 * k) + 1 = nI (5 * k + 1) from nI_add (5 * k) 1]
  refine l_sld hx hb hX hbl hS (show 5 * k + 1 < L by omega) (by omega) de_W_law_533 ?_
  refine lm_i (va_runV (As := [.int (xs (5 * k + 1))]) (rest := [.int r0]) S (c_M_place l D2 bb q2 hJ2 τ (xs (5 * k + 1)) r0 hG) (cwV 1 ht (gv_in tw_3_201 tw_3_202 tw_3_203 tw_1_7 tc_M_place) rfl rfl rfl bh_M_place ⟨Nat.le_of_ble_eq_true rfl, Nat.le_of_ble_eq_true rfl⟩) (mpreV hK2 hP2 (mr_0 hK2 hP2 (by decide))) rfl rfl hl.1 rfl (lv_room (Nat.le_of_ble_eq_true rfl)) de_W_law_534 ⟨(Nat.le_of_ble_eq_true rfl), (Nat.le_of_ble_eq_true rfl)⟩) hS hw2 hP1 (fun x h1 h2 => hdj x h2 h1) (fun H locs hP2 hP1 hS => ?_)
  refine lv_icmp_eq (tgt := 728) hx hb de_W_law_537 (by decide) (fun hc => ?_) (fun hc => ?_)
  · exact kk H locs hP1 hP2 hS
  · exact absurd rfl hc
set_option maxHeartbeats 4000000 in
set_option maxRecDepth 100000 in
theorem w_law_c12 {p : Program} {l : Launch} {e : Env} {s : State} {m : MethodId} {below : List Frame} {meth : Method} {c : Code} {Q : State → Prop} {D1 D2 : va_G} {aa bb : Nat → Nat → Nat} {q1 q2 : Nat → ClassId} {b L : Nat} {xs : Nat → Int32} (S : CallFix p m c bc_W_law 4 s #[Value.ref b] lw_g bR_W) (hX : va_X b L xs s s.heap) (hbl : b < s.heap.size) (hL : L ≤ 2560) (hJ1 : wJ kC aa) (hJ2 : wJ mC bb) (hw1 : ∀ x, wA kC aa x → s.heap.size ≤ x) (hw2 : ∀ x, wA mC bb x → s.heap.size ≤ x) (hdj : ∀ x, wA mC bb x → ¬ wA kC aa x) (hK1 : va_K D1 kCl (kT q1) s) (hK2 : va_K D2 mCl (mT q2) s) {k : Nat} (hk : 5 * k + 5 ≤ L) {σ τ : kS} {H : Heap} {locs : List Loc} {ls : Array Slot} (hl : lv_has ls 4 [(3, .int (nI (5 * k))), (2, .ref (bb 0 0)), (1, .ref (aa 0 0)), (0, .ref b)]) (hP1 : va_P D1 kCl (kW aa q1 σ) H) (hP2 : va_P D2 mCl (mW bb q2 τ) H) (hS : va_S (fun x => s.heap.size ≤ x) s.heap H locs) {r0 : Int32} {σ1 τ1 : kS} (hF : F_K_held σ (xs (5 * k + 1)) (xs (5 * k + 2)) = some r0) (hG : F_M_held τ (xs (5 * k + 1)) (xs (5 * k + 2)) = some r0) (kk : ∀ (H : Heap) (locs : List Loc), va_P D1 kCl (kW aa q1 σ) H → va_P D2 mCl (mW bb q2 τ) H → va_S (fun x => s.heap.size ≤ x) s.heap H locs → W p l e room_1 s m #[Value.ref b] below meth c H locs 108 1465 Q (F0 m 728 ls [])) : W p l e room_1 s m #[Value.ref b] below meth c H locs 108 1465 Q (F0 m 542 ls []) := by
  obtain ⟨hx, hb, hml, hown, ht⟩ := id S
  refine lv_aload_n hx hb de_W_law_542 rfl (lv_at hl 2 rfl) ?_
  refine lv_aload_n hx hb de_W_law_543 rfl (lv_at hl 3 rfl) ?_
  refine lv_iload_n hx hb de_W_law_544 rfl (lv_at hl 0 rfl) ?_
  refine lv_iconst (v := 1) hx hb de_W_law_545 (by decide) ?_
  refine lv_iadd hx hb de_W_law_546 ?_
  rw [show nI (5 * k) + 1 = nI (5 * k + 1) from nI_add (5 * k) 1]
  refine l_sld hx hb hX hbl hS (show 5 * k + 1 < L by omega) (by omega) de_W_law_547 ?_
  refine lv_aload_n hx hb de_W_law_548 rfl (lv_at hl 3 rfl) ?_
  refine lv_iload_n hx hb de_W_law_549 rfl (lv_at hl 0 rfl) ?_
  refine lv_iconst (v := 2) hx hb de_W_law_550 (by decide) ?_
  refine lv_iadd hx hb de_W_law_551 ?_
  rw [show nI (5 * k) + 2 = nI (5 * k + 2) from nI_add (5 * k) 2]
  refine l_sld hx hb hX hbl hS (show 5 * k + 2 < L by omega) (by omega) de_W_law_552 ?_
  refine lk_i (va_runV (As := [.int (xs (5 * k + 1)), .int (xs (5 * k + 2))]) (rest := []) S (c_K_held l D1 aa q1 hJ1 σ (xs (5 * k + 1)) (xs (5 * k + 2)) r0 hF) (cwV 2 ht (gv_in tw_2_173 tw_2_174 tw_2_175 tw_1_1 tc_K_held) rfl rfl rfl bh_K_held ⟨Nat.le_of_ble_eq_true rfl, Nat.le_of_ble_eq_true rfl⟩) (kpreV hK1 hP1 (kr_0 hK1 hP1 (by decide))) rfl rfl hl.1 rfl (lv_room (Nat.le_of_ble_eq_true rfl)) de_W_law_553 ⟨(Nat.le_of_ble_eq_true rfl), (Nat.le_of_ble_eq_true rfl)⟩) hS hw1 hP2 hdj (fun H locs hP1 hP2 hS => ?_)
  refine lv_aload_n hx hb de_W_law_556 rfl (lv_at hl 1 rfl) ?_
  refine lv_aload_n hx hb de_W_law_557 rfl (lv_at hl 3 rfl) ?_
  refine lv_iload_n hx hb de_W_law_558 rfl (lv_at hl 0 rfl) ?_
  refine lv_iconst (v := 1) hx hb de_W_law_559 (by decide) ?_
  refine lv_iadd hx hb de_W_law_560 ?_
  rw [show nI (5 * k) + 1 = nI (5 * k + 1) from nI_add (5 * k) 1]
  refine l_sld hx hb hX hbl hS (show 5 * k + 1 < L by omega) (by omega) de_W_law_561 ?_
  refine lv_aload_n hx hb de_W_law_562 rfl (lv_at hl 3 rfl) ?_
  refine lv_iload_n hx hb de_W_law_563 rfl (lv_at hl 0 rfl) ?_
  refine lv_iconst (v := 2) hx hb de_W_law_564 (by decide) ?_
  refine lv_iadd hx hb de_W_law_565 ?_
  rw [show nI (5 * k) + 2 = nI (5 * k + 2) from nI_add (5 * k) 2]
  refine l_sld hx hb hX hbl hS (show 5 * k + 2 < L by omega) (by omega) de_W_law_566 ?_
  refine lm_i (va_runV (As := [.int (xs (5 * k + 1)), .int (xs (5 * k + 2))]) (rest := [.int r0]) S (c_M_held l D2 bb q2 hJ2 τ (xs (5 * k + 1)) (xs (5 * k + 2)) r0 hG) (cwV 2 ht (gv_in tw_3_205 tw_3_206 tw_3_207 tw_1_7 tc_M_held) rfl rfl rfl bh_M_held ⟨Nat.le_of_ble_eq_true rfl, Nat.le_of_ble_eq_true rfl⟩) (mpreV hK2 hP2 (mr_0 hK2 hP2 (by decide))) rfl rfl hl.1 rfl (lv_room (Nat.le_of_ble_eq_true rfl)) de_W_law_567 ⟨(Nat.le_of_ble_eq_true rfl), (Nat.le_of_ble_eq_true rfl)⟩) hS hw2 hP1 (fun x h1 h2 => hdj x h2 h1) (fun H locs hP2 hP1 hS => ?_)
  refine lv_icmp_eq (tgt := 728) hx hb de_W_law_570 (by decide) (fun hc => ?_) (fun hc => ?_)
  · exact kk H locs hP1 hP2 hS
  · exact absurd rfl hc
set_option maxHeartbeats 4000000 in
set_option maxRecDepth 100000 in
theorem w_law_c13 {p : Program} {l : Launch} {e : Env} {s : State} {m : MethodId} {below : List Frame} {meth : Method} {c : Code} {Q : State → Prop} {D1 D2 : va_G} {aa bb : Nat → Nat → Nat} {q1 q2 : Nat → ClassId} {b L : Nat} {xs : Nat → Int32} (S : CallFix p m c bc_W_law 4 s #[Value.ref b] lw_g bR_W) (hX : va_X b L xs s s.heap) (hbl : b < s.heap.size) (hL : L ≤ 2560) (hJ1 : wJ kC aa) (hJ2 : wJ mC bb) (hw1 : ∀ x, wA kC aa x → s.heap.size ≤ x) (hw2 : ∀ x, wA mC bb x → s.heap.size ≤ x) (hdj : ∀ x, wA mC bb x → ¬ wA kC aa x) (hK1 : va_K D1 kCl (kT q1) s) (hK2 : va_K D2 mCl (mT q2) s) {k : Nat} (hk : 5 * k + 5 ≤ L) {σ τ : kS} {H : Heap} {locs : List Loc} {ls : Array Slot} (hl : lv_has ls 4 [(3, .int (nI (5 * k))), (2, .ref (bb 0 0)), (1, .ref (aa 0 0)), (0, .ref b)]) (hP1 : va_P D1 kCl (kW aa q1 σ) H) (hP2 : va_P D2 mCl (mW bb q2 τ) H) (hS : va_S (fun x => s.heap.size ≤ x) s.heap H locs) {r0 : Int32} {σ1 τ1 : kS} (hF : F_K_free σ (xs (5 * k + 1)) = some r0) (hG : F_M_free τ (xs (5 * k + 1)) = some r0) (kk : ∀ (H : Heap) (locs : List Loc), va_P D1 kCl (kW aa q1 σ) H → va_P D2 mCl (mW bb q2 τ) H → va_S (fun x => s.heap.size ≤ x) s.heap H locs → W p l e room_1 s m #[Value.ref b] below meth c H locs 108 1465 Q (F0 m 728 ls [])) : W p l e room_1 s m #[Value.ref b] below meth c H locs 108 1465 Q (F0 m 575 ls []) := by
  obtain ⟨hx, hb, hml, hown, ht⟩ := id S
  refine lv_aload_n hx hb de_W_law_575 rfl (lv_at hl 2 rfl) ?_
  refine lv_aload_n hx hb de_W_law_576 rfl (lv_at hl 3 rfl) ?_
  refine lv_iload_n hx hb de_W_law_577 rfl (lv_at hl 0 rfl) ?_
  refine lv_iconst (v := 1) hx hb de_W_law_578 (by decide) ?_
  refine lv_iadd hx hb de_W_law_579 ?_
  rw [show nI (5 * k) + 1 = nI (5 * k + 1) from nI_add (5 * k) 1]
  refine l_sld hx hb hX hbl hS (show 5 * k + 1 < L by omega) (by omega) de_W_law_580 ?_
  refine lk_i (va_runV (As := [.int (xs (5 * k + 1))]) (rest := []) S (c_K_free l D1 aa q1 hJ1 σ (xs (5 * k + 1)) r0 hF) (cwV 1 ht (gv_in tw_2_177 tw_2_178 tw_2_179 tw_1_1 tc_K_free) rfl rfl rfl bh_K_free ⟨Nat.le_of_ble_eq_true rfl, Nat.le_of_ble_eq_true rfl⟩) (kpreV hK1 hP1 (kr_0 hK1 hP1 (by decide))) rfl rfl hl.1 rfl (lv_room (Nat.le_of_ble_eq_true rfl)) de_W_law_581 ⟨(Nat.le_of_ble_eq_true rfl), (Nat.le_of_ble_eq_true rfl)⟩) hS hw1 hP2 hdj (fun H locs hP1 hP2 hS => ?_)
  refine lv_aload_n hx hb de_W_law_584 rfl (lv_at hl 1 rfl) ?_
  refine lv_aload_n hx hb de_W_law_585 rfl (lv_at hl 3 rfl) ?_
  refine lv_iload_n hx hb de_W_law_586 rfl (lv_at hl 0 rfl) ?_
  refine lv_iconst (v := 1) hx hb de_W_law_587 (by decide) ?_
  refine lv_iadd hx hb de_W_law_588 ?_
  rw [show nI (5 * k) + 1 = nI (5 * k + 1) from nI_add (5 * k) 1]
  refine l_sld hx hb hX hbl hS (show 5 * k + 1 < L by omega) (by omega) de_W_law_589 ?_
  refine lm_i (va_runV (As := [.int (xs (5 * k + 1))]) (rest := [.int r0]) S (c_M_free l D2 bb q2 hJ2 τ (xs (5 * k + 1)) r0 hG) (cwV 1 ht (gv_in tw_3_209 tw_3_210 tw_3_211 tw_1_7 tc_M_free) rfl rfl rfl bh_M_free ⟨Nat.le_of_ble_eq_true rfl, Nat.le_of_ble_eq_true rfl⟩) (mpreV hK2 hP2 (mr_0 hK2 hP2 (by decide))) rfl rfl hl.1 rfl (lv_room (Nat.le_of_ble_eq_true rfl)) de_W_law_590 ⟨(Nat.le_of_ble_eq_true rfl), (Nat.le_of_ble_eq_true rfl)⟩) hS hw2 hP1 (fun x h1 h2 => hdj x h2 h1) (fun H locs hP2 hP1 hS => ?_)
  refine lv_icmp_eq (tgt := 728) hx hb de_W_law_593 (by decide) (fun hc => ?_) (fun hc => ?_)
  · exact kk H locs hP1 hP2 hS
  · exact absurd rfl hc
set_option maxHeartbeats 4000000 in
set_option maxRecDepth 100000 in
theorem w_law_c14 {p : Program} {l : Launch} {e : Env} {s : State} {m : MethodId} {below : List Frame} {meth : Method} {c : Code} {Q : State → Prop} {D1 D2 : va_G} {aa bb : Nat → Nat → Nat} {q1 q2 : Nat → ClassId} {b L : Nat} {xs : Nat → Int32} (S : CallFix p m c bc_W_law 4 s #[Value.ref b] lw_g bR_W) (hX : va_X b L xs s s.heap) (hbl : b < s.heap.size) (hL : L ≤ 2560) (hJ1 : wJ kC aa) (hJ2 : wJ mC bb) (hw1 : ∀ x, wA kC aa x → s.heap.size ≤ x) (hw2 : ∀ x, wA mC bb x → s.heap.size ≤ x) (hdj : ∀ x, wA mC bb x → ¬ wA kC aa x) (hK1 : va_K D1 kCl (kT q1) s) (hK2 : va_K D2 mCl (mT q2) s) {k : Nat} (hk : 5 * k + 5 ≤ L) {σ τ : kS} {H : Heap} {locs : List Loc} {ls : Array Slot} (hl : lv_has ls 4 [(3, .int (nI (5 * k))), (2, .ref (bb 0 0)), (1, .ref (aa 0 0)), (0, .ref b)]) (hP1 : va_P D1 kCl (kW aa q1 σ) H) (hP2 : va_P D2 mCl (mW bb q2 τ) H) (hS : va_S (fun x => s.heap.size ≤ x) s.heap H locs) {r0 : Int32} {σ1 τ1 : kS} (hF : F_K_waiting σ (xs (5 * k + 1)) = some r0) (hG : F_M_waiting τ (xs (5 * k + 1)) = some r0) (kk : ∀ (H : Heap) (locs : List Loc), va_P D1 kCl (kW aa q1 σ) H → va_P D2 mCl (mW bb q2 τ) H → va_S (fun x => s.heap.size ≤ x) s.heap H locs → W p l e room_1 s m #[Value.ref b] below meth c H locs 108 1465 Q (F0 m 728 ls [])) : W p l e room_1 s m #[Value.ref b] below meth c H locs 108 1465 Q (F0 m 598 ls []) := by
  obtain ⟨hx, hb, hml, hown, ht⟩ := id S
  refine lv_aload_n hx hb de_W_law_598 rfl (lv_at hl 2 rfl) ?_
  refine lv_aload_n hx hb de_W_law_599 rfl (lv_at hl 3 rfl) ?_
  refine lv_iload_n hx hb de_W_law_600 rfl (lv_at hl 0 rfl) ?_
  refine lv_iconst (v := 1) hx hb de_W_law_601 (by decide) ?_
  refine lv_iadd hx hb de_W_law_602 ?_
  rw [show nI (5 * k) + 1 = nI (5 * k + 1) from nI_add (5 * k) 1]
  refine l_sld hx hb hX hbl hS (show 5 * k + 1 < L by omega) (by omega) de_W_law_603 ?_
  refine lk_i (va_runV (As := [.int (xs (5 * k + 1))]) (rest := []) S (c_K_waiting l D1 aa q1 hJ1 σ (xs (5 * k + 1)) r0 hF) (cwV 1 ht (gv_in tw_2_181 tw_2_182 tw_2_183 tw_1_1 tc_K_waiting) rfl rfl rfl bh_K_waiting ⟨Nat.le_of_ble_eq_true rfl, Nat.le_of_ble_eq_true rfl⟩) (kpreV hK1 hP1 (kr_0 hK1 hP1 (by decide))) rfl rfl hl.1 rfl (lv_room (Nat.le_of_ble_eq_true rfl)) de_W_law_604 ⟨(Nat.le_of_ble_eq_true rfl), (Nat.le_of_ble_eq_true rfl)⟩) hS hw1 hP2 hdj (fun H locs hP1 hP2 hS => ?_)
  refine lv_aload_n hx hb de_W_law_607 rfl (lv_at hl 1 rfl) ?_
  refine lv_aload_n hx hb de_W_law_608 rfl (lv_at hl 3 rfl) ?_
  refine lv_iload_n hx hb de_W_law_609 rfl (lv_at hl 0 rfl) ?_
  refine lv_iconst (v := 1) hx hb de_W_law_610 (by decide) ?_
  refine lv_iadd hx hb de_W_law_611 ?_
  rw [show nI (5 * k) + 1 = nI (5 * k + 1) from nI_add (5 * k) 1]
  refine l_sld hx hb hX hbl hS (show 5 * k + 1 < L by omega) (by omega) de_W_law_612 ?_
  refine lm_i (va_runV (As := [.int (xs (5 * k + 1))]) (rest := [.int r0]) S (c_M_waiting l D2 bb q2 hJ2 τ (xs (5 * k + 1)) r0 hG) (cwV 1 ht (gv_in tw_3_213 tw_3_214 tw_3_215 tw_1_7 tc_M_waiting) rfl rfl rfl bh_M_waiting ⟨Nat.le_of_ble_eq_true rfl, Nat.le_of_ble_eq_true rfl⟩) (mpreV hK2 hP2 (mr_0 hK2 hP2 (by decide))) rfl rfl hl.1 rfl (lv_room (Nat.le_of_ble_eq_true rfl)) de_W_law_613 ⟨(Nat.le_of_ble_eq_true rfl), (Nat.le_of_ble_eq_true rfl)⟩) hS hw2 hP1 (fun x h1 h2 => hdj x h2 h1) (fun H locs hP2 hP1 hS => ?_)
  refine lv_icmp_eq (tgt := 728) hx hb de_W_law_616 (by decide) (fun hc => ?_) (fun hc => ?_)
  · exact kk H locs hP1 hP2 hS
  · exact absurd rfl hc
set_option maxHeartbeats 4000000 in
set_option maxRecDepth 100000 in
theorem w_law_c15 {p : Program} {l : Launch} {e : Env} {s : State} {m : MethodId} {below : List Frame} {meth : Method} {c : Code} {Q : State → Prop} {D1 D2 : va_G} {aa bb : Nat → Nat → Nat} {q1 q2 : Nat → ClassId} {b L : Nat} {xs : Nat → Int32} (S : CallFix p m c bc_W_law 4 s #[Value.ref b] lw_g bR_W) (hX : va_X b L xs s s.heap) (hbl : b < s.heap.size) (hL : L ≤ 2560) (hJ1 : wJ kC aa) (hJ2 : wJ mC bb) (hw1 : ∀ x, wA kC aa x → s.heap.size ≤ x) (hw2 : ∀ x, wA mC bb x → s.heap.size ≤ x) (hdj : ∀ x, wA mC bb x → ¬ wA kC aa x) (hK1 : va_K D1 kCl (kT q1) s) (hK2 : va_K D2 mCl (mT q2) s) {k : Nat} (hk : 5 * k + 5 ≤ L) {σ τ : kS} {H : Heap} {locs : List Loc} {ls : Array Slot} (hl : lv_has ls 4 [(3, .int (nI (5 * k))), (2, .ref (bb 0 0)), (1, .ref (aa 0 0)), (0, .ref b)]) (hP1 : va_P D1 kCl (kW aa q1 σ) H) (hP2 : va_P D2 mCl (mW bb q2 τ) H) (hS : va_S (fun x => s.heap.size ≤ x) s.heap H locs) {r0 : Int64} {σ1 τ1 : kS} (hF : F_K_area σ (xs (5 * k + 1)) = some r0) (hG : F_M_area τ (xs (5 * k + 1)) = some r0) (kk : ∀ (H : Heap) (locs : List Loc), va_P D1 kCl (kW aa q1 σ) H → va_P D2 mCl (mW bb q2 τ) H → va_S (fun x => s.heap.size ≤ x) s.heap H locs → W p l e room_1 s m #[Value.ref b] below meth c H locs 108 1465 Q (F0 m 728 ls [])) : W p l e room_1 s m #[Value.ref b] below meth c H locs 108 1465 Q (F0 m 621 ls []) := by
  obtain ⟨hx, hb, hml, hown, ht⟩ := id S
  refine lv_aload_n hx hb de_W_law_621 rfl (lv_at hl 2 rfl) ?_
  refine lv_aload_n hx hb de_W_law_622 rfl (lv_at hl 3 rfl) ?_
  refine lv_iload_n hx hb de_W_law_623 rfl (lv_at hl 0 rfl) ?_
  refine lv_iconst (v := 1) hx hb de_W_law_624 (by decide) ?_
  refine lv_iadd hx hb de_W_law_625 ?_
  rw [show nI (5 * k) + 1 = nI (5 * k + 1) from nI_add (5 * k) 1]
  refine l_sld hx hb hX hbl hS (show 5 * k + 1 < L by omega) (by omega) de_W_law_626 ?_
  refine lk_l (va_runV (As := [.int (xs (5 * k + 1))]) (rest := []) S (c_K_area l D1 aa q1 hJ1 σ (xs (5 * k + 1)) r0 hF) (cwV 1 ht (gv_in tw_2_185 tw_2_186 tw_2_187 tw_1_1 tc_K_area) rfl rfl rfl bh_K_area ⟨Nat.le_of_ble_eq_true rfl, Nat.le_of_ble_eq_true rfl⟩) (kpreV hK1 hP1 (kr_0 hK1 hP1 (by decide))) rfl rfl hl.1 rfl (lv_room (Nat.le_of_ble_eq_true rfl)) de_W_law_627 ⟨(Nat.le_of_ble_eq_true rfl), (Nat.le_of_ble_eq_true rfl)⟩) hS hw1 hP2 hdj (fun H locs hP1 hP2 hS => ?_)
  refine lv_aload_n hx hb de_W_law_630 rfl (lv_at hl 1 rfl) ?_
  refine lv_aload_n hx hb de_W_law_631 rfl (lv_at hl 3 rfl) ?_
  refine lv_iload_n hx hb de_W_law_632 rfl (lv_at hl 0 rfl) ?_
  refine lv_iconst (v := 1) hx hb de_W_law_633 (by decide) ?_
  refine lv_iadd hx hb de_W_law_634 ?_
  rw [show nI (5 * k) + 1 = nI (5 * k + 1) from nI_add (5 * k) 1]
  refine l_sld hx hb hX hbl hS (show 5 * k + 1 < L by omega) (by omega) de_W_law_635 ?_
  refine lm_l (va_runV (As := [.int (xs (5 * k + 1))]) (rest := [.long r0]) S (c_M_area l D2 bb q2 hJ2 τ (xs (5 * k + 1)) r0 hG) (cwV 1 ht (gv_in tw_3_217 tw_3_218 tw_3_219 tw_1_7 tc_M_area) rfl rfl rfl bh_M_area ⟨Nat.le_of_ble_eq_true rfl, Nat.le_of_ble_eq_true rfl⟩) (mpreV hK2 hP2 (mr_0 hK2 hP2 (by decide))) rfl rfl hl.1 rfl (lv_room (Nat.le_of_ble_eq_true rfl)) de_W_law_636 ⟨(Nat.le_of_ble_eq_true rfl), (Nat.le_of_ble_eq_true rfl)⟩) hS hw2 hP1 (fun x h1 h2 => hdj x h2 h1) (fun H locs hP2 hP1 hS => ?_)
  refine W.lcmp hx hb de_W_law_639 ?_
  refine lv_if_eq (tgt := 728) hx hb de_W_law_640 (by decide) (fun hc => ?_) (fun hc => ?_)
  · exact kk H locs hP1 hP2 hS
  · exact absurd (by rw [lcz]) hc
set_option maxHeartbeats 4000000 in
set_option maxRecDepth 100000 in
theorem w_law_c16 {p : Program} {l : Launch} {e : Env} {s : State} {m : MethodId} {below : List Frame} {meth : Method} {c : Code} {Q : State → Prop} {D1 D2 : va_G} {aa bb : Nat → Nat → Nat} {q1 q2 : Nat → ClassId} {b L : Nat} {xs : Nat → Int32} (S : CallFix p m c bc_W_law 4 s #[Value.ref b] lw_g bR_W) (hX : va_X b L xs s s.heap) (hbl : b < s.heap.size) (hL : L ≤ 2560) (hJ1 : wJ kC aa) (hJ2 : wJ mC bb) (hw1 : ∀ x, wA kC aa x → s.heap.size ≤ x) (hw2 : ∀ x, wA mC bb x → s.heap.size ≤ x) (hdj : ∀ x, wA mC bb x → ¬ wA kC aa x) (hK1 : va_K D1 kCl (kT q1) s) (hK2 : va_K D2 mCl (mT q2) s) {k : Nat} (hk : 5 * k + 5 ≤ L) {σ τ : kS} {H : Heap} {locs : List Loc} {ls : Array Slot} (hl : lv_has ls 4 [(3, .int (nI (5 * k))), (2, .ref (bb 0 0)), (1, .ref (aa 0 0)), (0, .ref b)]) (hP1 : va_P D1 kCl (kW aa q1 σ) H) (hP2 : va_P D2 mCl (mW bb q2 τ) H) (hS : va_S (fun x => s.heap.size ≤ x) s.heap H locs) {r0 : Int64} {σ1 τ1 : kS} (hF : F_K_waited σ (xs (5 * k + 1)) = some r0) (hG : F_M_waited τ (xs (5 * k + 1)) = some r0) (kk : ∀ (H : Heap) (locs : List Loc), va_P D1 kCl (kW aa q1 σ) H → va_P D2 mCl (mW bb q2 τ) H → va_S (fun x => s.heap.size ≤ x) s.heap H locs → W p l e room_1 s m #[Value.ref b] below meth c H locs 108 1465 Q (F0 m 728 ls [])) : W p l e room_1 s m #[Value.ref b] below meth c H locs 108 1465 Q (F0 m 645 ls []) := by
  obtain ⟨hx, hb, hml, hown, ht⟩ := id S
  refine lv_aload_n hx hb de_W_law_645 rfl (lv_at hl 2 rfl) ?_
  refine lv_aload_n hx hb de_W_law_646 rfl (lv_at hl 3 rfl) ?_
  refine lv_iload_n hx hb de_W_law_647 rfl (lv_at hl 0 rfl) ?_
  refine lv_iconst (v := 1) hx hb de_W_law_648 (by decide) ?_
  refine lv_iadd hx hb de_W_law_649 ?_
  rw [show nI (5 * k) + 1 = nI (5 * k + 1) from nI_add (5 * k) 1]
  refine l_sld hx hb hX hbl hS (show 5 * k + 1 < L by omega) (by omega) de_W_law_650 ?_
  refine lk_l (va_runV (As := [.int (xs (5 * k + 1))]) (rest := []) S (c_K_waited l D1 aa q1 hJ1 σ (xs (5 * k + 1)) r0 hF) (cwV 1 ht (gv_in tw_2_189 tw_2_190 tw_2_191 tw_1_1 tc_K_waited) rfl rfl rfl bh_K_waited ⟨Nat.le_of_ble_eq_true rfl, Nat.le_of_ble_eq_true rfl⟩) (kpreV hK1 hP1 (kr_0 hK1 hP1 (by decide))) rfl rfl hl.1 rfl (lv_room (Nat.le_of_ble_eq_true rfl)) de_W_law_651 ⟨(Nat.le_of_ble_eq_true rfl), (Nat.le_of_ble_eq_true rfl)⟩) hS hw1 hP2 hdj (fun H locs hP1 hP2 hS => ?_)
  refine lv_aload_n hx hb de_W_law_654 rfl (lv_at hl 1 rfl) ?_
  refine lv_aload_n hx hb de_W_law_655 rfl (lv_at hl 3 rfl) ?_
  refine lv_iload_n hx hb de_W_law_656 rfl (lv_at hl 0 rfl) ?_
  refine lv_iconst (v := 1) hx hb de_W_law_657 (by decide) ?_
  refine lv_iadd hx hb de_W_law_658 ?_
  rw [show nI (5 * k) + 1 = nI (5 * k + 1) from nI_add (5 * k) 1]
  refine l_sld hx hb hX hbl hS (show 5 * k + 1 < L by omega) (by omega) de_W_law_659 ?_
  refine lm_l (va_runV (As := [.int (xs (5 * k + 1))]) (rest := [.long r0]) S (c_M_waited l D2 bb q2 hJ2 τ (xs (5 * k + 1)) r0 hG) (cwV 1 ht (gv_in tw_3_221 tw_3_222 tw_3_223 tw_1_7 tc_M_waited) rfl rfl rfl bh_M_waited ⟨Nat.le_of_ble_eq_true rfl, Nat.le_of_ble_eq_true rfl⟩) (mpreV hK2 hP2 (mr_0 hK2 hP2 (by decide))) rfl rfl hl.1 rfl (lv_room (Nat.le_of_ble_eq_true rfl)) de_W_law_660 ⟨(Nat.le_of_ble_eq_true rfl), (Nat.le_of_ble_eq_true rfl)⟩) hS hw2 hP1 (fun x h1 h2 => hdj x h2 h1) (fun H locs hP2 hP1 hS => ?_)
  refine W.lcmp hx hb de_W_law_663 ?_
  refine lv_if_eq (tgt := 728) hx hb de_W_law_664 (by decide) (fun hc => ?_) (fun hc => ?_)
  · exact kk H locs hP1 hP2 hS
  · exact absurd (by rw [lcz]) hc
set_option maxHeartbeats 4000000 in
set_option maxRecDepth 100000 in
theorem w_law_c17 {p : Program} {l : Launch} {e : Env} {s : State} {m : MethodId} {below : List Frame} {meth : Method} {c : Code} {Q : State → Prop} {D1 D2 : va_G} {aa bb : Nat → Nat → Nat} {q1 q2 : Nat → ClassId} {b L : Nat} {xs : Nat → Int32} (S : CallFix p m c bc_W_law 4 s #[Value.ref b] lw_g bR_W) (hX : va_X b L xs s s.heap) (hbl : b < s.heap.size) (hL : L ≤ 2560) (hJ1 : wJ kC aa) (hJ2 : wJ mC bb) (hw1 : ∀ x, wA kC aa x → s.heap.size ≤ x) (hw2 : ∀ x, wA mC bb x → s.heap.size ≤ x) (hdj : ∀ x, wA mC bb x → ¬ wA kC aa x) (hK1 : va_K D1 kCl (kT q1) s) (hK2 : va_K D2 mCl (mT q2) s) {k : Nat} (hk : 5 * k + 5 ≤ L) {σ τ : kS} {H : Heap} {locs : List Loc} {ls : Array Slot} (hl : lv_has ls 4 [(3, .int (nI (5 * k))), (2, .ref (bb 0 0)), (1, .ref (aa 0 0)), (0, .ref b)]) (hP1 : va_P D1 kCl (kW aa q1 σ) H) (hP2 : va_P D2 mCl (mW bb q2 τ) H) (hS : va_S (fun x => s.heap.size ≤ x) s.heap H locs) {r0 : Int32} {σ1 τ1 : kS} (hF : F_K_level σ (xs (5 * k + 1)) = some r0) (hG : F_M_level τ (xs (5 * k + 1)) = some r0) (kk : ∀ (H : Heap) (locs : List Loc), va_P D1 kCl (kW aa q1 σ) H → va_P D2 mCl (mW bb q2 τ) H → va_S (fun x => s.heap.size ≤ x) s.heap H locs → W p l e room_1 s m #[Value.ref b] below meth c H locs 108 1465 Q (F0 m 728 ls [])) : W p l e room_1 s m #[Value.ref b] below meth c H locs 108 1465 Q (F0 m 669 ls []) := by
  obtain ⟨hx, hb, hml, hown, ht⟩ := id S
  refine lv_aload_n hx hb de_W_law_669 rfl (lv_at hl 2 rfl) ?_
  refine lv_aload_n hx hb de_W_law_670 rfl (lv_at hl 3 rfl) ?_
  refine lv_iload_n hx hb de_W_law_671 rfl (lv_at hl 0 rfl) ?_
  refine lv_iconst (v := 1) hx hb de_W_law_672 (by decide) ?_
  refine lv_iadd hx hb de_W_law_673 ?_
  rw [show nI (5 * k) + 1 = nI (5 * k + 1) from nI_add (5 * k) 1]
  refine l_sld hx hb hX hbl hS (show 5 * k + 1 < L by omega) (by omega) de_W_law_674 ?_
  refine lk_i (va_runV (As := [.int (xs (5 * k + 1))]) (rest := []) S (c_K_level l D1 aa q1 hJ1 σ (xs (5 * k + 1)) r0 hF) (cwV 1 ht (gv_in tw_2_193 tw_2_194 tw_2_195 tw_1_1 tc_K_level) rfl rfl rfl bh_K_level ⟨Nat.le_of_ble_eq_true rfl, Nat.le_of_ble_eq_true rfl⟩) (kpreV hK1 hP1 (kr_0 hK1 hP1 (by decide))) rfl rfl hl.1 rfl (lv_room (Nat.le_of_ble_eq_true rfl)) de_W_law_675 ⟨(Nat.le_of_ble_eq_true rfl), (Nat.le_of_ble_eq_true rfl)⟩) hS hw1 hP2 hdj (fun H locs hP1 hP2 hS => ?_)
  refine lv_aload_n hx hb de_W_law_678 rfl (lv_at hl 1 rfl) ?_
  refine lv_aload_n hx hb de_W_law_679 rfl (lv_at hl 3 rfl) ?_
  refine lv_iload_n hx hb de_W_law_680 rfl (lv_at hl 0 rfl) ?_
  refine lv_iconst (v := 1) hx hb de_W_law_681 (by decide) ?_
  refine lv_iadd hx hb de_W_law_682 ?_
  rw [show nI (5 * k) + 1 = nI (5 * k + 1) from nI_add (5 * k) 1]
  refine l_sld hx hb hX hbl hS (show 5 * k + 1 < L by omega) (by omega) de_W_law_683 ?_
  refine lm_i (va_runV (As := [.int (xs (5 * k + 1))]) (rest := [.int r0]) S (c_M_level l D2 bb q2 hJ2 τ (xs (5 * k + 1)) r0 hG) (cwV 1 ht (gv_in tw_3_225 tw_3_226 tw_3_227 tw_1_7 tc_M_level) rfl rfl rfl bh_M_level ⟨Nat.le_of_ble_eq_true rfl, Nat.le_of_ble_eq_true rfl⟩) (mpreV hK2 hP2 (mr_0 hK2 hP2 (by decide))) rfl rfl hl.1 rfl (lv_room (Nat.le_of_ble_eq_true rfl)) de_W_law_684 ⟨(Nat.le_of_ble_eq_true rfl), (Nat.le_of_ble_eq_true rfl)⟩) hS hw2 hP1 (fun x h1 h2 => hdj x h2 h1) (fun H locs hP2 hP1 hS => ?_)
  refine lv_icmp_eq (tgt := 728) hx hb de_W_law_687 (by decide) (fun hc => ?_) (fun hc => ?_)
  · exact kk H locs hP1 hP2 hS
  · exact absurd rfl hc
set_option maxHeartbeats 4000000 in
set_option maxRecDepth 100000 in
theorem w_law_c18 {p : Program} {l : Launch} {e : Env} {s : State} {m : MethodId} {below : List Frame} {meth : Method} {c : Code} {Q : State → Prop} {D1 D2 : va_G} {aa bb : Nat → Nat → Nat} {q1 q2 : Nat → ClassId} {b L : Nat} {xs : Nat → Int32} (S : CallFix p m c bc_W_law 4 s #[Value.ref b] lw_g bR_W) (hX : va_X b L xs s s.heap) (hbl : b < s.heap.size) (hL : L ≤ 2560) (hJ1 : wJ kC aa) (hJ2 : wJ mC bb) (hw1 : ∀ x, wA kC aa x → s.heap.size ≤ x) (hw2 : ∀ x, wA mC bb x → s.heap.size ≤ x) (hdj : ∀ x, wA mC bb x → ¬ wA kC aa x) (hK1 : va_K D1 kCl (kT q1) s) (hK2 : va_K D2 mCl (mT q2) s) {k : Nat} (hk : 5 * k + 5 ≤ L) {σ τ : kS} {H : Heap} {locs : List Loc} {ls : Array Slot} (hl : lv_has ls 4 [(3, .int (nI (5 * k))), (2, .ref (bb 0 0)), (1, .ref (aa 0 0)), (0, .ref b)]) (hP1 : va_P D1 kCl (kW aa q1 σ) H) (hP2 : va_P D2 mCl (mW bb q2 τ) H) (hS : va_S (fun x => s.heap.size ≤ x) s.heap H locs) {r0 : Int32} {σ1 τ1 : kS} (hF : F_K_stuck σ  = some r0) (hG : F_M_stuck τ  = some r0) (kk : ∀ (H : Heap) (locs : List Loc), va_P D1 kCl (kW aa q1 σ) H → va_P D2 mCl (mW bb q2 τ) H → va_S (fun x => s.heap.size ≤ x) s.heap H locs → W p l e room_1 s m #[Value.ref b] below meth c H locs 108 1465 Q (F0 m 728 ls [])) : W p l e room_1 s m #[Value.ref b] below meth c H locs 108 1465 Q (F0 m 692 ls []) := by
  obtain ⟨hx, hb, hml, hown, ht⟩ := id S
  refine lv_aload_n hx hb de_W_law_692 rfl (lv_at hl 2 rfl) ?_
  refine lk_i (va_runV (As := []) (rest := []) S (c_K_stuck l D1 aa q1 hJ1 σ  r0 hF) (cwV 0 ht (gv_in tw_2_197 tw_2_198 tw_2_199 tw_1_1 tc_K_stuck) rfl rfl rfl bh_K_stuck ⟨Nat.le_of_ble_eq_true rfl, Nat.le_of_ble_eq_true rfl⟩) (kpreV hK1 hP1 (kr_0 hK1 hP1 (by decide))) rfl rfl hl.1 rfl (lv_room (Nat.le_of_ble_eq_true rfl)) de_W_law_693 ⟨(Nat.le_of_ble_eq_true rfl), (Nat.le_of_ble_eq_true rfl)⟩) hS hw1 hP2 hdj (fun H locs hP1 hP2 hS => ?_)
  refine lv_aload_n hx hb de_W_law_696 rfl (lv_at hl 1 rfl) ?_
  refine lm_i (va_runV (As := []) (rest := [.int r0]) S (c_M_stuck l D2 bb q2 hJ2 τ  r0 hG) (cwV 0 ht (gv_in tw_3_229 tw_3_230 tw_3_231 tw_1_7 tc_M_stuck) rfl rfl rfl bh_M_stuck ⟨Nat.le_of_ble_eq_true rfl, Nat.le_of_ble_eq_true rfl⟩) (mpreV hK2 hP2 (mr_0 hK2 hP2 (by decide))) rfl rfl hl.1 rfl (lv_room (Nat.le_of_ble_eq_true rfl)) de_W_law_697 ⟨(Nat.le_of_ble_eq_true rfl), (Nat.le_of_ble_eq_true rfl)⟩) hS hw2 hP1 (fun x h1 h2 => hdj x h2 h1) (fun H locs hP2 hP1 hS => ?_)
  refine lv_icmp_eq (tgt := 728) hx hb de_W_law_700 (by decide) (fun hc => ?_) (fun hc => ?_)
  · exact kk H locs hP1 hP2 hS
  · exact absurd rfl hc
set_option maxHeartbeats 4000000 in
set_option maxRecDepth 100000 in
theorem w_law_c19 {p : Program} {l : Launch} {e : Env} {s : State} {m : MethodId} {below : List Frame} {meth : Method} {c : Code} {Q : State → Prop} {D1 D2 : va_G} {aa bb : Nat → Nat → Nat} {q1 q2 : Nat → ClassId} {b L : Nat} {xs : Nat → Int32} (S : CallFix p m c bc_W_law 4 s #[Value.ref b] lw_g bR_W) (hX : va_X b L xs s s.heap) (hbl : b < s.heap.size) (hL : L ≤ 2560) (hJ1 : wJ kC aa) (hJ2 : wJ mC bb) (hw1 : ∀ x, wA kC aa x → s.heap.size ≤ x) (hw2 : ∀ x, wA mC bb x → s.heap.size ≤ x) (hdj : ∀ x, wA mC bb x → ¬ wA kC aa x) (hK1 : va_K D1 kCl (kT q1) s) (hK2 : va_K D2 mCl (mT q2) s) {k : Nat} (hk : 5 * k + 5 ≤ L) {σ τ : kS} {H : Heap} {locs : List Loc} {ls : Array Slot} (hl : lv_has ls 4 [(3, .int (nI (5 * k))), (2, .ref (bb 0 0)), (1, .ref (aa 0 0)), (0, .ref b)]) (hP1 : va_P D1 kCl (kW aa q1 σ) H) (hP2 : va_P D2 mCl (mW bb q2 τ) H) (hS : va_S (fun x => s.heap.size ≤ x) s.heap H locs) {r0 : Int32} {σ1 τ1 : kS} (hF : F_K_traced σ (xs (5 * k + 1)) = some r0) (hG : F_M_traced τ (xs (5 * k + 1)) = some r0) (kk : ∀ (H : Heap) (locs : List Loc), va_P D1 kCl (kW aa q1 σ) H → va_P D2 mCl (mW bb q2 τ) H → va_S (fun x => s.heap.size ≤ x) s.heap H locs → W p l e room_1 s m #[Value.ref b] below meth c H locs 108 1465 Q (F0 m 728 ls [])) : W p l e room_1 s m #[Value.ref b] below meth c H locs 108 1465 Q (F0 m 705 ls []) := by
  obtain ⟨hx, hb, hml, hown, ht⟩ := id S
  refine lv_aload_n hx hb de_W_law_705 rfl (lv_at hl 2 rfl) ?_
  refine lv_aload_n hx hb de_W_law_706 rfl (lv_at hl 3 rfl) ?_
  refine lv_iload_n hx hb de_W_law_707 rfl (lv_at hl 0 rfl) ?_
  refine lv_iconst (v := 1) hx hb de_W_law_708 (by decide) ?_
  refine lv_iadd hx hb de_W_law_709 ?_
  rw [show nI (5 * k) + 1 = nI (5 * k + 1) from nI_add (5 * k) 1]
  refine l_sld hx hb hX hbl hS (show 5 * k + 1 < L by omega) (by omega) de_W_law_710 ?_
  refine lk_i (va_runV (As := [.int (xs (5 * k + 1))]) (rest := []) S (c_K_traced l D1 aa q1 hJ1 σ (xs (5 * k + 1)) r0 hF) (cwV 1 ht (gv_in tw_2_201 tw_2_202 tw_2_203 tw_1_1 tc_K_traced) rfl rfl rfl bh_K_traced ⟨Nat.le_of_ble_eq_true rfl, Nat.le_of_ble_eq_true rfl⟩) (kpreV hK1 hP1 (kr_0 hK1 hP1 (by decide))) rfl rfl hl.1 rfl (lv_room (Nat.le_of_ble_eq_true rfl)) de_W_law_711 ⟨(Nat.le_of_ble_eq_true rfl), (Nat.le_of_ble_eq_true rfl)⟩) hS hw1 hP2 hdj (fun H locs hP1 hP2 hS => ?_)
  refine lv_aload_n hx hb de_W_law_714 rfl (lv_at hl 1 rfl) ?_
  refine lv_aload_n hx hb de_W_law_715 rfl (lv_at hl 3 rfl) ?_
  refine lv_iload_n hx hb de_W_law_716 rfl (lv_at hl 0 rfl) ?_
  refine lv_iconst (v := 1) hx hb de_W_law_717 (by decide) ?_
  refine lv_iadd hx hb de_W_law_718 ?_
  rw [show nI (5 * k) + 1 = nI (5 * k + 1) from nI_add (5 * k) 1]
  refine l_sld hx hb hX hbl hS (show 5 * k + 1 < L by omega) (by omega) de_W_law_719 ?_
  refine lm_i (va_runV (As := [.int (xs (5 * k + 1))]) (rest := [.int r0]) S (c_M_traced l D2 bb q2 hJ2 τ (xs (5 * k + 1)) r0 hG) (cwV 1 ht (gv_in tw_3_233 tw_3_234 tw_3_235 tw_1_7 tc_M_traced) rfl rfl rfl bh_M_traced ⟨Nat.le_of_ble_eq_true rfl, Nat.le_of_ble_eq_true rfl⟩) (mpreV hK2 hP2 (mr_0 hK2 hP2 (by decide))) rfl rfl hl.1 rfl (lv_room (Nat.le_of_ble_eq_true rfl)) de_W_law_720 ⟨(Nat.le_of_ble_eq_true rfl), (Nat.le_of_ble_eq_true rfl)⟩) hS hw2 hP1 (fun x h1 h2 => hdj x h2 h1) (fun H locs hP2 hP1 hS => ?_)
  refine lv_icmp_eq (tgt := 728) hx hb de_W_law_723 (by decide) (fun hc => ?_) (fun hc => ?_)
  · exact kk H locs hP1 hP2 hS
  · exact absurd rfl hc
