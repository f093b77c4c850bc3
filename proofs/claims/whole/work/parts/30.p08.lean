theorem Lo_head {p : Nat} {L : Nat → List Nat} {r : Nat} {l : List Nat} (hl : L r = p :: l) (nd : (L r).Nodup) : Lo p L r = l := by
  have h2 : p ∉ l := by
    rw [hl] at nd
    exact (List.nodup_cons.mp nd).1
  show (L r).filter (fun q => q ≠ p) = l
  rw [hl, List.filter_cons]
  simp only [ne_eq, not_true, decide_false, Bool.false_eq_true, if_false]
  rw [List.filter_eq_self]
  intro q hq
  simp only [decide_not, Bool.not_eq_eq_eq_not, Bool.not_true, decide_eq_false_iff_not]
  exact fun e => h2 (e ▸ hq)
theorem serve_loop {N c ev r : Nat} (hr : r < 4) : ∀ (l : List Nat) (n n' k o : Nat) (L : Nat → List Nat) (s t : kS), Rel N o c ev L s t → L r = l → l.length < n → k + l.length ≤ 12 → 12 - k < n' → o + l.length < 2 ^ 31 → ∃ (s' t' : kS) (a a' : Nat) (b b' : Int32) (o' : Nat) (L' : Nat → List Nat), F_K_serve_21 n s (nI r) r (nI l.length) = some (a, s', b) ∧ F_M_serve_2 n' t (nI r) (nI k) = some (a', t', b') ∧ Rel N o' c ev L' s' t' ∧ St s s' t t' ∧ (∀ q, gI s 7 q 0 ≠ 4 → Kp q s s') ∧ o' ≤ o + l.length := by
  intro l
  induction l with
  | nil =>
    intro n n' k o L s t h hl hn hk hn' ho
    obtain ⟨n, rfl⟩ : ∃ k, n = k + 1 := ⟨n - 1, by simp at hn; omega⟩
    obtain ⟨n', rfl⟩ : ∃ k, n' = k + 1 := ⟨n' - 1, by omega⟩
    simp only [List.length_nil] at hk
    have e1 : F_K_serve_21 (n + 1) s (nI r) r (nI ([] : List Nat).length) = some (1, s, nI 0) := by
      unfold F_K_serve_21
      rw [List.length_nil, nI_0, if_pos (by decide)]
    by_cases hk12 : k = 12
    · subst hk12
      refine ⟨s, t, _, 1, _, nI 12, o, L, e1, ?_, h, St.rf s t, fun q _ => Kp.rf q s, by omega⟩
      unfold F_M_serve_2
      rw [if_pos (by rw [le_12] <;> omega)]
    · refine ⟨s, t, _, 0, _, nI k, o, L, e1, ?_, h, St.rf s t, fun q _ => Kp.rf q s, by omega⟩
      unfold F_M_serve_2
      rw [if_neg (by rw [le_12] <;> omega), M_head h hr, hl, sb_some]
      rw [if_pos (by decide)]
  | cons p l ih =>
    intro n n' k o L s t h hl hn hk hn' ho
    obtain ⟨n, rfl⟩ : ∃ k, n = k + 1 := ⟨n - 1, by omega⟩
    obtain ⟨n', rfl⟩ : ∃ k, n' = k + 1 := ⟨n' - 1, by omega⟩
    simp only [List.length_cons] at hk hn ho
    have hN := h.1.1
    have hc : gI t 30 0 0 = nI N := h.1.2.2.1
    obtain ⟨d, sf, tf, d1, d2, pN, d3, d4, d5, d6, d7, k1, k2, k3, k4, k5⟩ := serve_step h hr hl (by omega)
    have hcap : gI s 15 r 0 = gI t 15 0 r := (h.2.2.2.2.2.2.2.2.2.2.2.2.1 r hr).1
    have hsz : gI s 16 r 0 = sS t r N := h.2.2.2.2.2.2.2.2.2.2.2.1 r hr
    have nd := (L_len h (r := r) (by omega)).1
    unfold F_K_serve_21 F_M_serve_2
    rw [if_neg (by rw [nI_le0 (by simp; omega)]; simp), if_neg (by rw [le_12] <;> omega), M_head h hr, hl]
    simp (disch := omega) only [inb_0, sg_true, cl_0, d6, inb_nI, nI_clamp, sl_x, K_second s d3 (by omega), sb_some, K_unseized, hd1, nI_lt0, if_false, M_done (by omega : p < 12) d4 d1, d5, M_rest hr hN hc, mul_4, nI_add, ← hcap, ← hsz]
    by_cases hb : gI s 13 p (d - 1) ≤ gI s 15 r 0 - gI s 16 r 0
    · rw [if_pos hb, if_pos hb]
      rw [K_give _ _ hr] at k1 ⊢
      simp only [sb_some, sl_x] at k1 k2 ⊢
      obtain ⟨r9, q1, q2⟩ := bd_some k1
      rw [q1, sb_some, q2, sb_some, k2, sb_some]
      have e2 : nI (p :: l).length + (-1) = nI l.length := by
        rw [nI_addm1 (by simp)]; rfl
      rw [e2, nI_1]
      obtain ⟨s', t', a, a', b, b', o', L', z1, z2, z3, z4, z5, z6⟩ := ih n n' (k + 1) (o + 1) (Lo p L) sf tf k3 (Lo_head hl nd) (by omega) (by omega) (by omega) (by omega)
      refine ⟨s', t', a, a', b, b', o', L', z1, z2, z3, k4.tr z4, fun q hq => ?_, by simp only [List.length_cons]; omega⟩
      have hqp : q ≠ p := by
        rintro rfl
        exact hq (((mem_q h (r := r) (by omega) (by rw [hl]; exact List.mem_cons_self ..)).2.1 hr).1)
      have e3 := k5 q hqp
      exact e3.tr (z5 q (by rw [e3.1]; exact hq))
    · rw [if_neg hb, if_neg hb]
      exact ⟨s, t, _, _, _, _, o, L, rfl, rfl, h, St.rf s t, fun q _ => Kp.rf q s, by omega⟩
theorem r_serve {N o c ev r : Nat} {L : Nat → List Nat} {s t : kS} (h : Rel N o c ev L s t) (hr : r < 4) (ho : o + 12 < 2 ^ 31) : ∃ (s' t' : kS) (o' : Nat) (L' : Nat → List Nat), F_K_serve s (nI r) = some s' ∧ F_M_serve t (nI r) = some t' ∧ Rel N o' c ev L' s' t' ∧ St s s' t t' ∧ (∀ q, gI s 7 q 0 ≠ 4 → Kp q s s') ∧ o' ≤ o + 12 := by
  have hN := h.1.1
  have hlen := (L_len h (r := r) (by omega)).2.1
  obtain ⟨s', t', a, a', b, b', o', L', z1, z2, z3, z4, z5, z6⟩ := serve_loop hr (L r) 1000 1000 0 o L s t h rfl (by omega) (by omega) (by omega) (by omega)
  have e : gI s 19 r 0 = nI (L r).length := ((h.2.2.2.2.2.2.2.2.2.2.1).1 r (by omega)).1
  refine ⟨s', t', o', L', ?_, ?_, z3, z4, z5, by omega⟩
  · unfold F_K_serve
    simp (disch := omega) only [nI_eqm1, if_false, inb_nI, sg_true, nI_clamp, sl_x, e, z1, sb_some]
    split <;> rfl
  · unfold F_M_serve
    rw [nI_0] at z2
    rw [z2, sb_some]
    split <;> rfl
