theorem line_drop2 {N o c ev : Nat} {L : Nat → List Nat} {s t s1 : kS} (h : Rel N o c ev L s t) (h1 : ∀ r, r < 5 → LI s1 r (L r)) {r p : Nat} (hr : r < 5) (hp : p ∈ L r) : ∃ (f : Nat → Int32) (v : Int32), F_L_drop s1 r (nI p) = some (sI (sR s1 r f) 19 r 0 v) ∧ ∀ r', r' < 5 → LI (sI (sR s1 r f) 19 r 0 v) r' (Lo p L r') := by
  obtain ⟨nd, len, lt⟩ := L_len h hr
  obtain ⟨f, h1', h2⟩ := L_drop s1 r p (L r) (lt p hp) (by have := h.1.1; omega) lt (h1 r hr)
  refine ⟨f, _, h1', fun r' hr' => ?_⟩
  by_cases e : r' = r
  · subst e
    exact LI_this h2
  · rw [Lo_not (fun z => e (mem_one h hr hr' hp z))]
    exact LI_other e (h1 r' hr')
theorem op_lt4 {x : Int32} (h0 : 0 ≤ x) (h3 : x ≤ 3) : ∃ r : Nat, r < 4 ∧ x = nI r := by
  refine ⟨x.toNatClampNeg, ?_, int_nI h0⟩
  have h1 := int_nI h0
  rw [h1, show (3 : Int32) = nI 3 from rfl] at h3
  obtain ⟨j, hj, e⟩ := nI_of (x := x) (by grind)
  rw [e, nI_clamp hj] at h3 ⊢
  rw [nI_leI hj (by omega)] at h3
  omega
theorem op_lt12 {x : Int32} (h0 : 0 ≤ x) (h3 : x ≤ 11) : ∃ r : Nat, r < 12 ∧ x = nI r := by
  obtain ⟨j, hj, e⟩ := nI_of (x := x) (by grind)
  refine ⟨j, ?_, e⟩
  rw [e, show (11 : Int32) = nI 11 from rfl, nI_leI hj (by omega)] at h3
  omega
/-- a queued one's resource -/
theorem q_res {N o c ev : Nat} {L : Nat → List Nat} {s t : kS} (h : Rel N o c ev L s t) {p : Nat} (hp : p < N) (h4 : gI s 7 p 0 = 4) : ∃ r sp : Nat, r < 4 ∧ p ∈ L r ∧ 1 ≤ sp ∧ sp ≤ 10 ∧ gI t 5 0 p = nI sp ∧ gI s 9 p 0 = nI (sp - 1) ∧ gI s 12 p (sp - 1) = nI r ∧ gI t 12 0 (10 * p + (sp - 1)) = nI r := by
  have hN := h.1.1
  obtain ⟨sp, d1, d2, d3, d4, d5, d6, d7, d8, d9, d10, d11⟩ := q_read h (p := p) (by omega) (Or.inl h4)
  have ho := d7 h4
  rw [ho] at d6
  obtain ⟨a0, a3⟩ := d6.2.2.1 (by decide) (by decide)
  obtain ⟨r, hr, e⟩ := op_lt4 a0 a3
  refine ⟨r, sp, hr, ?_, d1, d2, d4, d5, e, by rw [d10, e]⟩
  refine ((h.2.2.2.2.2.2.2.2.2.2.1).2.1 r hr p).mpr ⟨hp, h4, ?_⟩
  rw [d5, nI_clamp (by omega), e]
theorem not_in {N o c ev : Nat} {L : Nat → List Nat} {s t : kS} (h : Rel N o c ev L s t) {p : Nat} (h4 : gI s 7 p 0 ≠ 4) (h5 : gI s 7 p 0 ≠ 5) (r : Nat) (hr : r < 5) : p ∉ L r := by
  intro hp
  obtain ⟨-, a1, a2⟩ := mem_q h hr hp
  by_cases e : r = 4
  · exact h5 (a2 e)
  · exact h4 (a1 (by omega)).1
theorem K_leave {N o c ev : Nat} {L : Nat → List Nat} {s t : kS} (h : Rel N o c ev L s t) {p : Nat} (hp : p < N) : ∃ s1, F_K_leave s p = some s1 ∧ Af p s s1 ∧ (∀ r, r < 5 → LI s1 r (Lo p L r)) ∧ gI s1 10 p 0 = 0 ∧ gI s1 7 p 0 = gI s 7 p 0 ∧ gI s1 8 p 0 = gI s 8 p 0 ∧ gI s1 5 p 0 = gI s 5 p 0 ∧ gI s1 6 p 0 = gI s 6 p 0 ∧ (∀ k j i, gL s1 k j i = gL s k j i) := by
  have hN := h.1.1
  have hL := h.2.2.2.2.2.2.2.2.2.2.1
  have A0 : Af p s (sI s 10 p 0 0) := by
    refine ⟨fun k j i h5 h7 h8 h9 h10 h18 h19 => ?_, fun q hq => ?_, fun k j i h1 h2 h3 => rfl⟩
    · simp [gI_sI, h10]
    · simp [gI_sI, hq]
  have hno : gI (sI s 10 p 0 0) 2 p 0 = nI p := (h.2.1 p (by omega)).1
  have e7 : gI (sI s 10 p 0 0) 7 p 0 = gI s 7 p 0 := rfl
  by_cases h4 : gI s 7 p 0 = 4
  · obtain ⟨r, sp, hr, hm, s1, s2, s3, s4, s5, s6⟩ := q_res h hp h4
    obtain ⟨f, v, k1, k2⟩ := line_drop2 h (s1 := sI s 10 p 0 0) hL.1 (r := r) (by omega) hm
    refine ⟨_, ?_, A0.tr (Af_line _ p r f v), k2, ?_, rfl, rfl, rfl, rfl, fun _ _ _ => rfl⟩
    · unfold F_K_leave
      rw [sl_x, e7, if_pos h4, K_first (sI s 10 p 0 0) (d := sp - 1) s4 (by omega), sb_some]
      rw [show gI (sI s 10 p 0 0) 12 p (sp - 1) = nI r from s5]
      simp (disch := omega) only [inb_nI, sg_true, sl_x, nI_clamp]
      rw [hno, k1, sb_some]
      rw [show gI (sI (sR (sI s 10 p 0 0) r f) 19 r 0 v) 7 p 0 = gI s 7 p 0 from rfl, h4, if_neg (by decide)]
    · show gI (sI s 10 p 0 0) 10 p 0 = 0
      exact gI_self ..
  · by_cases h5 : gI s 7 p 0 = 5
    · have hm : p ∈ L 4 := (hL.2.2.1 p).mpr ⟨hp, h5⟩
      obtain ⟨f, v, k1, k2⟩ := line_drop2 h (s1 := sI s 10 p 0 0) hL.1 (r := 4) (by omega) hm
      refine ⟨_, ?_, A0.tr (Af_line _ p 4 f v), k2, ?_, rfl, rfl, rfl, rfl, fun _ _ _ => rfl⟩
      · unfold F_K_leave
        rw [sl_x, e7, if_neg h4, if_pos h5, hno, k1, sb_some]
      · show gI (sI s 10 p 0 0) 10 p 0 = 0
        exact gI_self ..
    · refine ⟨_, ?_, A0, ?_, gI_self .., rfl, rfl, rfl, rfl, fun _ _ _ => rfl⟩
      · unfold F_K_leave
        rw [sl_x, e7, if_neg h4, if_neg h5]
      · intro r hr
        rw [Lo_not (not_in h h4 h5 r hr)]
        exact hL.1 r hr
theorem arg_p {N o c ev : Nat} {L : Nat → List Nat} {s t : kS} (h : Rel N o c ev L s t) (x : Int32) : (F_K_isProcess s x = some 0 ∧ F_M_none t x = some 1 ∧ ∀ p : Nat, p < N → x ≠ nI p) ∨ ∃ p : Nat, p < N ∧ x = nI p ∧ F_K_isProcess s x = some 1 ∧ F_M_none t x = some 0 := by
  have hN := h.1.1
  have g1 := h.1.2.1
  have g2 := h.1.2.2.1
  unfold F_K_isProcess F_M_none
  by_cases h0 : x < 0
  · rw [if_pos h0, if_pos h0]
    refine Or.inl ⟨rfl, rfl, fun p hp e => ?_⟩
    rw [e, nI_lt0 (by omega)] at h0
    exact h0
  · obtain ⟨j, hj, rfl⟩ := nI_of h0
    rw [if_neg h0, if_neg h0, g1, g2]
    by_cases h1 : j < N
    · refine Or.inr ⟨j, h1, rfl, ?_, ?_⟩
      · rw [if_neg (by rw [nI_leI] <;> omega)]
      · rw [if_pos (by rw [nI_ltI] <;> omega)]
    · refine Or.inl ⟨?_, ?_, fun p hp e => ?_⟩
      · rw [if_pos (by rw [nI_leI] <;> omega)]
      · rw [if_neg (by rw [nI_ltI] <;> omega)]
      · rw [nI_eq (by omega) (by omega)] at e
        omega
theorem r_interrupt {N o c ev : Nat} {L : Nat → List Nat} {s t : kS} (h : Rel N o c ev L s t) (x : Int32) (ho : o + 13 < 2 ^ 31) : ∃ (b : Int32) (s' t' : kS) (o' : Nat) (L' : Nat → List Nat), F_K_interrupt s x = some (b, s') ∧ F_M_interrupt t x = some (b, t') ∧ Rel N o' c ev L' s' t' ∧ St s s' t t' ∧ (∀ q, gI s 7 q 0 = 1 → Kp q s s') ∧ o' ≤ o + 13 := by
  have hN := h.1.1
  rcases arg_p h x with ⟨a1, a2, -⟩ | ⟨p, hp, rfl, a1, a2⟩
  · refine ⟨0, s, t, o, L, ?_, ?_, h, St.rf s t, fun q _ => Kp.rf q s, by omega⟩
    · unfold F_K_interrupt
      rw [a1, sb_some, if_pos rfl]
    · unfold F_M_interrupt
      rw [a2, sb_some, if_neg (by decide)]
  · have e6 : gI t 6 0 p = gI s 7 p 0 := (h.2.2.2.1 p (by omega)).1.symm
    unfold F_K_interrupt F_M_interrupt
    rw [a1, a2]
    simp (disch := omega) only [sb_some, if_true, if_neg (show ¬ (1 : Int32) = 0 by decide), inb_nI, sg_true, sl_x, nI_clamp, e6]
    by_cases hb : 2 ≤ gI s 7 p 0 ∧ gI s 7 p 0 ≤ 5
    · have b1 : F_P_isBreakable s p = some 1 := by
        unfold F_P_isBreakable
        by_cases z2 : gI s 7 p 0 = 2
        · rw [if_pos z2]
        rw [if_neg z2]
        by_cases z3 : gI s 7 p 0 = 3
        · rw [if_pos z3]
        rw [if_neg z3]
        by_cases z4 : gI s 7 p 0 = 4
        · rw [if_pos z4]
        rw [if_neg z4]
        by_cases z5 : gI s 7 p 0 = 5
        · rw [if_pos z5]
        · grind
      rw [b1]
      simp only [sb_some, if_neg (show ¬ (1 : Int32) = 0 by decide)]
      rw [if_neg (show ¬ gI s 7 p 0 < 2 by grind), if_pos hb.2]
      obtain ⟨s1, k1, kA, kL, k10, k7, k8, k5, k6, kG⟩ := K_leave h hp
      obtain ⟨ln, sp0, -, -, -, -, ⟨hd, hd1, hd2⟩, -⟩ := h.2.2.2.2.2.1 p (by omega)
      have eh : gI t 3 0 p = gI s 6 p 0 := (h.2.1 p (by omega)).2.2.2.symm
      have hrd := h.2.2.2.2.2.2.2.2.1 p hp
      have A1 : Af p s (sI s1 8 p 0 (nI hd)) := by
        refine kA.tr ⟨fun k j i h5 h7 h8 h9 h10 h18 h19 => ?_, fun q hq => ?_, fun k j i h1 h2 h3 => rfl⟩
        · simp [gI_sI, h8]
        · simp [gI_sI, hq]
      have B1 : Bf p t (sI t 5 0 p (nI hd)) := by
        refine ⟨fun k j i h2 h5 h6 h8 h31 => ?_, fun q hq => ?_, fun k j i h => rfl⟩
        · simp [gI_sI, h5]
        · simp [gI_sI, hq]
      have h3 := rel_enter (st := 1) (d := 0) (w := gL t 0 0 0) h hp A1 B1 (kG 1 0 0) rfl kL ⟨by rw [gI_self, gI_self], hd, hd1, gI_self ..⟩ ⟨by rw [show gI (sI s1 8 p 0 (nI hd)) 5 p 0 = gI s1 5 p 0 from rfl, k5]; exact hrd.1, by rw [show gI (sI s1 8 p 0 (nI hd)) 5 p 0 = gI s1 5 p 0 from rfl, k5]; exact hrd.2 hb.2⟩ (Or.inl rfl) (by omega) (by rw [i64_z]; exact h.1.2.2.2.1)
      have hq1 : ∀ q, gI s 7 q 0 = 1 → q ≠ p := by
        rintro q hq rfl
        rw [hq] at hb
        exact absurd hb.1 (by decide)
      have ek : F_K_enter (sI s1 8 p 0 (nI hd)) p 1 0 = some (kEnter (sI s1 8 p 0 (nI hd)) p 1 0) := K_enter ..
      have em : F_M_enter (sI t 5 0 p (nI hd)) (nI p) 1 (gL (sI t 5 0 p (nI hd)) 0 0 0) = some (mEnter (sI t 5 0 p (nI hd)) p 1 (gL t 0 0 0)) := M_enter _ (by omega) ..
      by_cases h4 : gI s 7 p 0 = 4
      · obtain ⟨r, sp, hr, hm, s1', s2, s3, s4, s5, s6⟩ := q_res h hp h4
        obtain ⟨s', t', o', L', z1, z2, z3, z4, z5, z6⟩ := r_serve h3.1 hr (by omega)
        have el : F_K_lineOf s p = some (nI r) := by
          unfold F_K_lineOf
          rw [if_pos h4, K_first s s4 (by omega), sb_some, s5]
        refine ⟨1, s', t', o', L', ?_, ?_, z3, h3.2.1.tr z4, fun q hq => ?_, by omega⟩
        · simp only [el, sb_some, k1, k6, hd2, ek, z1]
        · rw [if_pos h4]
          simp (disch := omega) only [M_done (by omega : p < 12) s3 s1', sb_some, inb_nI, sg_true, nI_clamp, s6, eh, hd2, em, nI_lt0, if_false, z2]
        · have e3 := h3.2.2 q (hq1 q hq)
          exact e3.tr (z5 q (by rw [e3.1, hq]; decide))
      · refine ⟨1, _, _, o + 1, _, ?_, ?_, h3.1, h3.2.1, fun q hq => h3.2.2 q (hq1 q hq), by omega⟩
        · have el : F_K_lineOf s p = some (-1) := by
            unfold F_K_lineOf
            rw [if_neg h4]
          simp only [el, sb_some, k1, k6, hd2, ek]
          unfold F_K_serve
          rw [if_pos rfl, sb_some]
        · rw [if_neg h4, eh, hd2, em, sb_some]
    · have b1 : F_P_isBreakable s p = some 0 := by
        unfold F_P_isBreakable
        rw [if_neg (by grind), if_neg (by grind), if_neg (by grind), if_neg (by grind)]
      refine ⟨0, s, t, o, L, ?_, ?_, h, St.rf s t, fun q _ => Kp.rf q s, by omega⟩
      · simp only [b1, sb_some, if_true]
      · by_cases z : gI s 7 p 0 < 2
        · rw [if_pos z]
        · rw [if_neg z, if_neg (by grind)]
