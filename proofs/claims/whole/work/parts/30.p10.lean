/-! Units come back; a process is killed. -/
theorem r_giveBack {N o c ev : Nat} {L : Nat → List Nat} {s t : kS} (h : Rel N o c ev L s t) {p r : Nat} (hp : p < N) (hr : r < 4) (v : Int32) (ho : o + 12 < 2 ^ 31) : ∃ (s' t' : kS) (o' : Nat) (L' : Nat → List Nat), F_K_giveBack s p (nI r) v = some s' ∧ F_M_release t (nI p) (nI r) v = some t' ∧ Rel N o' c ev L' s' t' ∧ St s s' t t' ∧ (∀ q, gI s 7 q 0 ≠ 4 → Kp q s s') ∧ o' ≤ o + 12 := by
  have hN := h.1.1
  have hu : gI s 14 p r = gI t 14 0 (4 * p + r) := h.2.2.2.2.1 p (by omega) r hr
  have h1 := rel_units (w := gI s 14 p r - (if gI s 14 p r < v then gI s 14 p r else v)) (z := gI s 16 r 0 - (if gI s 14 p r < v then gI s 14 p r else v)) h hp hr (by grind)
  obtain ⟨s', t', o', L', z1, z2, z3, z4, z5, z6⟩ := r_serve h1 hr ho
  refine ⟨s', t', o', L', ?_, ?_, z3, z4, z5, z6⟩
  · unfold F_K_giveBack F_K_takeBack
    simp (disch := omega) only [inb_nI, sg_true, nI_clamp, sl_x, sb_some]
    rw [show gI (sI s 14 p r (gI s 14 p r - (if gI s 14 p r < v then gI s 14 p r else v))) 16 r 0 = gI s 16 r 0 from rfl, z1, sb_some]
  · unfold F_M_release
    simp (disch := omega) only [mul_4, nI_add, inb_nI, sg_true, nI_clamp, sl_x, sb_some, ← hu]
    by_cases e : gI s 14 p r ≤ v
    · rw [if_pos e]
      rw [show (0 : Int32) = gI s 14 p r - (if gI s 14 p r < v then gI s 14 p r else v) by grind, z2, sb_some]
    · rw [if_neg e]
      rw [show gI s 14 p r - v = gI s 14 p r - (if gI s 14 p r < v then gI s 14 p r else v) by grind, z2, sb_some]
theorem kill_loop {N c ev p : Nat} {x3 x2 : Int32} (hp : p < N) : ∀ (d n k o ln sp : Nat) (L : Nat → List Nat) (s t : kS), Rel N o c ev L s t → RV1 s p ln sp → gI s 7 p 0 = 7 → k + d = max k ln → k ≤ 10 → d < n → o + 12 * d < 2 ^ 31 → ∃ (s' t' : kS) (o' : Nat) (L' : Nat → List Nat) (b : Int32), F_K_kill_52 n s p x3 (nI k) = some (s', b) ∧ F_M_kill_68 n t (nI p) x2 (nI k) = some (t', b) ∧ Rel N o' c ev L' s' t' ∧ St s s' t t' ∧ (∀ q, gI s 7 q 0 ≠ 4 → Kp q s s') ∧ o' ≤ o + 12 * d := by
  intro d
  induction d with
  | zero =>
    intro n k o ln sp L s t h hV h7 hk hk10 hn ho
    obtain ⟨n, rfl⟩ : ∃ k, n = k + 1 := ⟨n - 1, by omega⟩
    have hN := h.1.1
    have e4 : gI t 4 0 p = nI ln := by rw [← (h.2.1 p (by omega)).2.1]; exact hV.2.2.1
    have := hV.1
    refine ⟨s, t, o, L, nI k, ?_, ?_, h, St.rf s t, fun q _ => Kp.rf q s, by omega⟩
    · unfold F_K_kill_52
      rw [hV.2.2.1, if_pos (by rw [nI_leI] <;> omega)]
    · unfold F_M_kill_68
      simp (disch := omega) only [inb_nI, sg_true, nI_clamp, e4]
      rw [if_pos (by rw [nI_leI] <;> omega)]
  | succ d ih =>
    intro n k o ln sp L s t h hV h7 hk hk10 hn ho
    obtain ⟨n, rfl⟩ : ∃ k, n = k + 1 := ⟨n - 1, by omega⟩
    have hN := h.1.1
    have e4 : gI t 4 0 p = nI ln := by rw [← (h.2.1 p (by omega)).2.1]; exact hV.2.2.1
    have hln := hV.1
    obtain ⟨o1, o2, o3⟩ := h.2.2.1 p (by omega) k (by omega)
    unfold F_K_kill_52 F_M_kill_68
    have hnle : ¬ nI ln ≤ nI k := by rw [nI_leI] <;> omega
    rw [hV.2.2.1, if_neg hnle]
    simp (disch := omega) only [inb_nI, sg_true, nI_clamp, e4, mul_10, nI_add, nI_1, ← o1, ← o2, ← o3]
    rw [if_neg hnle]
    by_cases e : gI s 11 p k = 3
    · rw [if_pos e, if_pos e]
      have hv := hV.2.2.2.2.2.1 k (by omega)
      rw [e] at hv
      obtain ⟨a0, a3⟩ := hv.2.2.1 (by decide) (by decide)
      obtain ⟨r, hr, er⟩ := op_lt4 a0 a3
      rw [er]
      obtain ⟨s', t', o', L', z1, z2, z3, z4, z5, z6⟩ := r_giveBack h hp hr (gI s 13 p k) (by omega)
      rw [z1, z2, sb_some, sb_some]
      have kp := z5 p (by rw [h7]; decide)
      have hV' : RV1 s' p ln sp := by
        obtain ⟨v1, v2, v3, v4, v5, v6, v7, v8⟩ := hV
        obtain ⟨ln', sp', w1, w2, w3, w4, w5, -⟩ := z3.2.2.2.2.2.1 p (by omega)
        refine ⟨v1, v2, by rw [z4.1, v3], by rw [kp.2.1, v4], w5, fun i hi => by rw [z4.2.2.1, z4.2.2.2.1]; exact v6 i hi, fun z => ?_, fun z => ?_⟩
        · rw [kp.1, h7] at z; exact absurd z (by decide)
        · rw [kp.1, h7] at z; exact absurd z (by decide)
      obtain ⟨s'', t'', o'', L'', b, y1, y2, y3, y4, y5, y6⟩ := ih n (k + 1) o' ln sp L' s' t' z3 hV' (by rw [kp.1, h7]) (by omega) (by omega) (by omega) (by omega)
      exact ⟨s'', t'', o'', L'', b, y1, y2, y3, z4.tr y4, fun q hq => (z5 q hq).tr (y5 q (by rw [(z5 q hq).1]; exact hq)), by omega⟩
    · rw [if_neg e, if_neg e]
      obtain ⟨s'', t'', o'', L'', b, y1, y2, y3, y4, y5, y6⟩ := ih n (k + 1) o ln sp L s t h hV h7 (by omega) (by omega) (by omega) (by omega)
      exact ⟨s'', t'', o'', L'', b, y1, y2, y3, y4, y5, by omega⟩
theorem r_kill {N o c ev : Nat} {L : Nat → List Nat} {s t : kS} (h : Rel N o c ev L s t) (x : Int32) (ho : o + 132 < 2 ^ 31) : ∃ (b : Int32) (s' t' : kS) (o' : Nat) (L' : Nat → List Nat), F_K_kill s x = some (b, s') ∧ F_M_kill t x = some (b, t') ∧ Rel N o' c ev L' s' t' ∧ St s s' t t' ∧ (∀ q, gI s 7 q 0 = 1 → (x ≠ nI q → Kp q s s') ∧ (q < N → x = nI q → gI s' 7 q 0 = 7)) ∧ o' ≤ o + 132 := by
  have hN := h.1.1
  rcases arg_p h x with ⟨a1, a2, a3⟩ | ⟨p, hp, rfl, a1, a2⟩
  · refine ⟨0, s, t, o, L, ?_, ?_, h, St.rf s t, fun q _ => ⟨fun _ => Kp.rf q s, fun hq e => absurd e (a3 q hq)⟩, by omega⟩
    · unfold F_K_kill
      rw [a1, sb_some, if_pos rfl]
    · unfold F_M_kill
      rw [a2, sb_some, if_neg (by decide)]
  · have hW := h.2.2.2.1 p (by omega)
    have e6 : gI t 6 0 p = gI s 7 p 0 := hW.1.symm
    unfold F_K_kill F_M_kill
    rw [a1, a2]
    simp (disch := omega) only [sb_some, if_true, if_neg (show ¬ (1 : Int32) = 0 by decide), inb_nI, sg_true, sl_x, nI_clamp, e6]
    by_cases hb : gI s 7 p 0 < 6
    · have b1 : F_P_isOver s p = some 0 := by
        unfold F_P_isOver
        rw [if_neg (by grind), if_neg (by grind)]
      rw [b1]
      simp only [sb_some, if_true]
      rw [if_pos hb]
      obtain ⟨s1, k1, kA, kL, k10, k7, k8, k5, k6, kG⟩ := K_leave h hp
      obtain ⟨ln, sp0, hV⟩ := h.2.2.2.2.2.1 p (by omega)
      have hrd := h.2.2.2.2.2.2.2.2.1 p hp
      have A1 : Af p s (sI s1 7 p 0 7) := by
        refine kA.tr ⟨fun k j i h5 h7 h8 h9 h10 h18 h19 => ?_, fun q hq => ?_, fun k j i h1 h2 h3 => rfl⟩
        · simp [gI_sI, h7]
        · simp [gI_sI, hq]
      have B1 : Bf p t (sI (sI t 8 0 p (-1)) 6 0 p 7) := by
        refine ⟨fun k j i h2 h5 h6 h8 h31 => ?_, fun q hq => ?_, fun k j i h => rfl⟩
        · simp [gI_sI, h8, h6]
        · simp [gI_sI, hq]
      have c7 : gI (sI s1 7 p 0 7) 7 p 0 = 7 := gI_self ..
      have c8 : gI (sI s1 7 p 0 7) 8 p 0 = nI sp0 := k8.trans hV.2.2.2.1
      have m6 : gI (sI (sI t 8 0 p (-1)) 6 0 p 7) 6 0 p = 7 := gI_self ..
      have m8 : gI (sI (sI t 8 0 p (-1)) 6 0 p 7) 8 0 p = -1 := by simp [gI_sI]
      have m5 : gI (sI (sI t 8 0 p (-1)) 6 0 p 7) 5 0 p = nI sp0 := by
        show gI t 5 0 p = nI sp0
        rw [← hW.2.1]; exact hV.2.2.2.1
      have h3 := rel_gen (o' := o) h hp A1 B1 (by
        unfold NF
        rw [c7, c8, m6, m8, m5]
        refine ⟨⟨rfl, rfl, by decide, by decide⟩, by decide, by decide, ⟨sp0, hV.2.1, rfl⟩, Or.inr ⟨?_, rfl⟩, ?_, fun z => absurd z (by decide)⟩
        · exact k10
        · show gI s1 5 p 0 = gI t 2 0 p
          rw [k5]; exact hrd.1) ⟨(kG 1 0 0).trans h.1.2.2.2.2.1, h.1.2.2.2.2.2.1, by omega, by omega⟩ kL
      have hV3 : RV1 (sI s1 7 p 0 7) p ln sp0 := by
        obtain ⟨v1, v2, v3, v4, v5, v6, v7, v8⟩ := hV
        obtain ⟨S1, S2, S3, S4, S5, S6⟩ := h3.2.1
        refine ⟨v1, v2, by rw [S1, v3], c8, ?_, fun i hi => by rw [S3, S4]; exact v6 i hi, fun z => ?_, fun z => ?_⟩
        · show ∃ h, h ≤ 10 ∧ gI s1 6 p 0 = nI h
          rw [k6]; exact v5
        · rw [c7] at z; exact absurd z (by decide)
        · rw [c7] at z; exact absurd z (by decide)
      have hln := hV.1
      have hsp := hV.2.1
      by_cases h4 : gI s 7 p 0 = 4
      · obtain ⟨r, sp, hr, hm, s1', s2, s3, s4, s5, s6⟩ := q_res h hp h4
        obtain ⟨s', t', o', L', b, z1, z2, z3, z4, z5, z6⟩ := kill_loop (x3 := nI r) (x2 := nI r) hp (max sp0 ln - sp0) 1000 sp0 o ln sp0 _ _ _ h3.1 hV3 c7 (by omega) (by omega) (by omega) (by omega)
        obtain ⟨s'', t'', o'', L'', y1, y2, y3, y4, y5, y6⟩ := r_serve z3 hr (by omega)
        have el : F_K_lineOf s p = some (nI r) := by
          unfold F_K_lineOf
          rw [if_pos h4, K_first s s4 (by omega), sb_some, s5]
        have kpp := z5 p (by rw [c7]; decide)
        refine ⟨1, s'', t'', o'', L'', ?_, ?_, y3, h3.2.1.tr (z4.tr y4), fun q hq => ⟨fun hx => ?_, fun hqN e => ?_⟩, by omega⟩
        · simp only [el, sb_some, k1, c8, z1, y1]
        · rw [if_pos h4]
          simp (disch := omega) only [M_done (by omega : p < 12) s3 s1', sb_some, inb_nI, sg_true, nI_clamp, s6, m5, z2, nI_lt0, if_false, y2]
        · have hqp : q ≠ p := fun e => hx (by rw [e])
          have e3 := h3.2.2 q hqp
          have e4 := z5 q (by rw [e3.1, hq]; decide)
          exact e3.tr (e4.tr (y5 q (by rw [e4.1, e3.1, hq]; decide)))
        · rw [nI_eq (by omega) (by omega)] at e
          subst e
          rw [(y5 p (by rw [kpp.1, c7]; decide)).1, kpp.1, c7]
      · obtain ⟨s', t', o', L', b, z1, z2, z3, z4, z5, z6⟩ := kill_loop (x3 := -1) (x2 := -1) hp (max sp0 ln - sp0) 1000 sp0 o ln sp0 _ _ _ h3.1 hV3 c7 (by omega) (by omega) (by omega) (by omega)
        have kpp := z5 p (by rw [c7]; decide)
        refine ⟨1, s', t', o', L', ?_, ?_, z3, h3.2.1.tr z4, fun q hq => ⟨fun hx => ?_, fun hqN e => ?_⟩, by omega⟩
        · have el : F_K_lineOf s p = some (-1) := by
            unfold F_K_lineOf
            rw [if_neg h4]
          simp only [el, sb_some, k1, c8, z1]
          unfold F_K_serve
          rw [if_pos rfl, sb_some]
        · rw [if_neg h4]
          simp only [m5, z2, sb_some]
        · have hqp : q ≠ p := fun e => hx (by rw [e])
          have e3 := h3.2.2 q hqp
          exact e3.tr (z5 q (by rw [e3.1, hq]; decide))
        · rw [nI_eq (by omega) (by omega)] at e
          subst e
          rw [kpp.1, c7]
    · have b1 : F_P_isOver s p = some 1 := by
        unfold F_P_isOver
        by_cases z : gI s 7 p 0 = 6
        · rw [if_pos z]
        · rw [if_neg z, if_pos (by grind)]
      refine ⟨0, s, t, o, L, ?_, ?_, h, St.rf s t, fun q hq => ⟨fun _ => Kp.rf q s, fun hqN e => ?_⟩, by omega⟩
      · simp only [b1, sb_some, if_neg (show ¬ (1 : Int32) = 0 by decide)]
      · rw [if_neg hb]
      · rw [nI_eq (by omega) (by omega)] at e
        subst e
        rw [hq] at hb
        exact absurd (by decide) hb
