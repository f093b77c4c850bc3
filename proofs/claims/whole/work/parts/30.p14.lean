theorem gI_idx (s : kS) {k j i : Nat} {v : Int32} {c : Nat} (h : c ≠ i) : gI (sI s k j i v) k j c = gI s k j c := by rw [gI_sI, if_neg (fun q => h q.2.2)]
theorem idle_loop {t : kS} {p r : Nat} {v w x4 : Int32} (h1 : F_M_rest t (nI r) = some w) (hw : ¬ v ≤ w) (h2 : F_M_victim t (nI p) (nI r) = some (-1)) : ∀ (d n k : Nat), k + d = 12 → d < n → F_M_preempt_6 n t (nI p) (nI r) v x4 (nI k) = some (t, x4, nI 12) := by
  intro d
  induction d with
  | zero =>
    intro n k hk hn
    obtain ⟨n, rfl⟩ : ∃ k, n = k + 1 := ⟨n - 1, by omega⟩
    have : k = 12 := by omega
    subst this
    unfold F_M_preempt_6
    rw [if_pos (by rw [le_12] <;> omega)]
  | succ d ih =>
    intro n k hk hn
    obtain ⟨n, rfl⟩ : ∃ k, n = k + 1 := ⟨n - 1, by omega⟩
    unfold F_M_preempt_6
    rw [if_neg (by rw [le_12] <;> omega), h1, sb_some, if_neg hw, h2, sb_some, if_pos (by decide), nI_1]
    exact ih n (k + 1) (by omega) (by omega)
theorem take_loop {N o c ev p r : Nat} {L : Nat → List Nat} {v : Int32} (hp : p < N) (hr : r < 4) : ∀ (d n n' k : Nat) (s t : kS), Rel N o c ev L s t → k + d = 12 → d < n → d < n' → (∀ i, i < k → gI s 1 0 i = gI t 21 0 i) → ∃ (a : Nat) (s' t' : kS) (m : Nat) (y : Int32), F_K_takeFromLosers_3 n s p (nI r) v (nI k) = some (a, s', nI m) ∧ F_M_preempt_6 n' t (nI p) (nI r) v (nI k) (nI k) = some (t', nI m, y) ∧ Rel N o c ev L s' t' ∧ m ≤ 12 ∧ (∀ i, i < m → gI s' 1 0 i = gI t' 21 0 i) ∧ (∀ q, Kp q s s') ∧ (∀ q, gI s' 3 q 0 = gI s 3 q 0) := by
  intro d
  induction d with
  | zero =>
    intro n n' k s t h hk hn hn' he
    obtain ⟨n, rfl⟩ : ∃ k, n = k + 1 := ⟨n - 1, by omega⟩
    obtain ⟨n', rfl⟩ : ∃ k, n' = k + 1 := ⟨n' - 1, by omega⟩
    have : k = 12 := by omega
    subst this
    have hle : (12 : Int32) ≤ nI 12 := by rw [le_12] <;> omega
    refine ⟨1, s, t, 12, nI 12, ?_, ?_, h, by omega, he, fun q => Kp.rf q s, fun q => rfl⟩
    · unfold F_K_takeFromLosers_3
      rw [if_pos hle]
    · unfold F_M_preempt_6
      rw [if_pos hle]
  | succ d ih =>
    intro n n' k s t h hk hn hn' he
    obtain ⟨n, rfl⟩ : ∃ k, n = k + 1 := ⟨n - 1, by omega⟩
    obtain ⟨n', rfl⟩ : ∃ k, n' = k + 1 := ⟨n' - 1, by omega⟩
    have hN := h.1.1
    have hle : ¬ (12 : Int32) ≤ nI k := by rw [le_12] <;> omega
    have hcap : gI s 15 r 0 = gI t 15 0 r := (h.2.2.2.2.2.2.2.2.2.2.2.2.1 r hr).1
    have hsz : gI s 16 r 0 = sS t r N := h.2.2.2.2.2.2.2.2.2.2.2.1 r hr
    have hrest := M_rest (t := t) hr hN h.1.2.2.1
    rw [← hcap, ← hsz] at hrest
    obtain ⟨b, b1, b2, b3⟩ := r_loser h hp hr
    by_cases hb : v ≤ gI s 15 r 0 - gI s 16 r 0
    · refine ⟨1, s, t, k, nI k, ?_, ?_, h, by omega, he, fun q => Kp.rf q s, fun q => rfl⟩
      · unfold F_K_takeFromLosers_3
        rw [if_neg hle]
        simp (disch := omega) only [inb_nI, sg_true, nI_clamp, sl_x, K_unseized, sb_some]
        rw [if_pos hb]
      · unfold F_M_preempt_6
        rw [if_neg hle, hrest, sb_some, if_pos hb]
    · rcases b3 with rfl | ⟨q, hq, rfl⟩
      · refine ⟨0, s, t, k, nI 12, ?_, ?_, h, by omega, he, fun q => Kp.rf q s, fun q => rfl⟩
        · unfold F_K_takeFromLosers_3
          rw [if_neg hle]
          simp (disch := omega) only [inb_nI, sg_true, nI_clamp, sl_x, K_unseized, sb_some]
          rw [if_neg hb, b1, sb_some, if_pos rfl]
        · exact idle_loop hrest hb b2 (d + 1) (n' + 1) k (by omega) (by omega)
      · have hu : gI s 14 q r = gI t 14 0 (4 * q + r) := h.2.2.2.2.1 q (by omega) r hr
        have h1 := rel_units (w := 0) (z := gI s 16 r 0 - gI s 14 q r) h hq hr (by grind)
        have h2 : Rel N o c ev L (sI (sI (sI s 14 q r 0) 16 r 0 (gI s 16 r 0 - gI s 14 q r)) 1 0 k (nI q)) (sI (sI t 14 0 (4 * q + r) 0) 21 0 k (nI q)) := by
          obtain ⟨c1, c2, c3, c4, c5, c6, c7, c8, c9, c10, c11, c12, c13, c14, c15⟩ := h1
          have e : ∀ r', sS (sI (sI t 14 0 (4 * q + r) 0) 21 0 k (nI q)) r' N = sS (sI t 14 0 (4 * q + r) 0) r' N := fun r' => sS_eq (t' := sI (sI t 14 0 (4 * q + r) 0) 21 0 k (nI q)) (t := sI t 14 0 (4 * q + r) 0) (fun i => rfl) N
          exact ⟨c1, c2, c3, c4, c5, c6, c7, c8, c9, c10, c11, fun r' hr' => by rw [e]; exact c12 r' hr', c13, c14, c15⟩
        obtain ⟨a, s', t', m, y, z1, z2, z3, z4, z5, z6, z7⟩ := ih n n' (k + 1) _ _ h2 (by omega) (by omega) (by omega) (by
          intro i hi
          by_cases e : i = k
          · subst e; rw [gI_self, gI_self]
          · rw [gI_idx _ e, gI_idx _ e]
            exact he i (by omega))
        refine ⟨a, s', t', m, y, ?_, ?_, z3, z4, z5, ?_, ?_⟩
        · unfold F_K_takeFromLosers_3 F_K_takeBack
          rw [if_neg hle]
          simp (disch := omega) only [inb_nI, sg_true, nI_clamp, sl_x, K_unseized, sb_some]
          rw [if_neg hb, b1, sb_some]
          simp (disch := omega) only [nI_eqm1, if_false, inb_nI, sg_true, nI_clamp, sb_some, nI_1]
          rw [show gI s 14 q r - gI s 14 q r = 0 by grind]
          exact z1
        · unfold F_M_preempt_6
          rw [if_neg hle, hrest, sb_some, if_neg hb, b2, sb_some]
          simp (disch := omega) only [nI_lt0, if_false, inb_nI, sg_true, nI_clamp, sb_some, nI_1, mul_4, nI_add, sl_x]
          exact z2
        · intro q'
          exact z6 q'
        · intro q'
          exact z7 q'
theorem int_loop {N c ev m : Nat} {x x' : Int32} (hm : m ≤ 12) : ∀ (d n k o : Nat) (L : Nat → List Nat) (s t : kS), Rel N o c ev L s t → k + d = m → d < n → o + 13 * d < 2 ^ 31 → (∀ i, i < m → gI s 1 0 i = gI t 21 0 i) → ∃ (s' t' : kS) (y y' : Int32) (o' : Nat) (L' : Nat → List Nat), F_K_seizeByForce_65 n s x (nI m) (nI k) = some (s', y) ∧ F_M_preempt_82 n t x' (nI m) (nI k) = some (t', y') ∧ Rel N o' c ev L' s' t' ∧ St s s' t t' ∧ (∀ q, gI s 7 q 0 = 1 → Kp q s s') ∧ o' ≤ o + 13 * d := by
  intro d
  induction d with
  | zero =>
    intro n k o L s t h hk hn ho he
    obtain ⟨n, rfl⟩ : ∃ k, n = k + 1 := ⟨n - 1, by omega⟩
    have hle : nI m ≤ nI k := by rw [nI_leI] <;> omega
    refine ⟨s, t, nI k, nI k, o, L, ?_, ?_, h, St.rf s t, fun q _ => Kp.rf q s, by omega⟩
    · unfold F_K_seizeByForce_65
      rw [if_pos hle]
    · unfold F_M_preempt_82
      rw [if_pos hle]
  | succ d ih =>
    intro n k o L s t h hk hn ho he
    obtain ⟨n, rfl⟩ : ∃ k, n = k + 1 := ⟨n - 1, by omega⟩
    have hle : ¬ nI m ≤ nI k := by rw [nI_leI] <;> omega
    obtain ⟨b, s1, t1, o1, L1, z1, z2, z3, z4, z5, z6⟩ := r_interrupt h (gI s 1 0 k) (by omega)
    obtain ⟨s', t', y, y', o', L', w1, w2, w3, w4, w5, w6⟩ := ih n (k + 1) o1 L1 s1 t1 z3 (by omega) (by omega) (by omega) (by
      intro i hi
      rw [z4.2.2.2.2.2.2.1, z4.2.2.2.2.2.2.2]
      exact he i hi)
    refine ⟨s', t', y, y', o', L', ?_, ?_, w3, z4.tr w4, fun q hq => (z5 q hq).tr (w5 q (by rw [(z5 q hq).1, hq])), by omega⟩
    · unfold F_K_seizeByForce_65
      rw [if_neg hle]
      simp (disch := omega) only [inb_nI, sg_true, nI_clamp, z1, sb_some, nI_1]
      exact w1
    · unfold F_M_preempt_82
      rw [if_neg hle]
      simp (disch := omega) only [inb_nI, sg_true, nI_clamp, ← he k (by omega), z2, sb_some, nI_1]
      exact w2
theorem r_force {N o c ev p r : Nat} {L : Nat → List Nat} {s t : kS} (h : Rel N o c ev L s t) (hp : p < N) (hr : r < 4) (v : Int32) (ho : o + 168 < 2 ^ 31) : ∃ (s' t' : kS) (o' : Nat) (L' : Nat → List Nat), (bd (F_K_takeFromLosers s p (nI r) v) (fun r7 => bd (F_K_give r7.2 p (nI r) v) (fun r9 => bd (F_K_seizeByForce_65 1000 r9 (nI r) r7.1 0) (fun ex10 => F_K_serve ex10.1 (nI r))))) = some s' ∧ F_M_preempt t (nI p) (nI r) v = some t' ∧ Rel N o' c ev L' s' t' ∧ (∀ q, gI s 7 q 0 = 1 → Kp q s s') ∧ (∀ q, gI s' 3 q 0 = gI s 3 q 0) ∧ o' ≤ o + 168 := by
  have hN := h.1.1
  obtain ⟨a, s1, t1, m, y, z1, z2, z3, z4, z5, z6, z7⟩ := take_loop (v := v) hp hr 12 1000 1000 0 s t h (by omega) (by omega) (by omega) (fun i hi => by omega)
  rw [nI_0] at z1 z2
  have hu : gI s1 14 p r = gI t1 14 0 (4 * p + r) := z3.2.2.2.2.1 p (by omega) r hr
  have h1 := rel_units (w := gI s1 14 p r + v) (z := gI s1 16 r 0 + v) z3 hp hr (by grind)
  obtain ⟨s2, t2, y2, y2', o2, L2, w1, w2, w3, w4, w5, w6⟩ := int_loop (x := nI r) (x' := nI r) z4 m 1000 0 o L _ _ h1 (by omega) (by omega) (by omega) z5
  obtain ⟨s3, t3, o3, L3, v1, v2, v3, v4, v5, v6⟩ := r_serve w3 hr (by omega)
  rw [nI_0] at w1 w2
  refine ⟨s3, t3, o3, L3, ?_, ?_, v3, fun q hq => ?_, fun q => ?_, by omega⟩
  · unfold F_K_takeFromLosers
    rw [z1, sb_some]
    have e : (if (a, s1, nI m).1 = 0 then some ((a, s1, nI m).2.2, (a, s1, nI m).2.1) else some ((a, s1, nI m).2.2, (a, s1, nI m).2.1)) = some (nI m, s1) := by split <;> rfl
    rw [e, sb_some, K_give _ _ hr, sb_some, w1, sb_some, v1]
  · unfold F_M_preempt
    rw [z2, sb_some]
    simp (disch := omega) only [inb_nI, sg_true, nI_clamp, mul_4, nI_add, sl_x]
    rw [← hu, w2, sb_some, v2, sb_some]
  · have k1 := z6 q
    have k2 := w5 q (by rw [← hq]; exact k1.1)
    have k3 := v5 q (by rw [k2.1]; show gI s1 7 q 0 ≠ 4; rw [k1.1, hq]; decide)
    exact k1.tr (Kp.tr (s := s1) k2 k3)
  · rw [v4.1, w4.1]
    exact z7 q
