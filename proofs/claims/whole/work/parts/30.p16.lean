/-! Conditions; activation. -/
theorem rel_level {N o c ev : Nat} {L : Nat → List Nat} {s t : kS} {a : Nat} {w : Int32} (h : Rel N o c ev L s t) : Rel N o c ev L (sI s 21 a 0 w) (sI t 20 0 a w) := by
  obtain ⟨hG, hQ, hO, hW, hU, hV, hE, hI, hD, hFr, hL, hS, hR, hK, hT⟩ := h
  have e : ∀ r', sS (sI t 20 0 a w) r' N = sS t r' N := fun r' => sS_eq (t' := sI t 20 0 a w) (t := t) (fun i => rfl) N
  refine ⟨hG, hQ, hO, hW, hU, hV, hE, hI, hD, hFr, hL, fun r' hr' => by rw [e]; exact hS r' hr', hR, ?_, hT⟩
  intro r' hr'
  obtain ⟨a1, a2⟩ := hK r' hr'
  refine ⟨a1, ?_⟩
  rw [gI_sI, gI_sI]
  by_cases h1 : r' = a
  · subst h1; simp
  · simp [h1, a2]
theorem r_meet {N o c ev : Nat} {L : Nat → List Nat} {s t : kS} {p d : Nat} (h : Rel N o c ev L s t) (hp : p < N) (hd : d < 10) (h9 : gI s 9 p 0 = nI d) (hv : vI (gI s 11 p d) (gI s 12 p d)) (hop : 4 ≤ gI s 11 p d ∧ gI s 11 p d ≤ 6) : ∃ (b : Int32) (s' : kS), F_K_meetCondition s p = some (b, s') ∧ F_M_holds t (nI (10 * p + d)) = some b ∧ ((b = 0 ∧ s' = s) ∨ (b = 1 ∧ ∃ t', F_M_pour t (nI (10 * p + d)) = some t' ∧ Rel N o c ev L s' t' ∧ St s s' t t' ∧ (∀ q, Kp q s s') ∧ gL t' 0 0 0 = gL t 0 0 0 ∧ ∀ i, gI t' 9 0 i = gI t 9 0 i)) := by
  have hN := h.1.1
  obtain ⟨o1, o2, o3⟩ := h.2.2.1 p (by omega) d hd
  have kf := K_first s h9 hd
  have ks := K_second s h9 hd
  unfold F_K_meetCondition F_M_holds F_M_pour
  rw [kf, sb_some, h9]
  simp (disch := omega) only [inb_nI, sg_true, nI_clamp, sl_x, ← o1, ← o2, ← o3]
  by_cases h4 : gI s 11 p d = 4
  · rw [h4] at hv
    obtain ⟨a0, a3⟩ := hv.2.2.1 (by decide) (by decide)
    obtain ⟨a, ha, ea⟩ := op_lt4 a0 a3
    obtain ⟨k1, k2⟩ := h.2.2.2.2.2.2.2.2.2.2.2.2.2.1 a ha
    rw [ea, h4]
    simp (disch := omega) only [if_true, inb_nI, sg_true, nI_clamp, sl_x, ks, sb_some, ← k1, ← k2, if_neg (show ¬ (6 : Int32) ≤ 4 by decide)]
    unfold F_T_put
    by_cases hb : gI s 21 a 0 + gI s 13 p d ≤ gI s 20 a 0
    · refine ⟨1, sI s 21 a 0 (gI s 21 a 0 + gI s 13 p d), ?_, by rw [if_neg (by grind)], Or.inr ⟨rfl, _, rfl, rel_level h, St.rf s t, fun q => Kp.rf q s, rfl, fun _ => rfl⟩⟩
      rw [if_pos hb, sl_x, sb_some, show bz 1 = true by decide, sg_true]
    · refine ⟨0, s, ?_, by rw [if_pos (by grind)], Or.inl ⟨rfl, rfl⟩⟩
      rw [if_neg hb, sb_some, show bz 0 = true by decide, sg_true]
  · by_cases h5 : gI s 11 p d = 5
    · rw [h5] at hv
      obtain ⟨a0, a3⟩ := hv.2.2.1 (by decide) (by decide)
      obtain ⟨a, ha, ea⟩ := op_lt4 a0 a3
      obtain ⟨k1, k2⟩ := h.2.2.2.2.2.2.2.2.2.2.2.2.2.1 a ha
      rw [ea, h5]
      simp (disch := omega) only [if_true, inb_nI, sg_true, nI_clamp, sl_x, ks, sb_some, ← k1, ← k2, if_neg (show ¬ (6 : Int32) ≤ 5 by decide), if_neg (show ¬ (5 : Int32) = 4 by decide)]
      unfold F_T_take
      by_cases hb : gI s 13 p d ≤ gI s 21 a 0
      · refine ⟨1, sI s 21 a 0 (gI s 21 a 0 + -gI s 13 p d), ?_, by rw [if_neg (by grind)], Or.inr ⟨rfl, _, rfl, rel_level h, St.rf s t, fun q => Kp.rf q s, rfl, fun _ => rfl⟩⟩
        rw [if_pos hb, sl_x, sb_some, show bz 1 = true by decide, sg_true, Int32.sub_eq_add_neg]
      · refine ⟨0, s, ?_, by rw [if_pos (by grind)], Or.inl ⟨rfl, rfl⟩⟩
        rw [if_neg hb, sb_some, show bz 0 = true by decide, sg_true]
    · have h6 : gI s 11 p d = 6 := by grind
      rw [h6] at hv
      obtain ⟨a0, a3⟩ := hv.2.2.2 (by decide)
      obtain ⟨a, ha, ea⟩ := op_lt12 a0 a3
      have e6 : gI t 6 0 a = gI s 7 a 0 := (h.2.2.2.1 a ha).1.symm
      have hw := (h.2.2.2.1 a ha).2.2
      rw [ea, h6]
      simp (disch := omega) only [if_true, sb_some, if_neg (show ¬ (6 : Int32) = 4 by decide), if_neg (show ¬ (6 : Int32) = 5 by decide), if_pos (show (6 : Int32) ≤ 6 by decide), inb_nI, sg_true, nI_clamp, sl_x, e6]
      have yes : ∃ t', some t = some t' ∧ Rel N o c ev L s t' ∧ St s s t t' ∧ (∀ q, Kp q s s) ∧ gL t' 0 0 0 = gL t 0 0 0 ∧ ∀ i, gI t' 9 0 i = gI t 9 0 i := ⟨t, rfl, h, St.rf s t, fun q => Kp.rf q s, rfl, fun _ => rfl⟩
      unfold F_K_isProcess F_P_isOver
      rw [h.1.2.1, h.1.2.2.1, if_neg (show ¬ nI a < 0 by rw [nI_lt0 (by omega)]; simp)]
      by_cases hle : nI N ≤ nI a
      · refine ⟨1, s, ?_, by rw [if_pos hle], Or.inr ⟨rfl, yes⟩⟩
        rw [if_pos hle, sb_some, if_pos rfl]
      · rw [if_neg hle, if_neg hle, sb_some, if_neg (show ¬ (1 : Int32) = 0 by decide)]
        by_cases hlt : gI s 7 a 0 < 6
        · refine ⟨0, s, ?_, by rw [if_pos hlt], Or.inl ⟨rfl, rfl⟩⟩
          rw [if_neg (show ¬ gI s 7 a 0 = 6 by grind), if_neg (show ¬ gI s 7 a 0 = 7 by grind), sb_some, if_pos rfl]
        · refine ⟨1, s, ?_, by rw [if_neg hlt], Or.inr ⟨rfl, yes⟩⟩
          by_cases e : gI s 7 a 0 = 6
          · rw [if_pos e, sb_some, if_neg (show ¬ (1 : Int32) = 0 by decide)]
          · rw [if_neg e, if_pos (show gI s 7 a 0 = 7 by grind), sb_some, if_neg (show ¬ (1 : Int32) = 0 by decide)]
theorem within_eq (s t : kS) (x a b : Int32) : F_M_within t x a b = F_K_isWithin s x a b := rfl
theorem K_within (s : kS) (x a b : Int32) : F_K_isWithin s x a b = some (if a ≤ x ∧ x ≤ b then 1 else 0) := by
  unfold F_K_isWithin
  by_cases h1 : x < a
  · rw [if_pos h1, if_neg (by grind)]
  · rw [if_neg h1]
    by_cases h2 : b < x
    · rw [if_pos h2, if_neg (by grind)]
    · rw [if_neg h2, if_pos (by grind)]
theorem M_within (t : kS) (x a b : Int32) : F_M_within t x a b = some (if a ≤ x ∧ x ≤ b then 1 else 0) := K_within t x a b
theorem r_activate {N o c ev : Nat} {L : Nat → List Nat} {s t : kS} (h : Rel N o c ev L s t) (x d : Int32) (ho : o + 1 < 2 ^ 31) : ∃ (b : Int32) (s' t' : kS) (o' : Nat) (L' : Nat → List Nat), F_K_activate s x d = some (b, s') ∧ F_M_activate t x d = some (b, t') ∧ Rel N o' c ev L' s' t' ∧ St s s' t t' ∧ (∀ q, gI s 7 q 0 = 1 → Kp q s s') ∧ o' ≤ o + 1 := by
  have hN := h.1.1
  rcases arg_p h x with ⟨a1, a2, -⟩ | ⟨p, hp, rfl, a1, a2⟩
  · refine ⟨0, s, t, o, L, ?_, ?_, h, St.rf s t, fun q _ => Kp.rf q s, by omega⟩
    · unfold F_K_activate
      rw [a1, sb_some, if_pos rfl]
    · unfold F_M_activate
      rw [a2, sb_some, if_neg (by decide)]
  · have e6 : gI t 6 0 p = gI s 7 p 0 := (h.2.2.2.1 p (by omega)).1.symm
    unfold F_K_activate F_M_activate
    rw [a1, a2, M_within, K_within]
    simp (disch := omega) only [sb_some, if_true, if_neg (show ¬ (1 : Int32) = 0 by decide), inb_nI, sg_true, sl_x, nI_clamp, e6]
    by_cases hw : 0 ≤ d ∧ d ≤ 1000000
    · rw [if_pos hw]
      simp only [if_neg (show ¬ (1 : Int32) = 0 by decide)]
      by_cases hst : gI s 7 p 0 = 0 ∨ gI s 7 p 0 = 3
      · have hL := h.2.2.2.2.2.2.2.2.2.2.1
        have hno := not_in h (p := p) (by rcases hst with e | e <;> rw [e] <;> decide) (by rcases hst with e | e <;> rw [e] <;> decide)
        obtain ⟨ln, sp, v1, v2, v3, v4, -⟩ := h.2.2.2.2.2.1 p (by omega)
        have hrd := h.2.2.2.2.2.2.2.2.1 p hp
        have h3 := rel_enter (st := 1) (d := d) (w := gL t 0 0 0 + d.toInt64) h hp (Af.rf p s) (Bf.rf p t) rfl rfl (fun r hr => by rw [Lo_not (hno r hr)]; exact hL.1 r hr) ⟨(h.2.2.2.1 p (by omega)).2.1, sp, v2, v4⟩ ⟨hrd.1, hrd.2 (by rcases hst with e | e <;> rw [e] <;> decide)⟩ (Or.inl rfl) ho (by rw [h.1.2.2.2.1])
        refine ⟨1, _, _, o + 1, _, ?_, ?_, h3.1, h3.2.1, fun q hq => h3.2.2 q ?_, by omega⟩
        · rw [K_enter, sb_some]
          rcases hst with e | e
          · rw [if_pos e]
          · rw [if_neg (by rw [e]; decide), if_pos e]
        · rw [M_enter _ (by omega), sb_some]
          rcases hst with e | e
          · rw [if_pos e]
          · rw [if_neg (by rw [e]; decide), if_pos e]
        · rintro rfl
          rw [hq] at hst
          exact absurd hst (by decide)
      · refine ⟨0, s, t, o, L, ?_, ?_, h, St.rf s t, fun q _ => Kp.rf q s, by omega⟩
        · rw [if_neg (fun e => hst (Or.inl e)), if_neg (fun e => hst (Or.inr e))]
        · rw [if_neg (fun e => hst (Or.inl e)), if_neg (fun e => hst (Or.inr e))]
    · rw [if_neg hw]
      simp only [if_true]
      refine ⟨0, s, t, o, L, rfl, ?_, h, St.rf s t, fun q _ => Kp.rf q s, by omega⟩
      split
      · rfl
      · split <;> rfl
