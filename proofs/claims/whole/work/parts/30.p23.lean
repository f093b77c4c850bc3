theorem r_instruct {N o c ev : Nat} {L : Nat → List Nat} {s t : kS} (h : Rel N o c ev L s t) (x op a b : Int32) : ∃ (v : Int32) (s' t' : kS), F_K_instruct s x op a b = some (v, s') ∧ F_M_instruct t x op a b = some (v, t') ∧ Rel N o c ev L s' t' := by
  have hN := h.1.1
  have nop : ∀ {K M : Option (Int32 × kS)}, K = some (0, s) → M = some (0, t) → ∃ (v : Int32) (s' t' : kS), K = some (v, s') ∧ M = some (v, t') ∧ Rel N o c ev L s' t' := fun h1 h2 => ⟨0, s, t, h1, h2, h⟩
  rcases arg_p h x with ⟨a1, a2, -⟩ | ⟨p, hp, rfl, a1, a2⟩
  · apply nop
    · unfold F_K_instruct
      rw [a1, sb_some, if_pos rfl]
    · unfold F_M_instruct
      rw [a2, sb_some, if_neg n10]
  · obtain ⟨ln, sp, v1, v2, v3, v4, v5, v6, v7, v8⟩ := h.2.2.2.2.2.1 p (by omega)
    have e6 : gI t 6 0 p = gI s 7 p 0 := (h.2.2.2.1 p (by omega)).1.symm
    have e4 : gI t 4 0 p = nI ln := by rw [← (h.2.1 p (by omega)).2.1, v3]
    have i1 : inb (nI p) 12 = true := inb_nI (by omega) (by omega)
    have i2 : (nI p).toNatClampNeg = p := nI_clamp (by omega)
    unfold F_K_instruct F_M_instruct
    rw [a1, a2, K_isIns, M_within]
    simp only [sb_some, if_neg n10, if_true, i1, i2, sg_true, sl_x, e6, e4, v3, ite_z]
    by_cases h7 : gI s 7 p 0 = 0
    · by_cases hln : ln = 10
      · subst hln
        apply nop
        · rw [if_pos h7, if_neg (show ¬ nI 10 < 10 by rw [show (10 : Int32) = nI 10 from rfl, nI_ltI] <;> omega)]
          split <;> rfl
        · rw [if_pos h7, if_pos (show nI 10 = 10 from rfl)]
      · rw [if_pos h7, if_pos h7, if_pos (show nI ln < 10 by rw [show (10 : Int32) = nI 10 from rfl, nI_ltI] <;> omega), if_neg (show ¬ nI ln = 10 by rw [show (10 : Int32) = nI 10 from rfl, nI_eq] <;> omega)]
        by_cases hok : okI op a b = 0
        · apply nop
          · rw [if_pos hok]
          · by_cases hw : 0 ≤ op ∧ op ≤ 9
            · rw [if_neg (fun z => z hw), M_fits _ _ _ _ hw, sb_some, if_pos hok]
            · rw [if_pos hw]
        · have hw : 0 ≤ op ∧ op ≤ 9 := Decidable.byContradiction fun z => hok (okI_out z)
          rw [if_neg hok, if_neg (fun z => z hw), M_fits _ _ _ _ hw, sb_some, if_neg hok]
          have hv := okI_v hok
          have j1 : inb (nI ln) 10 = true := inb_nI (by omega) (by omega)
          have j2 : (nI ln).toNatClampNeg = ln := nI_clamp (by omega)
          have j3 : inb (nI (10 * p + ln)) 120 = true := inb_nI (by omega) (by omega)
          have j4 : (nI (10 * p + ln)).toNatClampNeg = 10 * p + ln := nI_clamp (by omega)
          let s' : kS := sI (sI (sI (sI s 11 p ln op) 12 p ln a) 13 p ln b) 3 p 0 (nI (ln + 1))
          let t' : kS := sI (sI (sI (sI t 11 0 (10 * p + ln) op) 12 0 (10 * p + ln) a) 13 0 (10 * p + ln) b) 4 0 p (nI (ln + 1))
          have s11 : ∀ q i, gI s' 11 q i = if q = p ∧ i = ln then op else gI s 11 q i := fun q i => by simp [s', gI_sI]
          have s12 : ∀ q i, gI s' 12 q i = if q = p ∧ i = ln then a else gI s 12 q i := fun q i => by simp [s', gI_sI]
          have s13 : ∀ q i, gI s' 13 q i = if q = p ∧ i = ln then b else gI s 13 q i := fun q i => by simp [s', gI_sI]
          have s3 : ∀ q, gI s' 3 q 0 = if q = p then nI (ln + 1) else gI s 3 q 0 := fun q => by simp [s', gI_sI]
          have t11 : ∀ i, gI t' 11 0 i = if i = 10 * p + ln then op else gI t 11 0 i := fun i => by simp [t', gI_sI]
          have t12 : ∀ i, gI t' 12 0 i = if i = 10 * p + ln then a else gI t 12 0 i := fun i => by simp [t', gI_sI]
          have t13 : ∀ i, gI t' 13 0 i = if i = 10 * p + ln then b else gI t 13 0 i := fun i => by simp [t', gI_sI]
          have t4 : ∀ q, gI t' 4 0 q = if q = p then nI (ln + 1) else gI t 4 0 q := fun q => by simp [t', gI_sI]
          have hno := not_in h (p := p) (by rw [h7]; decide) (by rw [h7]; decide)
          have hb0 := h.1
          obtain ⟨hG, hQ, hO, hW, hU, hV, hE, hI, hD, hFr, ⟨l1, l2, l3, l4, l5, l6⟩, hS, hR, hK, hT⟩ := h
          refine ⟨1, s', t', ?_, ?_, ⟨hG, ?_, ?_, hW, hU, ?_, hE, hI, hD, ?_, ⟨l1, ?_, l3, l4, l5, l6⟩, ?_, hR, hK, hT⟩⟩
          · unfold F_P_append
            have k1 : gI (sI s 11 p ln op) 3 p 0 = nI ln := v3
            have k2 : gI (sI (sI s 11 p ln op) 12 p ln a) 3 p 0 = nI ln := v3
            have k3 : gI (sI (sI (sI s 11 p ln op) 12 p ln a) 13 p ln b) 3 p 0 = nI ln := v3
            simp only [v3, j1, j2, sg_true, sl_x, k1, k2, k3, nI_1, sb_some]
            rfl
          · have k1 : gI (sI (sI (sI t 11 0 (10 * p + ln) op) 12 0 (10 * p + ln) a) 13 0 (10 * p + ln) b) 4 0 p = nI ln := e4
            simp only [mul_10, nI_add, j3, j4, sg_true, k1, nI_1]
            rfl
          · intro q hq
            rw [s3, t4]
            obtain ⟨b1, b2, b3, b4⟩ := hQ q hq
            exact ⟨b1, by rw [b2], b3, b4⟩
          · intro q hq i hi
            obtain ⟨b1, b2, b3⟩ := hO q hq i hi
            rw [s11, s12, s13, t11, t12, t13]
            by_cases e : q = p ∧ i = ln
            · have e2 : 10 * q + i = 10 * p + ln := by omega
              rw [if_pos e, if_pos e, if_pos e, if_pos e2, if_pos e2, if_pos e2]
              exact ⟨rfl, rfl, rfl⟩
            · have e2 : ¬ 10 * q + i = 10 * p + ln := by omega
              rw [if_neg e, if_neg e, if_neg e, if_neg e2, if_neg e2, if_neg e2]
              exact ⟨b1, b2, b3⟩
          · intro q hq
            by_cases e : q = p
            · subst e
              refine ⟨ln + 1, sp, by omega, v2, by rw [s3, if_pos rfl], v4, v5, fun i hi => ?_, fun z => ?_, fun z => ?_⟩
              · rw [s11, s12]
                by_cases e : i = ln
                · rw [if_pos ⟨rfl, e⟩, if_pos ⟨rfl, e⟩]
                  exact hv
                · rw [if_neg (fun z => e z.2), if_neg (fun z => e z.2)]
                  exact v6 i (by omega)
              · have z : gI s 7 q 0 = 4 := z
                rw [h7] at z
                exact absurd z (by decide)
              · have z : gI s 7 q 0 = 5 := z
                rw [h7] at z
                exact absurd z (by decide)
            · obtain ⟨ln', sp', w1, w2, w3, w4, w5, w6, w7, w8⟩ := hV q hq
              refine ⟨ln', sp', w1, w2, by rw [s3, if_neg e, w3], w4, w5, fun i hi => ?_, fun z => ?_, fun z => ?_⟩
              · rw [s11, s12, if_neg (fun z => e z.1), if_neg (fun z => e z.1)]
                exact w6 i hi
              · rw [s11, if_neg (fun z => e z.1)]
                exact w7 z
              · rw [s11, if_neg (fun z => e z.1)]
                exact w8 z
          · intro q hq hq2
            obtain ⟨z1, z2, z3, z4⟩ := hFr q hq hq2
            refine ⟨z1, z2, ?_, z4⟩
            rw [s3, if_neg (by omega), z3]
          · intro r hr q
            rw [l2 r hr q]
            unfold qd
            by_cases e : q = p
            · subst e
              constructor
              · rintro ⟨z1, z2, -⟩
                rw [h7] at z2
                exact absurd z2 (by decide)
              · rintro ⟨z1, z2, -⟩
                have z2 : gI s 7 q 0 = 4 := z2
                rw [h7] at z2
                exact absurd z2 (by decide)
            · rw [s12, if_neg (fun z => e z.1)]
              rfl
          · intro r hr
            have e : sS t' r N = sS t r N := sS_eq (t' := t') (t := t) (fun i => rfl) N
            rw [e]
            exact hS r hr
    · apply nop
      · rw [if_neg h7]
        split <;> rfl
      · rw [if_neg h7]
theorem rel_cap {N o c ev : Nat} {L : Nat → List Nat} {s t : kS} {r : Nat} {u x : Int32} (h : Rel N o c ev L s t) : Rel N o c ev L (sI (sI s 15 r 0 u) 17 r 0 x) (sI (sI t 15 0 r u) 16 0 r x) := by
  obtain ⟨hG, hQ, hO, hW, hU, hV, hE, hI, hD, hFr, hL, hS, hR, hK, hT⟩ := h
  have e : ∀ r', sS (sI (sI t 15 0 r u) 16 0 r x) r' N = sS t r' N := fun r' => sS_eq (t' := sI (sI t 15 0 r u) 16 0 r x) (t := t) (fun i => rfl) N
  refine ⟨hG, hQ, hO, hW, hU, hV, hE, hI, hD, hFr, hL, fun r' hr' => by rw [e]; exact hS r' hr', ?_, hK, hT⟩
  intro r' hr'
  obtain ⟨a1, a2, a3, a4⟩ := hR r' hr'
  have k1 : gI (sI (sI s 15 r 0 u) 17 r 0 x) 15 r' 0 = if r' = r then u else gI s 15 r' 0 := by simp [gI_sI]
  have k2 : gI (sI (sI s 15 r 0 u) 17 r 0 x) 17 r' 0 = if r' = r then x else gI s 17 r' 0 := by simp [gI_sI]
  have k3 : gI (sI (sI t 15 0 r u) 16 0 r x) 15 0 r' = if r' = r then u else gI t 15 0 r' := by simp [gI_sI]
  have k4 : gI (sI (sI t 15 0 r u) 16 0 r x) 16 0 r' = if r' = r then x else gI t 16 0 r' := by simp [gI_sI]
  refine ⟨?_, ?_, a3, a4⟩
  · rw [k1, k3, a1]
  · rw [k2, k4, a2]
theorem rel_tank {N o c ev : Nat} {L : Nat → List Nat} {s t : kS} {r : Nat} {u x : Int32} (h : Rel N o c ev L s t) : Rel N o c ev L (sI (sI s 20 r 0 u) 21 r 0 x) (sI (sI t 19 0 r u) 20 0 r x) := by
  obtain ⟨hG, hQ, hO, hW, hU, hV, hE, hI, hD, hFr, hL, hS, hR, hK, hT⟩ := h
  have e : ∀ r', sS (sI (sI t 19 0 r u) 20 0 r x) r' N = sS t r' N := fun r' => sS_eq (t' := sI (sI t 19 0 r u) 20 0 r x) (t := t) (fun i => rfl) N
  refine ⟨hG, hQ, hO, hW, hU, hV, hE, hI, hD, hFr, hL, fun r' hr' => by rw [e]; exact hS r' hr', hR, ?_, hT⟩
  intro r' hr'
  obtain ⟨a1, a2⟩ := hK r' hr'
  have k1 : gI (sI (sI s 20 r 0 u) 21 r 0 x) 20 r' 0 = if r' = r then u else gI s 20 r' 0 := by simp [gI_sI]
  have k2 : gI (sI (sI s 20 r 0 u) 21 r 0 x) 21 r' 0 = if r' = r then x else gI s 21 r' 0 := by simp [gI_sI]
  have k3 : gI (sI (sI t 19 0 r u) 20 0 r x) 19 0 r' = if r' = r then u else gI t 19 0 r' := by simp [gI_sI]
  have k4 : gI (sI (sI t 19 0 r u) 20 0 r x) 20 0 r' = if r' = r then x else gI t 20 0 r' := by simp [gI_sI]
  refine ⟨?_, ?_⟩
  · rw [k1, k3, a1]
  · rw [k2, k4, a2]
theorem r_resource {N o c ev : Nat} {L : Nat → List Nat} {s t : kS} (h : Rel N o c ev L s t) (x u y : Int32) (hy : bz y = true) (ho : o + 12 < 2 ^ 31) : ∃ (v : Int32) (s' t' : kS) (o' : Nat) (L' : Nat → List Nat), F_K_resource s x u y = some (v, s') ∧ F_M_resource t x u y = some (v, t') ∧ Rel N o' c ev L' s' t' ∧ o' ≤ o + 12 := by
  have hN := h.1.1
  have nop : ∀ {K M : Option (Int32 × kS)}, K = some (0, s) → M = some (0, t) → ∃ (v : Int32) (s' t' : kS) (o' : Nat) (L' : Nat → List Nat), K = some (v, s') ∧ M = some (v, t') ∧ Rel N o' c ev L' s' t' ∧ o' ≤ o + 12 := fun h1 h2 => ⟨0, s, t, o, L, h1, h2, h, by omega⟩
  unfold F_K_resource F_M_resource
  rw [K_isRes, M_within, sb_some, sb_some]
  simp only [ite_z]
  by_cases h1 : 0 ≤ x ∧ x ≤ 3
  · obtain ⟨r, hr, rfl⟩ := op_lt4 h1.1 h1.2
    rw [if_neg (not_not_intro h1), if_neg (not_not_intro h1), K_within, M_within, sb_some, sb_some]
    simp only [ite_z]
    by_cases h2 : 0 ≤ u ∧ u ≤ 9
    · have hsz : gI s 16 r 0 = sS t r N := h.2.2.2.2.2.2.2.2.2.2.2.1 r hr
      have i1 : inb (nI r) 4 = true := inb_nI (by omega) (by omega)
      have i2 : (nI r).toNatClampNeg = r := nI_clamp (by omega)
      rw [if_neg (not_not_intro h2), if_neg (not_not_intro h2), M_seized hr hN h.1.2.2.1, sb_some, ← hsz]
      simp only [i1, i2, sg_true, sl_x, hy]
      by_cases h3 : gI s 16 r 0 ≤ u
      · rw [if_pos h3, if_pos h3]
        obtain ⟨s', t', o', L', z1, z2, z3, z4, z5, z6⟩ := r_serve (rel_cap (r := r) (u := u) (x := y) h) hr ho
        refine ⟨1, s', t', o', L', ?_, ?_, z3, z6⟩
        · rw [z1, sb_some]
        · rw [z2, sb_some]
      · apply nop
        · rw [if_neg h3]
        · rw [if_neg h3]
    · apply nop
      · rw [if_pos h2]
      · rw [if_pos h2]
  · apply nop
    · rw [if_pos h1]
    · rw [if_pos h1]
theorem r_tank {N o c ev : Nat} {L : Nat → List Nat} {s t : kS} (h : Rel N o c ev L s t) (x u y : Int32) : ∃ (v : Int32) (s' t' : kS), F_K_tank s x u y = some (v, s') ∧ F_M_tank t x u y = some (v, t') ∧ Rel N o c ev L s' t' := by
  have nop : ∀ {K M : Option (Int32 × kS)}, K = some (0, s) → M = some (0, t) → ∃ (v : Int32) (s' t' : kS), K = some (v, s') ∧ M = some (v, t') ∧ Rel N o c ev L s' t' := fun h1 h2 => ⟨0, s, t, h1, h2, h⟩
  unfold F_K_tank F_M_tank
  simp only [K_isTank, K_within, M_within, sb_some, ite_z]
  by_cases h1 : 0 ≤ x ∧ x ≤ 3
  · obtain ⟨r, hr, rfl⟩ := op_lt4 h1.1 h1.2
    rw [if_neg (not_not_intro h1), if_neg (not_not_intro h1)]
    by_cases h2 : 0 ≤ u ∧ u ≤ 1000
    · rw [if_neg (not_not_intro h2), if_neg (not_not_intro h2)]
      by_cases h3 : 0 ≤ y ∧ y ≤ u
      · rw [if_neg (not_not_intro h3), if_neg (not_not_intro h3)]
        simp (disch := omega) only [inb_nI, sg_true, nI_clamp, sl_x]
        exact ⟨1, _, _, rfl, rfl, rel_tank h⟩
      · apply nop
        · rw [if_pos h3]
        · rw [if_pos h3]
    · apply nop
      · rw [if_pos h2]
      · rw [if_pos h2]
  · apply nop
    · rw [if_pos h1]
    · rw [if_pos h1]
