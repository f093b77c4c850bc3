/-! One instruction is done, in both. -/
theorem rel_step {N o c ev : Nat} {L : Nat → List Nat} {s t : kS} {p ln sp : Nat} (h : Rel N o c ev L s t) (hp : p < N) (h1 : gI s 7 p 0 = 1) (hli : gI s 10 p 0 = 0) (hV : RV1 s p ln sp) (hlt : sp < ln) : Rel N o c ev (Lo p L) (sI (sI s 9 p 0 (nI sp)) 8 p 0 (nI (sp + 1))) (sI t 5 0 p (nI (sp + 1))) ∧ RV1 (sI (sI s 9 p 0 (nI sp)) 8 p 0 (nI (sp + 1))) p ln (sp + 1) := by
  have hN := h.1.1
  have hL := h.2.2.2.2.2.2.2.2.2.2.1
  have hno := not_in h (p := p) (by rw [h1]; decide) (by rw [h1]; decide)
  obtain ⟨v1, v2, v3, v4, v5, v6, v7, v8⟩ := hV
  have hW := h.2.2.2.1 p (by omega)
  have hrd := h.2.2.2.2.2.2.2.2.1 p hp
  have c7 : gI (sI (sI s 9 p 0 (nI sp)) 8 p 0 (nI (sp + 1))) 7 p 0 = 1 := h1
  have c8 : gI (sI (sI s 9 p 0 (nI sp)) 8 p 0 (nI (sp + 1))) 8 p 0 = nI (sp + 1) := gI_self ..
  have m5 : gI (sI t 5 0 p (nI (sp + 1))) 5 0 p = nI (sp + 1) := gI_self ..
  have m6 : gI (sI t 5 0 p (nI (sp + 1))) 6 0 p = 1 := hW.1.symm.trans h1
  refine ⟨(rel_gen (o' := o) (s' := sI (sI s 9 p 0 (nI sp)) 8 p 0 (nI (sp + 1))) (t' := sI t 5 0 p (nI (sp + 1))) h hp ?_ ?_ ?_ ⟨h.1.2.2.2.2.1, h.1.2.2.2.2.2.1, by omega, h.1.2.2.2.2.2.2.2.1⟩ (fun r hr => by rw [Lo_not (hno r hr)]; exact hL.1 r hr)).1, v1, by omega, v3, c8, v5, v6, fun z => ?_, fun z => ?_⟩
  · refine ⟨fun k j i h5 h7 h8 h9 h10 h18 h19 => ?_, fun q hq => ?_, fun k j i h1 h2 h3 => rfl⟩
    · simp [gI_sI, h8, h9]
    · simp [gI_sI, hq]
  · refine ⟨fun k j i h2 h5 h6 h8 h31 => ?_, fun q hq => ?_, fun k j i h => rfl⟩
    · simp [gI_sI, h5]
    · simp [gI_sI, hq]
  · unfold NF
    rw [c7, c8, m5, m6]
    refine ⟨⟨rfl, rfl, by decide, by decide⟩, by decide, by decide, ⟨sp + 1, by omega, rfl⟩, ?_, hrd.1, fun _ => hrd.2 (by rw [h1]; decide)⟩
    rcases h.2.2.2.2.2.2.1 p hp with z | z
    · rw [hli] at z
      exact absurd z.1 (by decide)
    · exact Or.inr z
  · rw [c7] at z; exact absurd z (by decide)
  · rw [c7] at z; exact absurd z (by decide)
theorem M_waitq {t : kS} {p : Nat} (hp : p < 12) : (gd (inb (nI p) 12) (lx (sI t 6 0 (nI p).toNatClampNeg 5) (fun σ14 => gd (inb (nI p) 12) (lx (sI σ14 9 0 (nI p).toNatClampNeg (gI σ14 32 0 0)) (fun σ16 => lx (sI σ16 32 0 0 ((gI σ16 32 0 0) + 1)) (fun σ17 => some ((0 : Int32), σ17))))))) = some (0, mWait t p) := by
  simp (disch := omega) only [inb_nI, sg_true, nI_clamp, sl_x]
  rfl
theorem n10 : ¬ (1 : Int32) = 0 := by decide
theorem bz1 : bz 1 = true := by decide
theorem bz0 : bz 0 = true := by decide
theorem r_cond {N o c ev : Nat} {L : Nat → List Nat} {s t : kS} {p ln sp : Nat} (h : Rel N o c ev L s t) (hp : p < N) (h1 : gI s 7 p 0 = 1) (hli : gI s 10 p 0 = 0) (hc : c + 1 < 2 ^ 31) (hV : RV1 s p ln (sp + 1)) (hsp : sp + 1 ≤ ln ∧ gI s 9 p 0 = nI sp) (hop : 4 ≤ gI s 11 p sp ∧ gI s 11 p sp ≤ 6) : ∃ (b : Int32) (s' t' : kS) (c' : Nat) (L' : Nat → List Nat), (bd (F_K_meetCondition s p) (fun r12 => if r12.1 = 0 then (bd (F_K_waitForCondition r12.2 p) (fun r13 => if r13.1 = 0 then (some (0, r13.2)) else (some (1, r13.2)))) else (some (1, r12.2)))) = some (b, s') ∧ (bd (F_M_holds t (nI (10 * p + sp))) (fun r12 => if r12 = 0 then (gd (inb (nI p) 12) (lx (sI t 6 0 (nI p).toNatClampNeg 5) (fun σ14 => gd (inb (nI p) 12) (lx (sI σ14 9 0 (nI p).toNatClampNeg (gI σ14 32 0 0)) (fun σ16 => lx (sI σ16 32 0 0 ((gI σ16 32 0 0) + 1)) (fun σ17 => some ((0 : Int32), σ17))))))) else (bd (F_M_pour t (nI (10 * p + sp))) (fun r18 => some (1, r18))))) = some (b, t') ∧ Rel N o c' ev L' s' t' ∧ St s s' t t' ∧ (b = 0 ∨ (b = 1 ∧ Kp p s s')) ∧ c' ≤ c + 1 := by
  have hN := h.1.1
  have hv := hV.2.2.2.2.2.1 sp (by omega)
  have hs10 := hV.2.1
  obtain ⟨b, s', k1, k2, k3⟩ := r_meet h hp (by omega) hsp.2 hv hop
  rw [k1, k2, sb_some, sb_some]
  rcases k3 with ⟨rfl, rfl⟩ | ⟨rfl, t', k4, k5, k6, k7, -⟩
  · obtain ⟨s9, L9, q1, q2, q3, q4⟩ := r_wait h hp h1 hli hc hV ⟨by omega, hsp.1, hsp.2⟩ hop
    refine ⟨0, s9, _, c + 1, L9, ?_, ?_, q2, q3, Or.inl rfl, by omega⟩
    · rw [if_pos rfl, q1, sb_some, if_pos rfl]
    · rw [if_pos rfl, M_waitq (by omega)]
  · refine ⟨1, s', t', c, L, ?_, ?_, k5, k6, Or.inr ⟨rfl, k7 p⟩, by omega⟩
    · rw [if_neg n10]
    · rw [if_neg n10, k4, sb_some]
set_option maxHeartbeats 1000000 in
theorem r_perform {N o c ev : Nat} {L : Nat → List Nat} {s t : kS} {p ln sp : Nat} (h : Rel N o c ev L s t) (hp : p < N) (h1 : gI s 7 p 0 = 1) (hli : gI s 10 p 0 = 0) (ho : o + 168 < 2 ^ 31) (hc : c + 1 < 2 ^ 31) (hV : RV1 s p ln sp) (hlt : sp < ln) : ∃ (b : Int32) (s' t' : kS) (o' c' : Nat) (L' : Nat → List Nat), F_K_perform s p = some (b, s') ∧ F_M_perform (sI t 5 0 p (nI (sp + 1))) (nI p) (nI (10 * p + sp)) = some (b, t') ∧ Rel N o' c' ev L' s' t' ∧ (∀ q, gI s' 3 q 0 = gI s 3 q 0) ∧ (b = 0 ∨ (b = 1 ∧ gI s' 7 p 0 = 1 ∧ gI s' 10 p 0 = 0 ∧ gI s' 8 p 0 = nI (sp + 1) ∧ gI s' 5 p 0 = gI s 5 p 0)) ∧ o' ≤ o + 168 ∧ c' ≤ c + 1 := by
  have hN := h.1.1
  obtain ⟨h2, hV2⟩ := rel_step h hp h1 hli hV hlt
  have hp8 : gI s 8 p 0 = nI sp := hV.2.2.2.1
  have hln := hV.1
  unfold F_K_perform
  rw [sl_x, sl_x, hp8, show gI (sI s 9 p 0 (nI sp)) 8 p 0 = nI sp from hp8, nI_1]
  have c9 : gI (sI (sI s 9 p 0 (nI sp)) 8 p 0 (nI (sp + 1))) 9 p 0 = nI sp := by
    show gI (sI s 9 p 0 (nI sp)) 9 p 0 = nI sp
    exact gI_self ..
  have c7 : gI (sI (sI s 9 p 0 (nI sp)) 8 p 0 (nI (sp + 1))) 7 p 0 = 1 := h1
  have c10 : gI (sI (sI s 9 p 0 (nI sp)) 8 p 0 (nI (sp + 1))) 10 p 0 = 0 := hli
  have c8 : gI (sI (sI s 9 p 0 (nI sp)) 8 p 0 (nI (sp + 1))) 8 p 0 = nI (sp + 1) := gI_self ..
  have c5 : gI (sI (sI s 9 p 0 (nI sp)) 8 p 0 (nI (sp + 1))) 5 p 0 = gI s 5 p 0 := rfl
  have c3 : ∀ q, gI (sI (sI s 9 p 0 (nI sp)) 8 p 0 (nI (sp + 1))) 3 q 0 = gI s 3 q 0 := fun q => rfl
  generalize sI (sI s 9 p 0 (nI sp)) 8 p 0 (nI (sp + 1)) = s2 at *
  generalize sI t 5 0 p (nI (sp + 1)) = t2 at *
  have kp : ∀ s', Kp p s2 s' → gI s' 7 p 0 = 1 ∧ gI s' 10 p 0 = 0 ∧ gI s' 8 p 0 = nI (sp + 1) ∧ gI s' 5 p 0 = gI s 5 p 0 := fun s' z => ⟨z.1.trans c7, z.2.2.1.trans c10, z.2.1.trans c8, z.2.2.2.trans c5⟩
  obtain ⟨o1, o2, o3⟩ := h2.2.2.1 p (by omega) sp (by omega)
  have hv := hV2.2.2.2.2.2.1 sp (by omega)
  have kf := K_first s2 c9 (by omega)
  have ks := K_second s2 c9 (by omega)
  have hL := h2.2.2.2.2.2.2.2.2.2.2.1
  have hno := not_in h2 (p := p) (by rw [c7]; decide) (by rw [c7]; decide)
  have hrd := h2.2.2.2.2.2.2.2.2.1 p hp
  have hrd2 := hrd.2 (by rw [c7]; decide)
  have hW := h2.2.2.2.1 p (by omega)
  unfold F_M_perform
  rw [kf, sb_some, c9]
  have i1 : inb (nI (10 * p + sp)) 120 = true := inb_nI (by omega) (by omega)
  have i2 : (nI (10 * p + sp)).toNatClampNeg = 10 * p + sp := nI_clamp (by omega)
  have i3 : inb (nI p) 12 = true := inb_nI (by omega) (by omega)
  have i4 : (nI p).toNatClampNeg = p := nI_clamp (by omega)
  have i5 : inb (nI sp) 10 = true := inb_nI (by omega) (by omega)
  have i6 : (nI sp).toNatClampNeg = sp := nI_clamp (by omega)
  simp only [i1, i2, i3, i4, i5, i6, sg_true, sl_x, ← o1, ← o2, ← o3]
  by_cases e0 : gI s2 11 p sp = 0
  · rw [if_pos e0, if_pos e0]
    have h3 := rel_enter (st := 2) (d := gI s2 12 p sp) (w := gL t2 0 0 0 + (gI s2 12 p sp).toInt64) h2 hp (Af.rf p s2) (Bf.rf p t2) rfl rfl (fun r hr => by rw [Lo_not (hno r hr)]; exact hL.1 r hr) ⟨hW.2.1, sp + 1, by omega, c8⟩ ⟨hrd.1, hrd2⟩ (Or.inr rfl) (by omega) (by rw [h2.1.2.2.2.1])
    refine ⟨0, _, _, o + 1, c, _, ?_, ?_, h3.1, fun q => (h3.2.1.1 q).trans (c3 q), Or.inl rfl, by omega, by omega⟩
    · rw [K_enter, sb_some]
    · rw [M_enter _ (by omega), sb_some]
  rw [if_neg e0, if_neg e0]
  by_cases e1 : gI s2 11 p sp = 1
  · rw [if_pos e1, if_pos e1]
    have d7 : gI (sI s2 7 p 0 3) 7 p 0 = 3 := gI_self ..
    have m6 : gI (sI t2 6 0 p 3) 6 0 p = 3 := gI_self ..
    have h3 := rel_gen (o' := o) (s' := sI s2 7 p 0 3) (t' := sI t2 6 0 p 3) h2 hp ⟨fun k j i h5 h7 h8 h9 h10 h18 h19 => by simp [gI_sI, h7], fun q hq => by simp [gI_sI, hq], fun k j i h1 h2 h3 => rfl⟩ ⟨fun k j i h2 h5 h6 h8 h31 => by simp [gI_sI, h6], fun q hq => by simp [gI_sI, hq], fun k j i h => rfl⟩ (by
      unfold NF
      rw [d7, m6]
      refine ⟨⟨rfl, hW.2.1, by decide, by decide⟩, by decide, by decide, ⟨sp + 1, by omega, c8⟩, ?_, hrd.1, fun _ => hrd2⟩
      rcases h2.2.2.2.2.2.2.1 p hp with z | z
      · rw [c10] at z
        exact absurd z.1 (by decide)
      · exact Or.inr z) ⟨h2.1.2.2.2.2.1, h2.1.2.2.2.2.2.1, by omega, h2.1.2.2.2.2.2.2.2.1⟩ (fun r hr => by rw [Lo_not (hno r hr)]; exact hL.1 r hr)
    exact ⟨0, _, _, o, c, _, rfl, rfl, h3.1, fun q => (h3.2.1.1 q).trans (c3 q), Or.inl rfl, by omega, by omega⟩
  rw [if_neg e1, if_neg e1]
  by_cases e2 : gI s2 11 p sp = 2
  · rw [if_pos e2, if_pos e2]
    have hv' := hv
    rw [e2] at hv'
    obtain ⟨a0, a3⟩ := hv'.2.2.1 (by decide) (by decide)
    obtain ⟨r, hr, er⟩ := op_lt4 a0 a3
    rw [er]
    obtain ⟨b, s', t', o', c', L', z1, z2, z3, z4, z5, z6, z7⟩ := r_seize (sp := sp + 1) (r := r) h2 hp c7 c10 hc ho hV2 ⟨by omega, by omega, c9⟩ hr e2 er
    refine ⟨b, s', t', o', c', L', z1, ?_, z3, fun q => (z4 q).trans (c3 q), ?_, z6, z7⟩
    · rw [show gI s2 13 p sp = gI s2 13 p (sp + 1 - 1) from rfl, z2, sb_some]
      rcases z5 with rfl | ⟨rfl, -⟩
      · rw [bz0, sg_true]
      · rw [bz1, sg_true]
    · rcases z5 with rfl | ⟨rfl, z⟩
      · exact Or.inl rfl
      · exact Or.inr ⟨rfl, kp s' z⟩
  rw [if_neg e2, if_neg e2]
  by_cases e3 : gI s2 11 p sp = 3
  · rw [if_pos e3, if_pos e3]
    have hv' := hv
    rw [e3] at hv'
    obtain ⟨a0, a3⟩ := hv'.2.2.1 (by decide) (by decide)
    obtain ⟨r, hr, er⟩ := op_lt4 a0 a3
    rw [er]
    obtain ⟨s', t', o', L', z1, z2, z3, z4, z5, z6⟩ := r_giveBack h2 hp hr (gI s2 13 p sp) (by omega)
    refine ⟨1, s', t', o', c, L', ?_, ?_, z3, fun q => (z4.1 q).trans (c3 q), Or.inr ⟨rfl, kp s' (z5 p (by rw [c7]; decide))⟩, by omega, by omega⟩
    · rw [ks, sb_some, z1, sb_some]
    · rw [z2, sb_some]
  rw [if_neg e3, if_neg e3]
  by_cases e46 : 4 ≤ gI s2 11 p sp ∧ gI s2 11 p sp ≤ 6
  · obtain ⟨b, s', t', c', L', z1, z2, z3, z4, z5, z6⟩ := r_cond h2 hp c7 c10 hc hV2 ⟨by omega, c9⟩ e46
    have fin : ∃ (b : Int32) (s' t' : kS) (o' c' : Nat) (L' : Nat → List Nat), (bd (F_K_meetCondition s2 p) (fun r12 => if r12.1 = 0 then (bd (F_K_waitForCondition r12.2 p) (fun r13 => if r13.1 = 0 then (some (0, r13.2)) else (some (1, r13.2)))) else (some (1, r12.2)))) = some (b, s') ∧ (bd (F_M_holds t2 (nI (10 * p + sp))) (fun r12 => if r12 = 0 then (gd (inb (nI p) 12) (lx (sI t2 6 0 (nI p).toNatClampNeg 5) (fun σ14 => gd (inb (nI p) 12) (lx (sI σ14 9 0 (nI p).toNatClampNeg (gI σ14 32 0 0)) (fun σ16 => lx (sI σ16 32 0 0 ((gI σ16 32 0 0) + 1)) (fun σ17 => some ((0 : Int32), σ17))))))) else (bd (F_M_pour t2 (nI (10 * p + sp))) (fun r18 => some (1, r18))))) = some (b, t') ∧ Rel N o' c' ev L' s' t' ∧ (∀ q, gI s' 3 q 0 = gI s 3 q 0) ∧ (b = 0 ∨ (b = 1 ∧ gI s' 7 p 0 = 1 ∧ gI s' 10 p 0 = 0 ∧ gI s' 8 p 0 = nI (sp + 1) ∧ gI s' 5 p 0 = gI s 5 p 0)) ∧ o' ≤ o + 168 ∧ c' ≤ c + 1 :=
      ⟨b, s', t', o, c', L', z1, z2, z3, fun q => (z4.1 q).trans (c3 q), z5.elim Or.inl (fun z => Or.inr ⟨z.1, kp s' z.2⟩), by omega, z6⟩
    simp only [i3, i4, sg_true, sl_x] at fin
    by_cases e4 : gI s2 11 p sp = 4
    · rw [if_pos e4, if_pos e4]
      exact fin
    rw [if_neg e4, if_neg e4]
    by_cases e5 : gI s2 11 p sp = 5
    · rw [if_pos e5, if_pos e5]
      exact fin
    rw [if_neg e5, if_neg e5]
    have e6 : gI s2 11 p sp = 6 := by grind
    rw [if_pos e6, if_pos e6]
    exact fin
  have e4 : ¬ gI s2 11 p sp = 4 := by grind
  have e5 : ¬ gI s2 11 p sp = 5 := by grind
  have e6 : ¬ gI s2 11 p sp = 6 := by grind
  rw [if_neg e4, if_neg e4, if_neg e5, if_neg e5, if_neg e6, if_neg e6]
  by_cases e7 : gI s2 11 p sp = 7
  · rw [if_pos e7, if_pos e7]
    obtain ⟨b, s', t', o', L', z1, z2, z3, z4, z5, z6⟩ := r_activate h2 (gI s2 12 p sp) 0 (by omega)
    refine ⟨1, s', t', o', c, L', ?_, ?_, z3, fun q => (z4.1 q).trans (c3 q), Or.inr ⟨rfl, kp s' (z5 p c7)⟩, by omega, by omega⟩
    · rw [z1, sb_some]
    · rw [z2, sb_some]
  rw [if_neg e7, if_neg e7]
  by_cases e8 : gI s2 11 p sp = 8
  · rw [if_pos e8, if_pos e8]
    obtain ⟨b, s', t', o', L', z1, z2, z3, z4, z5, z6⟩ := r_interrupt h2 (gI s2 12 p sp) (by omega)
    refine ⟨1, s', t', o', c, L', ?_, ?_, z3, fun q => (z4.1 q).trans (c3 q), Or.inr ⟨rfl, kp s' (z5 p c7)⟩, by omega, by omega⟩
    · rw [z1, sb_some]
    · rw [z2, sb_some]
  rw [if_neg e8, if_neg e8]
  have e9 : gI s2 11 p sp = 9 := by
    have := hv.1
    have := hv.2.1
    grind
  rw [if_pos e9, if_pos e9]
  obtain ⟨b, s', t', o', L', z1, z2, z3, z4, z5, z6⟩ := r_kill h2 (gI s2 12 p sp) (by omega)
  have m6 : gI t' 6 0 p = gI s' 7 p 0 := (z3.2.2.2.1 p (by omega)).1.symm
  rw [z1, z2, sb_some, sb_some]
  simp only [m6]
  by_cases ex : gI s2 12 p sp = nI p
  · have := (z5 p c7).2 hp ex
    exact ⟨0, s', t', o', c, L', by rw [if_pos this], by rw [if_pos this], z3, fun q => (z4.1 q).trans (c3 q), Or.inl rfl, by omega, by omega⟩
  · have k := (z5 p c7).1 ex
    have : ¬ gI s' 7 p 0 = 7 := by rw [k.1, c7]; decide
    exact ⟨1, s', t', o', c, L', by rw [if_neg this], by rw [if_neg this], z3, fun q => (z4.1 q).trans (c3 q), Or.inr ⟨rfl, kp s' k⟩, by omega, by omega⟩
