/-! The line of a resource is served, in both. -/
theorem K_give (s : kS) (p : Nat) {r : Nat} (hr : r < 4) (v : Int32) : F_K_give s p (nI r) v = some (sI (sI s 14 p r (gI s 14 p r + v)) 16 r 0 (gI s 16 r 0 + v)) := by
  unfold F_K_give
  simp (disch := omega) only [inb_nI, sg_true, nI_clamp, sl_x]
  rfl
theorem K_second (s : kS) {p d : Nat} (h : gI s 9 p 0 = nI d) (hd : d < 10) : F_P_secondOperand s p = some (gI s 13 p d) := by
  unfold F_P_secondOperand
  simp (disch := omega) only [h, inb_nI, sg_true, nI_clamp]
theorem K_first (s : kS) {p d : Nat} (h : gI s 9 p 0 = nI d) (hd : d < 10) : F_P_firstOperand s p = some (gI s 12 p d) := by
  unfold F_P_firstOperand
  simp (disch := omega) only [h, inb_nI, sg_true, nI_clamp]
theorem K_unseized (s : kS) (r : Nat) : F_E_unseized s r = some (gI s 15 r 0 - gI s 16 r 0) := rfl
theorem i64_z (x : Int64) : x + (0 : Int32).toInt64 = x := by
  have : (0 : Int32).toInt64 = 0 := by decide
  rw [this]; simp
theorem serve_step {N o c ev : Nat} {L : Nat → List Nat} {s t : kS} (h : Rel N o c ev L s t) {r p : Nat} {l : List Nat} (hr : r < 4) (hl : L r = p :: l) (ho : o + 1 < 2 ^ 31) : ∃ (d : Nat) (sf tf : kS), 1 ≤ d ∧ d ≤ 10 ∧ p < N ∧ gI s 9 p 0 = nI (d - 1) ∧ gI t 5 0 p = nI d ∧ gI t 13 0 (10 * p + (d - 1)) = gI s 13 p (d - 1) ∧ gI s 18 r 0 = nI p ∧ gI s 2 p 0 = nI p ∧ (bd (F_K_give s p (nI r) (gI s 13 p (d - 1))) (fun r7 => lx (sL r7 6 r 0 ((gL r7 6 r 0) + ((gL r7 0 0 0) - (gL r7 4 p 0)))) (fun σ8 => bd (F_L_drop σ8 r (gI σ8 2 p 0)) (fun r9 => F_K_enter r9 p 1 0)))) = some sf ∧ (lx (sI t 14 0 (4 * p + r) ((gI t 14 0 (4 * p + r)) + gI s 13 p (d - 1))) (fun σ9 => lx (sL σ9 18 0 r ((gL σ9 18 0 r) + ((gL σ9 0 0 0) - (gL σ9 10 0 p)))) (fun σ13 => F_M_enter σ13 (nI p) 1 (gL σ13 0 0 0)))) = some tf ∧ Rel N (o + 1) c ev (Lo p L) sf tf ∧ St s sf t tf ∧ (∀ q, q ≠ p → Kp q s sf) := by
  have hpm : p ∈ L r := by rw [hl]; exact List.mem_cons_self ..
  obtain ⟨hpN, hqd, -⟩ := mem_q h (by omega) hpm
  have hN := h.1.1
  have hq := hqd hr
  obtain ⟨d, d1, d2, d3, d4, d5, d6, d7, d8, d9, d10, d11⟩ := q_read h (p := p) (by omega) (Or.inl hq.1)
  have hm : gI s 18 r 0 = nI p := ((h.2.2.2.2.2.2.2.2.2.2.1).1 r (by omega)).2 0 p (by rw [hl]; rfl)
  have hno : gI s 2 p 0 = nI p := (h.2.1 p (by omega)).1
  have hu : gI s 14 p r = gI t 14 0 (4 * p + r) := h.2.2.2.2.1 p (by omega) r hr
  have h1 := rel_units (w := gI s 14 p r + gI s 13 p (d - 1)) (z := gI s 16 r 0 + gI s 13 p (d - 1)) h hpN hr (by grind)
  have hsi : gL s 4 p 0 = gL t 10 0 p := h.2.2.2.2.2.2.2.1 p (by omega) hq.1
  have hcl : gL s 0 0 0 = gL t 0 0 0 := h.1.2.2.2.1
  have hli : gL s 6 r 0 = gL t 18 0 r := (h.2.2.2.2.2.2.2.2.2.2.2.2.1 r hr).2.2.2
  have h2 := rel_lined (r := r) (w := gL s 6 r 0 + (gL s 0 0 0 - gL s 4 p 0)) h1
  obtain ⟨f, v, k1, k2⟩ := line_drop (r := r) (p := p) h2 (by omega) hpm
  have hrd : gI s 5 p 0 = gI t 2 0 p ∧ ∃ k : Nat, 1 ≤ k ∧ k ≤ 9 ∧ gI s 5 p 0 = nI k := by
    have := h.2.2.2.2.2.2.2.2.1 p hpN
    exact ⟨this.1, this.2 (by rw [hq.1]; decide)⟩
  have h3 := rel_enter (st := 1) (d := 0) (w := gL s 0 0 0) h2 hpN (Af_line _ p r f v) (Bf.rf p _) rfl rfl k2 ⟨d3.trans d4.symm, d, d2, d3⟩ hrd (Or.inl rfl) ho (i64_z _)
  refine ⟨d, _, _, d1, d2, hpN, d5, d4, d11, hm, hno, ?_, ?_, h3.1, ?_, ?_⟩
  · rw [K_give _ _ hr, sb_some, sl_x]
    rw [show gI (sL (sI (sI s 14 p r (gI s 14 p r + gI s 13 p (d - 1))) 16 r 0 (gI s 16 r 0 + gI s 13 p (d - 1))) 6 r 0 (gL (sI (sI s 14 p r (gI s 14 p r + gI s 13 p (d - 1))) 16 r 0 (gI s 16 r 0 + gI s 13 p (d - 1))) 6 r 0 + (gL (sI (sI s 14 p r (gI s 14 p r + gI s 13 p (d - 1))) 16 r 0 (gI s 16 r 0 + gI s 13 p (d - 1))) 0 0 0 - gL (sI (sI s 14 p r (gI s 14 p r + gI s 13 p (d - 1))) 16 r 0 (gI s 16 r 0 + gI s 13 p (d - 1))) 4 p 0))) 2 p 0 = nI p from hno]
    simp only [gL_sI]
    rw [k1, sb_some, K_enter]
  · simp only [sl_x, gL_sI, gL_sL]
    rw [M_enter _ (by omega), ← hu, ← hli, ← hcl, ← hsi]
    rw [if_neg (by simp)]
  · exact St.tr (u := sL (sI (sI s 14 p r (gI s 14 p r + gI s 13 p (d - 1))) 16 r 0 (gI s 16 r 0 + gI s 13 p (d - 1))) 6 r 0 (gL s 6 r 0 + (gL s 0 0 0 - gL s 4 p 0))) (St.rf s t) h3.2.1
  · exact h3.2.2
