def kSeize (s : kS) (p : Nat) : Option (Int32 × kS) := bd (F_K_seizeFree s p) (fun r7 => if r7.1 = 0 then bd (F_K_seizeByForce r7.2 p) (fun r8 => if r8.1 = 0 then bd (F_K_standInLine r8.2 p) (fun r9 => if r9.1 = 0 then some (0, r9.2) else some (1, r9.2)) else some (1, r8.2)) else some (1, r7.2))
theorem M_queue {t : kS} {p : Nat} (hp : p < 12) : (gd (inb (nI p) 12) (lx (sI t 6 0 (nI p).toNatClampNeg 4) (fun σ5 => gd (inb (nI p) 12) (lx (sI σ5 9 0 (nI p).toNatClampNeg (gI σ5 32 0 0)) (fun σ7 => lx (sI σ7 32 0 0 ((gI σ7 32 0 0) + 1)) (fun σ8 => gd (inb (nI p) 12) (lx (sL σ8 10 0 (nI p).toNatClampNeg (gL σ8 0 0 0)) (fun σ10 => some ((0 : Int32), σ10))))))))) = some (0, mQueue t p) := by
  simp (disch := omega) only [inb_nI, sg_true, nI_clamp, sl_x]
  rfl
theorem mq_eq (t : kS) (p : Nat) : sL (sI (sI (sI t 6 0 p 4) 9 0 p (gI (sI t 6 0 p 4) 32 0 0)) 32 0 0 (gI (sI (sI t 6 0 p 4) 9 0 p (gI (sI t 6 0 p 4) 32 0 0)) 32 0 0 + 1)) 10 0 p (gL (sI (sI (sI t 6 0 p 4) 9 0 p (gI (sI t 6 0 p 4) 32 0 0)) 32 0 0 (gI (sI (sI t 6 0 p 4) 9 0 p (gI (sI t 6 0 p 4) 32 0 0)) 32 0 0 + 1)) 0 0 0) = mQueue t p := id rfl
theorem r_seize {N o c ev : Nat} {L : Nat → List Nat} {s t : kS} {p r ln sp : Nat} (h : Rel N o c ev L s t) (hp : p < N) (h1 : gI s 7 p 0 = 1) (hli : gI s 10 p 0 = 0) (hc : c + 1 < 2 ^ 31) (ho : o + 168 < 2 ^ 31) (hV : RV1 s p ln sp) (hsp : 1 ≤ sp ∧ sp ≤ ln ∧ gI s 9 p 0 = nI (sp - 1)) (hr : r < 4) (hop : gI s 11 p (sp - 1) = 2) (ha : gI s 12 p (sp - 1) = nI r) : ∃ (b : Int32) (s' t' : kS) (o' c' : Nat) (L' : Nat → List Nat), kSeize s p = some (b, s') ∧ F_M_seize t (nI p) (nI r) (gI s 13 p (sp - 1)) = some (b, t') ∧ Rel N o' c' ev L' s' t' ∧ (∀ q, gI s' 3 q 0 = gI s 3 q 0) ∧ (b = 0 ∨ (b = 1 ∧ Kp p s s')) ∧ o' ≤ o + 168 ∧ c' ≤ c + 1 := by
  have hN := h.1.1
  have hsp10 := hV.2.1
  have hcap : gI s 15 r 0 = gI t 15 0 r := (h.2.2.2.2.2.2.2.2.2.2.2.2.1 r hr).1
  have hstr : gI s 17 r 0 = gI t 16 0 r := (h.2.2.2.2.2.2.2.2.2.2.2.2.1 r hr).2.1
  have hsz : gI s 16 r 0 = sS t r N := h.2.2.2.2.2.2.2.2.2.2.2.1 r hr
  have hrest := M_rest (t := t) hr hN h.1.2.2.1
  rw [← hcap, ← hsz] at hrest
  have kf := K_first s hsp.2.2 (by omega)
  have ks := K_second s hsp.2.2 (by omega)
  have kc := K_count h hr (gI s 4 p 0)
  obtain ⟨s9, L9, q1, q2, q3, q4⟩ := r_queue h hp h1 hli hc hV hsp hr hop ha
  have mq := M_queue (t := t) (p := p) (by omega)
  generalize hv : gI s 13 p (sp - 1) = v at *
  rw [ha] at kf
  have ep : gI t 1 0 p = gI s 4 p 0 := (h.2.1 p (by omega)).2.2.1.symm
  have hu : gI s 14 p r = gI t 14 0 (4 * p + r) := h.2.2.2.2.1 p (by omega) r hr
  have hlen := (L_len h (r := r) (by omega)).2.1
  have hcb := cb_le s (gI s 4 p 0) (L r)
  by_cases hfore : cb s (gI s 4 p 0) (L r) = 0
  · -- nobody before
    have hM : F_M_seize t (nI p) (nI r) v = (if gI s 15 r 0 - gI s 16 r 0 < v then (if gI s 17 r 0 = 0 then some (0, mQueue t p) else bd (F_M_reach t (nI p) (nI r)) (fun r11 => if r11 < v then some (0, mQueue t p) else bd (F_M_preempt t (nI p) (nI r) v) (fun r19 => some (1, r19)))) else some (1, sI t 14 0 (4 * p + r) (gI s 14 p r + v))) := by
      unfold F_M_seize
      rw [M_head h hr]
      cases hl : L r with
      | nil =>
        simp only [hd1, sb_some]
        rw [if_pos (by decide), hrest, sb_some]
        simp (disch := omega) only [mul_4, nI_add, inb_nI, sg_true, nI_clamp, sl_x, ← hu, ← hstr, mq_eq]
      | cons q l =>
        have hq : ¬ gI s 4 q 0 ≤ gI s 4 p 0 := cb_hd.mp hfore q l hl
        have hqN := (mem_q h (r := r) (p := q) (by omega) (by rw [hl]; exact List.mem_cons_self ..)).1
        have eq : gI t 1 0 q = gI s 4 q 0 := (h.2.1 q (by omega)).2.2.1.symm
        simp (disch := omega) only [hd1, sb_some, nI_lt0, if_false, inb_nI, sg_true, nI_clamp, ep, eq, if_neg hq, hrest, mul_4, nI_add, sl_x, ← hu, ← hstr, mq_eq]
    rw [hM]
    have hz : ¬ (0 : Int32) < nI (cb s (gI s 4 p 0) (L r)) := by rw [hfore, nI_0]; decide
    by_cases hb : v ≤ gI s 15 r 0 - gI s 16 r 0
    · have hb' : ¬ gI s 15 r 0 - gI s 16 r 0 < v := by grind
      refine ⟨1, _, _, o, c, L, ?_, by rw [if_neg hb'], rel_units (w := gI s 14 p r + v) (z := gI s 16 r 0 + v) h hp hr (by grind), fun q => rfl, Or.inr ⟨rfl, rfl, rfl, rfl, rfl⟩, by omega, by omega⟩
      unfold kSeize F_K_seizeFree
      rw [kf, sb_some, ks, sb_some, kc, sb_some, if_neg hz]
      simp (disch := omega) only [inb_nI, sg_true, nI_clamp, sl_x, K_unseized, sb_some, if_pos hb, K_give _ _ hr]
      rw [if_neg (show ¬ (1 : Int32) = 0 by decide)]
    · have hb' : gI s 15 r 0 - gI s 16 r 0 < v := by grind
      rw [if_pos hb']
      have k1 : F_K_seizeFree s p = some (0, s) := by
        unfold F_K_seizeFree
        rw [kf, sb_some, ks, sb_some, kc, sb_some, if_neg hz]
        simp (disch := omega) only [inb_nI, sg_true, nI_clamp, sl_x, K_unseized, sb_some, if_neg hb]
      by_cases hs : gI s 17 r 0 = 0
      · refine ⟨0, s9, _, o, c + 1, L9, ?_, by rw [if_pos hs], q2, q3.1, Or.inl rfl, by omega, by omega⟩
        have k2 : F_K_seizeByForce s p = some (0, s) := by
          unfold F_K_seizeByForce
          rw [kf, sb_some, ks, sb_some, kc, sb_some, if_neg hz]
          simp (disch := omega) only [inb_nI, sg_true, nI_clamp, sl_x, if_pos hs]
        unfold kSeize
        rw [k1, sb_some, if_pos rfl, k2, sb_some, if_pos rfl, q1, sb_some, if_pos rfl]
      · rw [if_neg hs]
        obtain ⟨w, w1, w2⟩ := r_reach h hp hr
        rw [w2, sb_some]
        by_cases hw : v ≤ w
        · have hw' : ¬ w < v := by grind
          obtain ⟨s3, t3, o3, L3, z1, z2, z3, z4, z5, z6⟩ := r_force h hp hr v (by omega)
          refine ⟨1, s3, t3, o3, c, L3, ?_, by rw [if_neg hw', z2, sb_some], z3, z5, Or.inr ⟨rfl, z4 p h1⟩, by omega, by omega⟩
          obtain ⟨a1, b1, z1⟩ := bd_some z1
          obtain ⟨a2, b2, z1⟩ := bd_some z1
          obtain ⟨a3, b3, z1⟩ := bd_some z1
          have k2 : F_K_seizeByForce s p = some (1, s3) := by
            unfold F_K_seizeByForce
            rw [kf, sb_some, ks, sb_some, kc, sb_some, if_neg hz]
            simp (disch := omega) only [inb_nI, sg_true, nI_clamp, sl_x, if_neg hs, w1, sb_some, if_pos hw, b1, b2, b3, z1]
          unfold kSeize
          rw [k1, sb_some, if_pos rfl, k2, sb_some, if_neg (show ¬ (1 : Int32) = 0 by decide)]
        · have hw' : w < v := by grind
          refine ⟨0, s9, _, o, c + 1, L9, ?_, by rw [if_pos hw'], q2, q3.1, Or.inl rfl, by omega, by omega⟩
          have k2 : F_K_seizeByForce s p = some (0, s) := by
            unfold F_K_seizeByForce
            rw [kf, sb_some, ks, sb_some, kc, sb_some, if_neg hz]
            simp (disch := omega) only [inb_nI, sg_true, nI_clamp, sl_x, if_neg hs, w1, sb_some, if_neg hw]
          unfold kSeize
          rw [k1, sb_some, if_pos rfl, k2, sb_some, if_pos rfl, q1, sb_some, if_pos rfl]
  · have hz : (0 : Int32) < nI (cb s (gI s 4 p 0) (L r)) := by rw [nI_0lt (by omega)]; omega
    have k1 : F_K_seizeFree s p = some (0, s) := by
      unfold F_K_seizeFree
      rw [kf, sb_some, ks, sb_some, kc, sb_some, if_pos hz]
    have k2 : F_K_seizeByForce s p = some (0, s) := by
      unfold F_K_seizeByForce
      rw [kf, sb_some, ks, sb_some, kc, sb_some, if_pos hz]
    refine ⟨0, s9, _, o, c + 1, L9, ?_, ?_, q2, q3.1, Or.inl rfl, by omega, by omega⟩
    · unfold kSeize
      rw [k1, sb_some, if_pos rfl, k2, sb_some, if_pos rfl, q1, sb_some, if_pos rfl]
    · have : ∃ q l, L r = q :: l ∧ gI s 4 q 0 ≤ gI s 4 p 0 := by
        cases hl : L r with
        | nil => rw [hl] at hfore; exact absurd rfl hfore
        | cons q l =>
          refine ⟨q, l, rfl, ?_⟩
          refine Decidable.byContradiction fun z => hfore (cb_hd.mpr ?_)
          intro q' l' e
          rw [hl] at e
          cases e
          exact z
      obtain ⟨q, l, hl, hq⟩ := this
      have hqN := (mem_q h (r := r) (p := q) (by omega) (by rw [hl]; exact List.mem_cons_self ..)).1
      have eq : gI t 1 0 q = gI s 4 q 0 := (h.2.1 q (by omega)).2.2.1.symm
      unfold F_M_seize
      rw [M_head h hr, hl]
      simp (disch := omega) only [hd1, sb_some, nI_lt0, if_false, inb_nI, sg_true, nI_clamp, ep, eq, if_pos hq, sl_x, mq_eq]
