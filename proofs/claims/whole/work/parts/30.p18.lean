/-! A turn, in both. -/
theorem le_99 {n : Nat} (h : n < 2 ^ 31) : ((99 : Int32) ≤ nI n) = (99 ≤ n) := by
  rw [show (99 : Int32) = nI 99 from rfl, nI_leI (by omega) h]
theorem le_200 {n : Nat} (h : n < 2 ^ 31) : ((200 : Int32) ≤ nI n) = (200 ≤ n) := by
  rw [show (200 : Int32) = nI 200 from rfl, nI_leI (by omega) h]
theorem RV1_of {s : kS} (h : RV s) {p ln sp : Nat} (hp : p < 12) (h1 : ln ≤ 10) (h2 : sp ≤ 10) (h3 : gI s 3 p 0 = nI ln) (h4 : gI s 8 p 0 = nI sp) : RV1 s p ln sp := by
  obtain ⟨ln', sp', hv⟩ := h p hp
  have a1 := hv.1
  have a2 := hv.2.1
  have e1 := hv.2.2.1
  have e2 := hv.2.2.2.1
  rw [h3, nI_eq (by omega) (by omega)] at e1
  rw [h4, nI_eq (by omega) (by omega)] at e2
  subst e1
  subst e2
  exact hv
theorem turn_loop {N ev p : Nat} (hp : p < N) : ∀ (M n n' k o c rd ln sp : Nat) (L : Nat → List Nat) (s t : kS), Rel N o c ev L s t → RV1 s p ln sp → gI s 7 p 0 = 1 → gI s 10 p 0 = 0 → gI s 5 p 0 = nI rd → 1 ≤ rd → rd ≤ 9 → (rd - 1) * 11 + (ln - sp) + 1 ≤ M → k + M ≤ 99 → M + 1 < n → M < n' → o + 168 * M < 2 ^ 31 → c + M < 2 ^ 31 → ∃ (s' t1 : kS) (a b y : Int32) (tag o' c' : Nat) (L' : Nat → List Nat), F_K_doTurn_4 n s p 1 (nI k) = some (s', a, b) ∧ F_M_turn_2 n' t (nI p) (nI k) = some (tag, t1, y) ∧ ((tag = 0 ∧ Rel N o' c' ev L' s' t1) ∨ (tag = 1 ∧ Rel N o' c' ev L' s' (sI t1 6 0 p 6))) ∧ o' ≤ o + 168 * M ∧ c' ≤ c + M := by
  intro M
  induction M with
  | zero =>
    intro n n' k o c rd ln sp L s t h hV h7 h10 h5 hr1 hr9 hM
    omega
  | succ M ih =>
    intro n n' k o c rd ln sp L s t h hV h7 h10 h5 hr1 hr9 hM hk hn hn' ho hc
    obtain ⟨n, rfl⟩ : ∃ k, n = k + 2 := ⟨n - 2, by omega⟩
    obtain ⟨n', rfl⟩ : ∃ k, n' = k + 1 := ⟨n' - 1, by omega⟩
    have hN := h.1.1
    have i1 : inb (nI p) 12 = true := inb_nI (by omega) (by omega)
    have i2 : (nI p).toNatClampNeg = p := nI_clamp (by omega)
    have hln := hV.1
    have hsp10 := hV.2.1
    have e3 : gI s 3 p 0 = nI ln := hV.2.2.1
    have e8 : gI s 8 p 0 = nI sp := hV.2.2.2.1
    have m4 : gI t 4 0 p = nI ln := by rw [← (h.2.1 p (by omega)).2.1, e3]
    have hW := h.2.2.2.1 p (by omega)
    have m5 : gI t 5 0 p = nI sp := by rw [← hW.2.1, e8]
    have m6 : gI t 6 0 p = 1 := by rw [← hW.1, h7]
    have m2 : gI t 2 0 p = nI rd := by rw [← (h.2.2.2.2.2.2.2.2.1 p hp).1, h5]
    have hno := not_in h (p := p) (by rw [h7]; decide) (by rw [h7]; decide)
    have hL := h.2.2.2.2.2.2.2.2.2.2.1
    have hE := h.2.2.2.2.2.2.1 p hp
    rw [h10] at hE
    have hE2 : gI t 8 0 p = -1 := by
      rcases hE with z | z
      · exact absurd z.1 (by decide)
      · exact z.2
    have k99 : ¬ (99 : Int32) ≤ nI k := by rw [le_99 (by omega)]; omega
    have k200 : ¬ (200 : Int32) ≤ nI k := by rw [le_200 (by omega)]; omega
    have stop : ∀ (s' : kS) (x : Int32), F_K_doTurn_4 (n + 1) s' p 0 x = some (s', 0, x) := by
      intro s' x
      unfold F_K_doTurn_4
      rw [if_pos rfl]
    unfold F_M_turn_2
    rw [F_K_doTurn_4, if_neg n10, if_neg k99, if_neg k200]
    simp only [i1, i2, sg_true, e3, e8, m4, m5, m2]
    by_cases hle : ln ≤ sp
    · have hle' : nI ln ≤ nI sp := by rw [nI_leI] <;> omega
      rw [if_pos hle', if_pos hle']
      unfold F_P_beginRound
      simp only [sl_x, h5, nI_sub1 (show 0 < rd by omega), gI_self]
      by_cases hr : rd = 1
      · subst hr
        have z0 : ¬ (0 : Int32) < nI (1 - 1) := by rw [Nat.sub_self, nI_0]; decide
        rw [if_neg z0, sb_some]
        have z1 : nI (1 - 1) = 0 := nI_0
        rw [if_pos z1, stop]
        have d7 : gI (sI (sI s 5 p 0 (nI (1 - 1))) 7 p 0 6) 7 p 0 = 6 := gI_self ..
        have d6 : gI (sI (sI t 2 0 p (nI (1 - 1))) 6 0 p 6) 6 0 p = 6 := gI_self ..
        have d5 : gI (sI (sI s 5 p 0 (nI (1 - 1))) 7 p 0 6) 5 p 0 = nI (1 - 1) := by
          show gI (sI s 5 p 0 (nI (1 - 1))) 5 p 0 = _
          exact gI_self ..
        have d2 : gI (sI (sI t 2 0 p (nI (1 - 1))) 6 0 p 6) 2 0 p = nI (1 - 1) := by
          show gI (sI t 2 0 p (nI (1 - 1))) 2 0 p = _
          exact gI_self ..
        have h3 := rel_gen (o' := o) (s' := sI (sI s 5 p 0 (nI (1 - 1))) 7 p 0 6) (t' := sI (sI t 2 0 p (nI (1 - 1))) 6 0 p 6) h hp ⟨fun k j i h5 h7 h8 h9 h10 h18 h19 => by simp [gI_sI, h5, h7], fun q hq => by simp [gI_sI, hq], fun k j i h1 h2 h3 => rfl⟩ ⟨fun k j i h2 h5 h6 h8 h31 => by simp [gI_sI, h2, h6], fun q hq => by simp [gI_sI, hq], fun k j i h => rfl⟩ (by
          unfold NF
          rw [d7, d6, d5, d2]
          exact ⟨⟨rfl, e8.trans m5.symm, by decide, by decide⟩, by decide, by decide, ⟨sp, by omega, e8⟩, Or.inr ⟨h10, hE2⟩, rfl, fun z => absurd z (by decide)⟩) ⟨h.1.2.2.2.2.1, h.1.2.2.2.2.2.1, by omega, h.1.2.2.2.2.2.2.2.1⟩ (fun r hr => by rw [Lo_not (hno r hr)]; exact hL.1 r hr)
        exact ⟨_, _, _, _, _, 1, o, c, _, rfl, rfl, Or.inr ⟨rfl, h3.1⟩, by omega, by omega⟩
      · have z0 : (0 : Int32) < nI (rd - 1) := by rw [nI_0lt (by omega)]; omega
        rw [if_pos z0, sb_some]
        have z1 : ¬ nI (rd - 1) = 0 := by rw [nI_eqz (by omega)]; omega
        rw [if_neg z1, nI_1]
        have d8 : gI (sI (sI s 5 p 0 (nI (rd - 1))) 8 p 0 0) 8 p 0 = nI 0 := by rw [gI_self, nI_0]
        have d7 : gI (sI (sI s 5 p 0 (nI (rd - 1))) 8 p 0 0) 7 p 0 = 1 := h7
        have d5 : gI (sI (sI s 5 p 0 (nI (rd - 1))) 8 p 0 0) 5 p 0 = nI (rd - 1) := by
          show gI (sI s 5 p 0 (nI (rd - 1))) 5 p 0 = _
          exact gI_self ..
        have d2 : gI (sI (sI t 2 0 p (nI (rd - 1))) 5 0 p 0) 2 0 p = nI (rd - 1) := by
          show gI (sI t 2 0 p (nI (rd - 1))) 2 0 p = _
          exact gI_self ..
        have d55 : gI (sI (sI t 2 0 p (nI (rd - 1))) 5 0 p 0) 5 0 p = nI 0 := by rw [gI_self, nI_0]
        have h3 := rel_gen (o' := o) (s' := sI (sI s 5 p 0 (nI (rd - 1))) 8 p 0 0) (t' := sI (sI t 2 0 p (nI (rd - 1))) 5 0 p 0) h hp ⟨fun k j i h5 h7 h8 h9 h10 h18 h19 => by simp [gI_sI, h5, h8], fun q hq => by simp [gI_sI, hq], fun k j i h1 h2 h3 => rfl⟩ ⟨fun k j i h2 h5 h6 h8 h31 => by simp [gI_sI, h2, h5], fun q hq => by simp [gI_sI, hq], fun k j i h => rfl⟩ (by
          unfold NF
          rw [d7, d8, d5, d2, d55]
          exact ⟨⟨m6.symm, rfl, by decide, by decide⟩, by decide, by decide, ⟨0, by omega, rfl⟩, Or.inr ⟨h10, hE2⟩, rfl, fun _ => ⟨rd - 1, by omega, by omega, rfl⟩⟩) ⟨h.1.2.2.2.2.1, h.1.2.2.2.2.2.1, by omega, h.1.2.2.2.2.2.2.2.1⟩ (fun r hr => by rw [Lo_not (hno r hr)]; exact hL.1 r hr)
        obtain ⟨s', t1, a, b, y, tag, o', c', L', q1, q2, q3, q4, q5⟩ := ih (n + 1) n' (k + 1) o c (rd - 1) ln 0 _ _ _ h3.1 (RV1_of h3.1.2.2.2.2.2.1 (by omega) hln (by omega) e3 d8) d7 h10 d5 (by omega) (by omega) (by omega) (by omega) (by omega) (by omega) (by omega) (by omega)
        exact ⟨s', t1, a, b, y, tag, o', c', L', q1, q2, q3, by omega, by omega⟩
    · have hle' : ¬ nI ln ≤ nI sp := by rw [nI_leI] <;> omega
      rw [if_neg hle', if_neg hle']
      obtain ⟨b, s', t', o', c', L', z1, z2, z3, z4, z5, z6, z7⟩ := r_perform h hp h7 h10 (by omega) (by omega) hV (by omega)
      have md : F_M_done (sI t 5 0 p (nI (sp + 1))) (nI p) = some (nI (10 * p + sp)) := M_done (sp := sp + 1) (by omega) (gI_self ..) (by omega)
      simp only [sl_x, nI_1]
      rw [z1, sb_some, md, sb_some, z2, sb_some]
      rcases z5 with rfl | ⟨rfl, w1, w2, w3, w4⟩
      · rw [if_pos rfl, stop]
        exact ⟨_, _, _, _, _, 0, o', c', L', rfl, rfl, Or.inl ⟨rfl, z3⟩, by omega, by omega⟩
      · rw [if_neg n10]
        obtain ⟨s'', t1, a, b, y, tag, o'', c'', L'', q1, q2, q3, q4, q5⟩ := ih (n + 1) n' (k + 1) o' c' rd ln (sp + 1) L' s' t' z3 (RV1_of z3.2.2.2.2.2.1 (by omega) hln (by omega) (by rw [z4, e3]) w3) w1 w2 (by rw [w4, h5]) hr1 hr9 (by omega) (by omega) (by omega) (by omega) (by omega) (by omega)
        exact ⟨s'', t1, a, b, y, tag, o'', c'', L'', q1, q2, q3, by omega, by omega⟩
theorem r_turn {N o c ev p : Nat} {L : Nat → List Nat} {s t : kS} (h : Rel N o c ev L s t) (hp : p < N) (h7 : gI s 7 p 0 = 1) (h10 : gI s 10 p 0 = 0) (ho : o + 16632 < 2 ^ 31) (hc : c + 99 < 2 ^ 31) : ∃ (s' t' : kS) (o' c' : Nat) (L' : Nat → List Nat), F_K_doTurn s p = some s' ∧ F_M_turn t (nI p) = some t' ∧ Rel N o' c' ev L' s' t' ∧ o' ≤ o + 16632 ∧ c' ≤ c + 99 := by
  have hN := h.1.1
  obtain ⟨ln, sp, hV⟩ := h.2.2.2.2.2.1 p (by omega)
  obtain ⟨rd, r1, r9, hrd⟩ := (h.2.2.2.2.2.2.2.2.1 p hp).2 (by rw [h7]; decide)
  have := hV.1
  obtain ⟨s', t1, a, b, y, tag, o', c', L', q1, q2, q3, q4, q5⟩ := turn_loop hp 99 1000 1000 0 o c rd ln sp L s t h hV h7 h10 hrd r1 r9 (by omega) (by omega) (by omega) (by omega) (by omega) (by omega)
  rw [nI_0] at q1 q2
  unfold F_K_doTurn F_M_turn
  rw [q1, q2, sb_some, sb_some]
  rcases q3 with ⟨rfl, z⟩ | ⟨rfl, z⟩
  · exact ⟨s', t1, o', c', L', rfl, by rw [if_pos rfl], z, by omega, by omega⟩
  · refine ⟨s', _, o', c', L', rfl, ?_, z, by omega, by omega⟩
    rw [if_neg (show ¬ (1 : Nat) = 0 by decide), if_pos rfl]
    simp (disch := omega) only [inb_nI, sg_true, nI_clamp, sl_x]
