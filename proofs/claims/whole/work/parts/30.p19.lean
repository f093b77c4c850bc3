/-! The line of conditions is gone over, in both. -/
theorem best_loop {N o c ev : Nat} {L : Nat → List Nat} {s t : kS} (h : Rel N o c ev L s t) {x1 x2 : Int32} : ∀ (d n k : Nat) (b : Int32), d < n → k + d = N → Bst (fun p => gI s 7 p 0 = 5 ∧ ¬ gI t 9 0 p ≤ x1) (fun a b => gI t 9 0 a < gI t 9 0 b) k b → ∃ b', F_M_goOver_15 n t x1 x2 b (nI k) = some (b', nI N) ∧ Bst (fun p => gI s 7 p 0 = 5 ∧ ¬ gI t 9 0 p ≤ x1) (fun a b => gI t 9 0 a < gI t 9 0 b) N b' := by
  have hN := h.1.1
  have g2 := h.1.2.2.1
  have hL := h.2.2.2.2.2.2.2.2.2.2.1
  intro d
  induction d with
  | zero =>
    intro n k b hn hk hB
    obtain ⟨n, rfl⟩ : ∃ k, n = k + 1 := ⟨n - 1, by omega⟩
    have : k = N := by omega
    subst this
    refine ⟨b, ?_, hB⟩
    unfold F_M_goOver_15
    rw [g2, if_pos (by rw [nI_leI] <;> omega)]
  | succ d ih =>
    intro n k b hn hk hB
    obtain ⟨n, rfl⟩ : ∃ k, n = k + 1 := ⟨n - 1, by omega⟩
    have hle : ¬ nI N ≤ nI k := by rw [nI_leI] <;> omega
    have e6 : gI t 6 0 k = gI s 7 k 0 := (h.2.2.2.1 k (by omega)).1.symm
    unfold F_M_goOver_15
    rw [g2, if_neg hle]
    simp (disch := omega) only [inb_nI, sg_true, nI_clamp, nI_1, e6]
    by_cases e : gI s 7 k 0 = 5
    · rw [if_pos e]
      by_cases e2 : gI t 9 0 k ≤ x1
      · rw [if_pos e2]
        exact ih n (k + 1) b (by omega) (by omega) (hB.skip fun z => z.2 e2)
      · rw [if_neg e2]
        rcases id hB with ⟨rfl, hn1⟩ | ⟨q, hq', rfl, hQp, -⟩
        · rw [if_pos (by decide)]
          exact ih n (k + 1) (nI k) (by omega) (by omega) (hB.new (by omega) ⟨e, e2⟩)
        · simp (disch := omega) only [nI_lt0, if_false, inb_nI, sg_true, nI_clamp]
          have tot := pw_or hL.2.2.2.2.1 ((hL.2.2.1 q).mpr ⟨by omega, hQp.1⟩) ((hL.2.2.1 k).mpr ⟨by omega, e⟩)
          by_cases e3 : gI t 9 0 q ≤ gI t 9 0 k
          · rw [if_pos e3]
            refine ih n (k + 1) (nI q) (by omega) (by omega) (hB.keep (by omega) hq' ?_)
            rcases tot with z | z | z
            · omega
            · exact z
            · grind
          · rw [if_neg e3]
            refine ih n (k + 1) (nI k) (by omega) (by omega) (hB.take (by omega) hq' (by grind) ⟨e, e2⟩ (fun a b c h1 h2 => by grind))
    · rw [if_neg e]
      exact ih n (k + 1) b (by omega) (by omega) (hB.skip fun z => e z.1)
theorem over_loop {N c ev : Nat} : ∀ (l kept : List Nat) (n n' k o : Nat) (L : Nat → List Nat) (s t : kS) (last : Int32), Rel N o c ev L s t → L 4 = kept ++ l → (∀ q ∈ kept, gI t 9 0 q ≤ last) → (∀ q ∈ l, ¬ gI t 9 0 q ≤ last) → l.length < n → k + l.length ≤ 12 → 12 - k < n' → o + l.length < 2 ^ 31 → ∃ (s' t' : kS) (a b y y' : Int32) (tag o' : Nat) (L' : Nat → List Nat), F_K_goOverConditions_10 n s (nI kept.length) (nI l.length) = some (s', a, b) ∧ F_M_goOver_4 n' t last (nI k) = some (tag, t', y, y') ∧ Rel N o' c ev L' s' t' ∧ o' ≤ o + l.length := by
  intro l
  induction l with
  | nil =>
    intro kept n n' k o L s t last h hl hk1 hk2 hn hk hn' ho
    obtain ⟨n, rfl⟩ : ∃ k, n = k + 1 := ⟨n - 1, by simp at hn; omega⟩
    obtain ⟨n', rfl⟩ : ∃ k, n' = k + 1 := ⟨n' - 1, by omega⟩
    have hN := h.1.1
    have hL := h.2.2.2.2.2.2.2.2.2.2.1
    have e1 : F_K_goOverConditions_10 (n + 1) s (nI kept.length) (nI ([] : List Nat).length) = some (s, nI kept.length, nI 0) := by
      unfold F_K_goOverConditions_10
      rw [List.length_nil, nI_0, if_pos (by decide)]
    simp only [List.length_nil] at hk
    by_cases hk12 : k = 12
    · subst hk12
      refine ⟨s, t, _, _, last, nI 12, 1, o, L, e1, ?_, h, by omega⟩
      unfold F_M_goOver_4
      rw [if_pos (by rw [le_12] <;> omega)]
    · refine ⟨s, t, _, _, last, nI k, 0, o, L, e1, ?_, h, by omega⟩
      obtain ⟨b, b1, b2⟩ := best_loop h (x1 := last) (x2 := nI k) N 1000 0 (-1) (by omega) (by omega) (Or.inl ⟨rfl, fun q hq => by omega⟩)
      have hb := b2.hd (l := []) (fun p => by
        simp only [List.not_mem_nil, false_iff]
        rintro ⟨z1, z2, z3⟩
        have := (hL.2.2.1 p).mpr ⟨z1, z2⟩
        rw [hl, List.append_nil] at this
        exact z3 (hk1 p this)) List.Pairwise.nil (fun a b h1 h2 => by grind)
      rw [nI_0] at b1
      unfold F_M_goOver_4
      rw [if_neg (by rw [le_12] <;> omega), b1, sb_some, hb]
      rw [if_neg (show ¬ (0 : Int32) ≤ hd1 [] by decide)]
  | cons p l ih =>
    intro kept n n' k o L s t last h hl hk1 hk2 hn hk hn' ho
    obtain ⟨n, rfl⟩ : ∃ k, n = k + 1 := ⟨n - 1, by omega⟩
    obtain ⟨n', rfl⟩ : ∃ k, n' = k + 1 := ⟨n' - 1, by omega⟩
    simp only [List.length_cons] at hk hn ho
    have hN := h.1.1
    have hL := h.2.2.2.2.2.2.2.2.2.2.1
    have hpm : p ∈ L 4 := by rw [hl]; simp
    obtain ⟨hpN, -, h5⟩ := mem_q h (r := 4) (by omega) hpm
    have h5 := h5 rfl
    obtain ⟨nd, len, lt⟩ := L_len h (r := 4) (by omega)
    have hlen : kept.length + (l.length + 1) ≤ 12 := by
      rw [hl] at len
      simp at len
      omega
    obtain ⟨d, d1, d2, d3, d4, d5, d6, d7, d8, d9, d10, d11⟩ := q_read h (p := p) (by omega) (Or.inr h5)
    have hm : gI s 18 4 kept.length = nI p := (hL.1 4 (by omega)).2 _ p (by rw [hl]; simp)
    have hno : gI s 2 p 0 = nI p := (h.2.1 p (by omega)).1
    have hpw := hL.2.2.2.2.1
    rw [hl] at hpw
    obtain ⟨w1, w2, w3⟩ := List.pairwise_append.mp hpw
    obtain ⟨w4, w5⟩ := List.pairwise_cons.mp w2
    obtain ⟨b, b1, b2⟩ := best_loop h (x1 := last) (x2 := nI k) N 1000 0 (-1) (by omega) (by omega) (Or.inl ⟨rfl, fun q hq => by omega⟩)
    have hb := b2.hd (l := p :: l) (fun q => by
      constructor
      · intro z
        have := (hL.2.2.1 q).mp (by rw [hl]; exact List.mem_append_right _ z)
        exact ⟨this.1, this.2, hk2 q z⟩
      · rintro ⟨z1, z2, z3⟩
        have := (hL.2.2.1 q).mpr ⟨z1, z2⟩
        rw [hl] at this
        rcases List.mem_append.mp this with z | z
        · exact absurd (hk1 q z) z3
        · exact z) w2 (fun a b h1 h2 => by grind)
    rw [nI_0] at b1
    obtain ⟨v, s1, z1, z2, z3⟩ := r_meet h hpN (d := d - 1) (by omega) d5 d6 (d8 h5)
    unfold F_K_goOverConditions_10 F_M_goOver_4
    rw [if_neg (by rw [nI_le0 (by simp; omega)]; simp), if_neg (by rw [le_12] <;> omega), b1, sb_some, hb]
    have md : F_M_done t (nI p) = some (nI (10 * p + (d - 1))) := M_done (by omega) d4 d1
    have i0 : (0 : Int32) ≤ nI p := by
      have := nI_lt0 (n := p) (by omega)
      grind
    have e2 : nI (p :: l).length + (-1) = nI l.length := by
      rw [nI_addm1 (by simp)]; rfl
    simp (disch := omega) only [hd1, if_pos i0, inb_nI, sg_true, nI_clamp, hm, sl_x, z1, sb_some, md, z2, nI_1, e2]
    rcases z3 with ⟨rfl, rfl⟩ | ⟨rfl, t1, y1, y2, y3, y4, y5, y6⟩
    · simp only [if_true]
      have := ih (kept ++ [p]) n n' (k + 1) o L s1 t (gI t 9 0 p) h (by rw [hl]; simp) (fun q hq => by
        rcases List.mem_append.mp hq with z | z
        · have := w3 q z p (List.mem_cons_self ..)
          grind
        · rw [List.mem_singleton.mp z]
          grind) (fun q hq => by
        have := w4 q hq
        grind) (by omega) (by omega) (by omega) (by omega)
      obtain ⟨s', t', a, b, y, y', tag, o', L', q1, q2, q3, q4⟩ := this
      refine ⟨s', t', a, b, y, y', tag, o', L', ?_, q2, q3, by simp only [List.length_cons]; omega⟩
      simpa using q1
    · simp only [if_neg n10]
      obtain ⟨f, v, k1, k2⟩ := line_drop (r := 4) (p := p) y2 (by omega) hpm
      have kp := y4 p
      have hrd := y2.2.2.2.2.2.2.2.2.1 p hpN
      have hW := y2.2.2.2.1 p (by omega)
      have h3 := rel_enter (st := 1) (d := 0) (w := gL t1 0 0 0) y2 hpN (Af_line _ p 4 f v) (Bf.rf p _) rfl rfl k2 ⟨hW.2.1, d, d2, by show gI s1 8 p 0 = nI d; rw [kp.2.1, d3]⟩ ⟨hrd.1, hrd.2 (by rw [kp.1, h5]; decide)⟩ (Or.inl rfl) (by omega) (by rw [i64_z]; exact y2.1.2.2.2.1)
      have hno1 : gI s1 2 p 0 = nI p := (y2.2.1 p (by omega)).1
      have pk : p ∉ kept ∧ p ∉ l := by
        rw [hl] at nd
        have n1 := List.nodup_append.mp nd
        refine ⟨fun z => n1.2.2 p z p (List.mem_cons_self ..) rfl, (List.nodup_cons.mp n1.2.1).1⟩
      have hl' : Lo p L 4 = kept ++ l := by
        show (L 4).filter (fun q => q ≠ p) = kept ++ l
        rw [hl, List.filter_append, List.filter_cons]
        simp only [ne_eq, not_true, decide_false, Bool.false_eq_true, if_false]
        congr 1
        · rw [List.filter_eq_self]
          intro q hq
          simp only [decide_not, Bool.not_eq_eq_eq_not, Bool.not_true, decide_eq_false_iff_not]
          exact fun e => pk.1 (e ▸ hq)
        · rw [List.filter_eq_self]
          intro q hq
          simp only [decide_not, Bool.not_eq_eq_eq_not, Bool.not_true, decide_eq_false_iff_not]
          exact fun e => pk.2 (e ▸ hq)
      have c9 : ∀ q, gI (mEnter t1 p 1 (gL t1 0 0 0)) 9 0 q = gI t 9 0 q := fun q => y6 q
      have := ih kept n n' (k + 1) (o + 1) (Lo p L) _ _ (gI t 9 0 p) h3.1 hl' (fun q hq => by
        have := w3 q hq p (List.mem_cons_self ..)
        rw [c9]
        grind) (fun q hq => by
        have := w4 q hq
        rw [c9]
        grind) (by omega) (by omega) (by omega) (by omega)
      obtain ⟨s', t', a, b, y, y', tag, o', L', q1, q2, q3, q4⟩ := this
      refine ⟨s', t', a, b, y, y', tag, o', L', ?_, ?_, q3, by simp only [List.length_cons]; omega⟩
      · rw [hno1, k1, sb_some, K_enter, sb_some]
        exact q1
      · rw [y1, sb_some, M_enter _ (by omega), sb_some]
        exact q2
theorem r_over {N o c ev : Nat} {L : Nat → List Nat} {s t : kS} (h : Rel N o c ev L s t) (ho : o + 12 < 2 ^ 31) : ∃ (s' t' : kS) (o' : Nat) (L' : Nat → List Nat), F_K_goOverConditions s = some s' ∧ F_M_goOver t = some t' ∧ Rel N o' c ev L' s' t' ∧ o' ≤ o + 12 := by
  have hN := h.1.1
  have hL := h.2.2.2.2.2.2.2.2.2.2.1
  obtain ⟨nd, len, lt⟩ := L_len h (r := 4) (by omega)
  obtain ⟨s', t', a, b, y, y', tag, o', L', q1, q2, q3, q4⟩ := over_loop (L 4) [] 1000 1000 0 o L s t (-1) h rfl (by simp) (fun q hq => by
    obtain ⟨hqN, -, h5⟩ := mem_q h (r := 4) (by omega) hq
    obtain ⟨k, k1, k2⟩ := hL.2.2.2.2.2 q hqN (Or.inr (h5 rfl))
    have := h.1.2.2.2.2.2.2.2.2
    rw [k2]
    have := nI_lt0 (n := k) (by omega)
    grind) (by omega) (by omega) (by omega) (by omega)
  rw [List.length_nil, nI_0] at q1
  rw [nI_0] at q2
  refine ⟨s', t', o', L', ?_, ?_, q3, by omega⟩
  · unfold F_K_goOverConditions
    rw [(hL.1 4 (by omega)).1, sl_x, q1, sb_some]
  · unfold F_M_goOver
    rw [q2, sb_some]
    split <;> rfl
