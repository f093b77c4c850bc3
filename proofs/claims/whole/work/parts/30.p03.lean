/-! The first of a line, as the reference finds it. -/
def Bst (Q : Nat → Prop) (R : Nat → Nat → Prop) (k : Nat) (b : Int32) : Prop := (b = -1 ∧ ∀ q, q < k → ¬ Q q) ∨ ∃ p, p < k ∧ b = nI p ∧ Q p ∧ ∀ q, q < k → Q q → q = p ∨ R p q
theorem Bst.skip {Q : Nat → Prop} {R : Nat → Nat → Prop} {k : Nat} {b : Int32} (h : Bst Q R k b) (hk : ¬ Q k) : Bst Q R (k + 1) b := by
  rcases h with ⟨h1, h2⟩ | ⟨p, h1, h2, h3, h4⟩
  · refine Or.inl ⟨h1, fun q hq => ?_⟩
    rcases Nat.lt_succ_iff_lt_or_eq.mp hq with h | rfl
    · exact h2 q h
    · exact hk
  · refine Or.inr ⟨p, by omega, h2, h3, fun q hq hQ => ?_⟩
    rcases Nat.lt_succ_iff_lt_or_eq.mp hq with h | rfl
    · exact h4 q h hQ
    · exact absurd hQ hk
theorem Bst.new {Q : Nat → Prop} {R : Nat → Nat → Prop} {k : Nat} (h : Bst Q R k (-1)) (h12 : k < 2 ^ 31) (hk : Q k) : Bst Q R (k + 1) (nI k) := by
  rcases h with ⟨_, h2⟩ | ⟨p, h1, h2, _⟩
  · refine Or.inr ⟨k, by omega, rfl, hk, fun q hq hQ => ?_⟩
    rcases Nat.lt_succ_iff_lt_or_eq.mp hq with h | rfl
    · exact absurd hQ (h2 q h)
    · exact Or.inl rfl
  · have := nI_eqm1 (n := p) (by omega)
    rw [← h2] at this
    simp at this
theorem Bst.keep {Q : Nat → Prop} {R : Nat → Nat → Prop} {k p : Nat} (h : Bst Q R k (nI p)) (h12 : k < 2 ^ 31) (hp : p < k) (hk : R p k) : Bst Q R (k + 1) (nI p) := by
  rcases h with ⟨h1, _⟩ | ⟨p', h1, h2, h3, h4⟩
  · rw [nI_eqm1 (by omega)] at h1
    exact h1.elim
  · rw [nI_eq (by omega) (by omega)] at h2
    subst h2
    refine Or.inr ⟨p, by omega, rfl, h3, fun q hq hQ => ?_⟩
    rcases Nat.lt_succ_iff_lt_or_eq.mp hq with h | rfl
    · exact h4 q h hQ
    · exact Or.inr hk
theorem Bst.take {Q : Nat → Prop} {R : Nat → Nat → Prop} {k p : Nat} (h : Bst Q R k (nI p)) (h12 : k < 2 ^ 31) (hp : p < k) (hk : R k p) (hQ : Q k) (tr : ∀ a b c, R a b → R b c → R a c) : Bst Q R (k + 1) (nI k) := by
  rcases h with ⟨h1, _⟩ | ⟨p', h1, h2, h3, h4⟩
  · rw [nI_eqm1 (by omega)] at h1
    exact h1.elim
  · rw [nI_eq (by omega) (by omega)] at h2
    subst h2
    refine Or.inr ⟨k, by omega, rfl, hQ, fun q hq hQ => ?_⟩
    rcases Nat.lt_succ_iff_lt_or_eq.mp hq with h | rfl
    · rcases h4 q h hQ with rfl | h
      · exact Or.inr hk
      · exact Or.inr (tr _ _ _ hk h)
    · exact Or.inl rfl
theorem Bst.hd {Q : Nat → Prop} {R : Nat → Nat → Prop} {N : Nat} {b : Int32} {l : List Nat} (h : Bst Q R N b) (hm : ∀ p, p ∈ l ↔ p < N ∧ Q p) (hp : l.Pairwise R) (as : ∀ a b, R a b → R b a → False) : b = hd1 l := by
  rcases h with ⟨h1, h2⟩ | ⟨p, h1, h2, h3, h4⟩
  · cases l with
    | nil => exact h1
    | cons q l =>
      have := (hm q).mp (List.mem_cons_self ..)
      exact absurd this.2 (h2 q this.1)
  · cases l with
    | nil => exact absurd ((hm p).mpr ⟨h1, h3⟩) (by simp)
    | cons q l =>
      have hq := (hm q).mp (List.mem_cons_self ..)
      rcases h4 q hq.1 hq.2 with rfl | h5
      · exact h2
      · have hpl := (hm p).mpr ⟨h1, h3⟩
        rcases List.mem_cons.mp hpl with rfl | h6
        · exact h2
        · exact (as _ _ h5 ((List.pairwise_cons.mp hp).1 p h6)).elim
theorem pw_or {R : Nat → Nat → Prop} {l : List Nat} (h : l.Pairwise R) {a b : Nat} (ha : a ∈ l) (hb : b ∈ l) : a = b ∨ R a b ∨ R b a := by
  induction l with
  | nil => simp at ha
  | cons x l ih =>
    have ⟨h1, h2⟩ := List.pairwise_cons.mp h
    rcases List.mem_cons.mp ha with rfl | ha'
    · rcases List.mem_cons.mp hb with rfl | hb'
      · exact Or.inl rfl
      · exact Or.inr (Or.inl (h1 b hb'))
    · rcases List.mem_cons.mp hb with rfl | hb'
      · exact Or.inr (Or.inr (h1 a ha'))
      · exact ih h2 ha' hb'
theorem bf_tr (s t : kS) (a b c : Nat) (h : bf s t a b) (k : bf s t b c) : bf s t a c := by
  unfold bf at *
  grind
theorem bf_as (s t : kS) (a b : Nat) (h : bf s t a b) (k : bf s t b a) : False := by
  unfold bf at *
  grind
theorem q_read {N o c ev : Nat} {L : Nat → List Nat} {s t : kS} (h : Rel N o c ev L s t) {p : Nat} (hp : p < 12) (hq : gI s 7 p 0 = 4 ∨ gI s 7 p 0 = 5) : ∃ sp, 1 ≤ sp ∧ sp ≤ 10 ∧ gI s 8 p 0 = nI sp ∧ gI t 5 0 p = nI sp ∧ gI s 9 p 0 = nI (sp - 1) ∧ vI (gI s 11 p (sp - 1)) (gI s 12 p (sp - 1)) ∧ (gI s 7 p 0 = 4 → gI s 11 p (sp - 1) = 2) ∧ (gI s 7 p 0 = 5 → 4 ≤ gI s 11 p (sp - 1) ∧ gI s 11 p (sp - 1) ≤ 6) ∧ gI t 11 0 (10 * p + (sp - 1)) = gI s 11 p (sp - 1) ∧ gI t 12 0 (10 * p + (sp - 1)) = gI s 12 p (sp - 1) ∧ gI t 13 0 (10 * p + (sp - 1)) = gI s 13 p (sp - 1) := by
  obtain ⟨hG, hQ, hO, hW, hU, hV, -⟩ := h
  obtain ⟨ln, sp, h1, h2, h3, h4, h5, h6, h7, h8⟩ := hV p hp
  have hx : 1 ≤ sp ∧ sp ≤ ln ∧ gI s 9 p 0 = nI (sp - 1) := by
    rcases hq with h | h
    · exact ⟨(h7 h).1, (h7 h).2.1, (h7 h).2.2.1⟩
    · exact ⟨(h8 h).1, (h8 h).2.1, (h8 h).2.2.1⟩
  have ho := hO p hp (sp - 1) (by omega)
  exact ⟨sp, hx.1, h2, h4, (hW p hp).2.1 ▸ h4, hx.2.2, h6 _ (by omega), fun h => (h7 h).2.2.2, fun h => (h8 h).2.2.2, ho.1.symm, ho.2.1.symm, ho.2.2.symm⟩
theorem M_head_loop {N o c ev : Nat} {L : Nat → List Nat} {s t : kS} (h : Rel N o c ev L s t) {r : Nat} (hr : r < 4) : ∀ (d n k : Nat) (b : Int32), d < n → k + d = N → Bst (qd s r) (bf s t) k b → ∃ b', F_M_head_4 n t (nI r) b (nI k) = some (b', nI N) ∧ Bst (qd s r) (bf s t) N b' := by
  have h0 := h
  obtain ⟨⟨hN, -, hc, -⟩, hQ, hO, hW, hU, hV, -, -, -, -, hL, -⟩ := h
  intro d
  induction d with
  | zero =>
    intro n k b hn hk hB
    obtain ⟨n, rfl⟩ : ∃ k, n = k + 1 := ⟨n - 1, by omega⟩
    have : k = N := by omega
    subst this
    refine ⟨b, ?_, hB⟩
    unfold F_M_head_4
    rw [hc, if_pos (by rw [nI_leI] <;> omega)]
  | succ d ih =>
    intro n k b hn hk hB
    obtain ⟨n, rfl⟩ : ∃ k, n = k + 1 := ⟨n - 1, by omega⟩
    have hk12 : k < 12 := by omega
    have e6 : gI t 6 0 k = gI s 7 k 0 := (hW k hk12).1.symm
    unfold F_M_head_4
    rw [hc, if_neg (by rw [nI_leI] <;> omega)]
    simp (disch := omega) only [inb_nI, sg_true, nI_clamp, nI_1, e6]
    by_cases h4 : gI s 7 k 0 = 4
    · obtain ⟨sp, s1, s2, s3, s4, s5, -, -, -, -, s6, -⟩ := q_read h0 hk12 (Or.inl h4)
      rw [if_pos h4]
      simp (disch := omega) only [M_done hk12 s4 s1, sb_some, inb_nI, sg_true, nI_clamp, s6]
      by_cases ha : gI s 12 k (sp - 1) = nI r
      · have hq : qd s r k := ⟨h4, by rw [s5, nI_clamp (by omega)]; exact ha⟩
        rw [if_pos ha]
        rcases id hB with ⟨rfl, hn1⟩ | ⟨p, hp, rfl, hQp, -⟩
        · rw [if_pos (by decide)]
          exact ih n (k + 1) (nI k) (by omega) (by omega) (hB.new (by omega) hq)
        · have ep : gI t 1 0 p = gI s 4 p 0 := (hQ p (by omega)).2.2.1.symm
          have ek : gI t 1 0 k = gI s 4 k 0 := (hQ k hk12).2.2.1.symm
          have tot : bf s t p k ∨ bf s t k p := by
            rcases pw_or (hL.2.2.2.1 r hr) ((hL.2.1 r hr p).mpr ⟨by omega, hQp⟩) ((hL.2.1 r hr k).mpr ⟨by omega, hq⟩) with h | h
            · omega
            · exact h
          have hT := fun hx => ih n (k + 1) (nI k) (by omega) (by omega) (hB.take (by omega) hp hx hq (bf_tr s t))
          have hK := fun hx => ih n (k + 1) (nI p) (by omega) (by omega) (hB.keep (by omega) hp hx)
          simp (disch := omega) only [nI_lt0, if_false, inb_nI, sg_true, nI_clamp, ep, ek]
          by_cases c1 : gI s 4 k 0 < gI s 4 p 0
          · rw [if_pos c1]
            exact hT (Or.inl c1)
          · rw [if_neg c1]
            by_cases c2 : gI s 4 k 0 = gI s 4 p 0
            · rw [if_pos c2]
              by_cases c3 : gI t 9 0 p ≤ gI t 9 0 k
              · rw [if_pos c3]
                refine hK (tot.resolve_right fun hx => ?_)
                unfold bf at hx
                grind
              · rw [if_neg c3]
                exact hT (Or.inr ⟨c2, by grind⟩)
            · rw [if_neg c2]
              refine hK (tot.resolve_right fun hx => ?_)
              unfold bf at hx
              grind
      · rw [if_neg ha]
        refine ih n (k + 1) b (by omega) (by omega) (hB.skip fun hx => ha ?_)
        have := hx.2
        rwa [s5, nI_clamp (by omega)] at this
    · rw [if_neg h4]
      exact ih n (k + 1) b (by omega) (by omega) (hB.skip fun hx => h4 hx.1)
theorem M_head {N o c ev : Nat} {L : Nat → List Nat} {s t : kS} (h : Rel N o c ev L s t) {r : Nat} (hr : r < 4) : F_M_head t (nI r) = some (hd1 (L r)) := by
  obtain ⟨b, h1, h2⟩ := M_head_loop h hr N 1000 0 (-1) (by have := h.1.1; omega) (by omega) (Or.inl ⟨rfl, fun q hq => by omega⟩)
  have hL := h.2.2.2.2.2.2.2.2.2.2.1
  have := h2.hd (hL.2.1 r hr) (hL.2.2.2.1 r hr) (bf_as s t)
  rw [nI_0] at h1
  unfold F_M_head
  rw [h1, this]
  rfl
