/-! Units go to a process or come back; sums of a resource; its line is served. -/
theorem sS_set {t : kS} {r p : Nat} {w : Int32} (r' : Nat) (hr : r < 4) (hr' : r' < 4) : ∀ n, sS (sI t 14 0 (4 * p + r) w) r' n = if r' = r ∧ p < n then sS t r' n + (w - gI t 14 0 (4 * p + r)) else sS t r' n
  | 0 => by rw [sS, sS, if_neg (by omega)]
  | n + 1 => by
    rw [sS, sS, sS_set r' hr hr' n, gI_sI]
    by_cases h1 : r' = r
    · subst h1
      by_cases h2 : p < n
      · have a1 : ¬ (14 = 14 ∧ 0 = 0 ∧ 4 * n + r' = 4 * p + r') := by omega
        have a2 : r' = r' ∧ p < n := ⟨rfl, h2⟩
        have a3 : r' = r' ∧ p < n + 1 := ⟨rfl, by omega⟩
        rw [if_pos a2, if_neg a1, if_pos a3]
        grind
      · by_cases h3 : p = n
        · subst h3
          have a2 : ¬ (r' = r' ∧ p < p) := by omega
          have a3 : r' = r' ∧ p < p + 1 := ⟨rfl, by omega⟩
          rw [if_neg a2, if_pos ⟨rfl, rfl, rfl⟩, if_pos a3]
          grind
        · have a1 : ¬ (14 = 14 ∧ 0 = 0 ∧ 4 * n + r' = 4 * p + r') := by omega
          have a2 : ¬ (r' = r' ∧ p < n) := by omega
          have a3 : ¬ (r' = r' ∧ p < n + 1) := by omega
          rw [if_neg a2, if_neg a1, if_neg a3]
    · have a1 : ¬ (14 = 14 ∧ 0 = 0 ∧ 4 * n + r' = 4 * p + r) := by omega
      have a2 : ¬ (r' = r ∧ p < n) := by omega
      have a3 : ¬ (r' = r ∧ p < n + 1) := by omega
      rw [if_neg a2, if_neg a1, if_neg a3]
theorem rel_units {N o c ev : Nat} {L : Nat → List Nat} {s t : kS} {p r : Nat} {w z : Int32} (h : Rel N o c ev L s t) (hp : p < N) (hr : r < 4) (hz : z = gI s 16 r 0 + (w - gI s 14 p r)) : Rel N o c ev L (sI (sI s 14 p r w) 16 r 0 z) (sI t 14 0 (4 * p + r) w) := by
  obtain ⟨hG, hQ, hO, hW, hU, hV, hE, hI, hD, hFr, hL, hS, hR, hK, hT⟩ := h
  have hN := hG.1
  refine ⟨hG, hQ, hO, hW, ?_, hV, hE, hI, hD, ?_, hL, ?_, hR, hK, hT⟩
  · intro q hq r' hr'
    have e := hU q hq r' hr'
    simp only [gI_sI]
    by_cases h1 : q = p ∧ r' = r
    · obtain ⟨rfl, rfl⟩ := h1
      simp
    · have h2 : ¬ (4 * q + r' = 4 * p + r) := by omega
      simp [h1, h2, e]
  · intro q hq hq2
    obtain ⟨z1, z2, z3, z4⟩ := hFr q hq hq2
    refine ⟨z1, z2, z3, fun r' hr' => ?_⟩
    have h2 : ¬ (4 * q + r' = 4 * p + r) := by omega
    rw [gI_sI]
    simp only [h2, and_false, if_false]
    exact z4 r' hr'
  · intro r' hr'
    rw [sS_set r' hr hr', gI_sI]
    by_cases h1 : r' = r
    · subst h1
      rw [if_pos ⟨rfl, rfl, rfl⟩, if_pos ⟨rfl, hp⟩, hz, hS r' hr, hU p (by omega) r' hr]
    · have a1 : ¬ (16 = 16 ∧ r' = r ∧ 0 = 0) := fun q => h1 q.2.1
      have a2 : ¬ (r' = r ∧ p < N) := fun q => h1 q.1
      rw [if_neg a1, if_neg a2]
      exact hS r' hr'
theorem rel_lined {N o c ev : Nat} {L : Nat → List Nat} {s t : kS} {r : Nat} {w : Int64} (h : Rel N o c ev L s t) : Rel N o c ev L (sL s 6 r 0 w) (sL t 18 0 r w) := by
  obtain ⟨hG, hQ, hO, hW, hU, hV, hE, hI, hD, hFr, hL, hS, hR, hK, hT⟩ := h
  have e : ∀ r', sS (sL t 18 0 r w) r' N = sS t r' N := fun r' => sS_eq (t' := sL t 18 0 r w) (t := t) (fun i => rfl) N
  refine ⟨hG, hQ, hO, hW, hU, hV, hE, hI, hD, hFr, hL, fun r' hr' => by rw [e]; exact hS r' hr', ?_, hK, hT⟩
  intro r' hr'
  obtain ⟨a1, a2, a3, a4⟩ := hR r' hr'
  refine ⟨a1, a2, a3, ?_⟩
  rw [gL_sL, gL_sL]
  by_cases h1 : r' = r
  · subst h1; simp
  · simp [h1, a4]
theorem Lo_not {p : Nat} {L : Nat → List Nat} {r : Nat} (h : p ∉ L r) : Lo p L r = L r := by
  unfold Lo
  rw [List.filter_eq_self]
  intro q hq
  simp only [ne_eq, decide_not, Bool.not_eq_eq_eq_not, Bool.not_true, decide_eq_false_iff_not]
  exact fun e => h (e ▸ hq)
theorem nd_len : ∀ (N : Nat) (l : List Nat), l.Nodup → (∀ p ∈ l, p < N) → l.length ≤ N
  | 0, l, _, h => by
    cases l with
    | nil => simp
    | cons a l => exact absurd (h a (List.mem_cons_self ..)) (by omega)
  | N + 1, l, hn, h => by
    have h1 := nd_len N (l.erase N) (hn.erase N) (fun p hp => by
      have := (hn.mem_erase_iff).mp hp
      have := h p this.2
      omega)
    have h2 := List.length_erase (a := N) (l := l)
    split at h2 <;> omega
theorem pw_nd {R : Nat → Nat → Prop} (as : ∀ a b, R a b → R b a → False) {l : List Nat} (hp : l.Pairwise R) : l.Nodup := by
  refine List.Pairwise.imp ?_ hp
  intro a b h e
  subst e
  exact as _ _ h h
