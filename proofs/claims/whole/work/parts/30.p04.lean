/-! What changes one process, and takes it out of its line. -/
def Af (p : Nat) (s s' : kS) : Prop := (∀ k j i, k ≠ 5 → k ≠ 7 → k ≠ 8 → k ≠ 9 → k ≠ 10 → k ≠ 18 → k ≠ 19 → gI s' k j i = gI s k j i) ∧ (∀ q, q ≠ p → gI s' 5 q 0 = gI s 5 q 0 ∧ gI s' 7 q 0 = gI s 7 q 0 ∧ gI s' 8 q 0 = gI s 8 q 0 ∧ gI s' 9 q 0 = gI s 9 q 0 ∧ gI s' 10 q 0 = gI s 10 q 0) ∧ (∀ k j i, k ≠ 1 → ¬ (k = 2 ∧ j = p) → ¬ (k = 3 ∧ j = p) → gL s' k j i = gL s k j i)
def Bf (p : Nat) (t t' : kS) : Prop := (∀ k j i, k ≠ 2 → k ≠ 5 → k ≠ 6 → k ≠ 8 → k ≠ 31 → gI t' k j i = gI t k j i) ∧ (∀ q, q ≠ p → gI t' 2 0 q = gI t 2 0 q ∧ gI t' 5 0 q = gI t 5 0 q ∧ gI t' 6 0 q = gI t 6 0 q ∧ gI t' 8 0 q = gI t 8 0 q) ∧ (∀ k j i, ¬ (k = 7 ∧ i = p) → gL t' k j i = gL t k j i)
def NF (p o : Nat) (s t : kS) : Prop := (gI s 7 p 0 = gI t 6 0 p ∧ gI s 8 p 0 = gI t 5 0 p ∧ 0 ≤ gI s 7 p 0 ∧ gI s 7 p 0 ≤ 7) ∧ gI s 7 p 0 ≠ 4 ∧ gI s 7 p 0 ≠ 5 ∧ (∃ sp, sp ≤ 10 ∧ gI s 8 p 0 = nI sp) ∧ ((gI s 10 p 0 = 1 ∧ (gI s 7 p 0 = 1 ∨ gI s 7 p 0 = 2) ∧ ∃ e, e < o ∧ gI t 8 0 p = nI e ∧ gL s 3 p 0 = lN e ∧ gL s 2 p 0 = gL t 7 0 p) ∨ (gI s 10 p 0 = 0 ∧ gI t 8 0 p = -1)) ∧ gI s 5 p 0 = gI t 2 0 p ∧ (gI s 7 p 0 ≤ 5 → ∃ k : Nat, 1 ≤ k ∧ k ≤ 9 ∧ gI s 5 p 0 = nI k)
theorem sS_eq {t t' : kS} {r : Nat} (h : ∀ i, gI t' 14 0 i = gI t 14 0 i) : ∀ n, sS t' r n = sS t r n
  | 0 => rfl
  | n + 1 => by rw [sS, sS, sS_eq h n, h]
def Lo (p : Nat) (L : Nat → List Nat) : Nat → List Nat := fun r => (L r).filter (fun q => q ≠ p)
theorem rel_gen {N o c ev : Nat} {L : Nat → List Nat} {s t s' t' : kS} {p o' : Nat} (h : Rel N o c ev L s t) (hp : p < N) (hA : Af p s s') (hB : Bf p t t') (hF : NF p o' s' t') (ho : gL s' 1 0 0 = lN o' ∧ gI t' 31 0 0 = nI o' ∧ o ≤ o' ∧ o' < 2 ^ 31) (hL' : ∀ r, r < 5 → LI s' r (Lo p L r)) : Rel N o' c ev (Lo p L) s' t' ∧ St s s' t t' ∧ (∀ q, q ≠ p → Kp q s s') := by
  obtain ⟨⟨hN, g1, g2, g3, g4, g5, g6, g7, g8⟩, hQ, hO, hW, hU, hV, hE, hI, hD, hFr, ⟨l1, l2, l3, l4, l5, l6⟩, hS, hR, hK, hT⟩ := h
  obtain ⟨A1, A2, A3⟩ := hA
  obtain ⟨B1, B2, B3⟩ := hB
  obtain ⟨n1, n2, n3, n4, n5, n6, n7⟩ := hF
  have s0 := fun j i => A1 0 j i (by decide) (by decide) (by decide) (by decide) (by decide) (by decide) (by decide)
  have s1 := fun j i => A1 1 j i (by decide) (by decide) (by decide) (by decide) (by decide) (by decide) (by decide)
  have s2 := fun j i => A1 2 j i (by decide) (by decide) (by decide) (by decide) (by decide) (by decide) (by decide)
  have s3 := fun j i => A1 3 j i (by decide) (by decide) (by decide) (by decide) (by decide) (by decide) (by decide)
  have s4 := fun j i => A1 4 j i (by decide) (by decide) (by decide) (by decide) (by decide) (by decide) (by decide)
  have s6 := fun j i => A1 6 j i (by decide) (by decide) (by decide) (by decide) (by decide) (by decide) (by decide)
  have s11 := fun j i => A1 11 j i (by decide) (by decide) (by decide) (by decide) (by decide) (by decide) (by decide)
  have s12 := fun j i => A1 12 j i (by decide) (by decide) (by decide) (by decide) (by decide) (by decide) (by decide)
  have s13 := fun j i => A1 13 j i (by decide) (by decide) (by decide) (by decide) (by decide) (by decide) (by decide)
  have s14 := fun j i => A1 14 j i (by decide) (by decide) (by decide) (by decide) (by decide) (by decide) (by decide)
  have s15 := fun j i => A1 15 j i (by decide) (by decide) (by decide) (by decide) (by decide) (by decide) (by decide)
  have s16 := fun j i => A1 16 j i (by decide) (by decide) (by decide) (by decide) (by decide) (by decide) (by decide)
  have s17 := fun j i => A1 17 j i (by decide) (by decide) (by decide) (by decide) (by decide) (by decide) (by decide)
  have s20 := fun j i => A1 20 j i (by decide) (by decide) (by decide) (by decide) (by decide) (by decide) (by decide)
  have s21 := fun j i => A1 21 j i (by decide) (by decide) (by decide) (by decide) (by decide) (by decide) (by decide)
  have s22 := fun j i => A1 22 j i (by decide) (by decide) (by decide) (by decide) (by decide) (by decide) (by decide)
  have s23 := fun j i => A1 23 j i (by decide) (by decide) (by decide) (by decide) (by decide) (by decide) (by decide)
  have s24 := fun j i => A1 24 j i (by decide) (by decide) (by decide) (by decide) (by decide) (by decide) (by decide)
  have x0 := fun j i => A3 0 j i (by decide) (fun q => by simp at q) (fun q => by simp at q)
  have x4 := fun j i => A3 4 j i (by decide) (fun q => by simp at q) (fun q => by simp at q)
  have x5 := fun j i => A3 5 j i (by decide) (fun q => by simp at q) (fun q => by simp at q)
  have x6 := fun j i => A3 6 j i (by decide) (fun q => by simp at q) (fun q => by simp at q)
  have t1 := fun j i => B1 1 j i (by decide) (by decide) (by decide) (by decide) (by decide)
  have t3 := fun j i => B1 3 j i (by decide) (by decide) (by decide) (by decide) (by decide)
  have t4 := fun j i => B1 4 j i (by decide) (by decide) (by decide) (by decide) (by decide)
  have t9 := fun j i => B1 9 j i (by decide) (by decide) (by decide) (by decide) (by decide)
  have t11 := fun j i => B1 11 j i (by decide) (by decide) (by decide) (by decide) (by decide)
  have t12 := fun j i => B1 12 j i (by decide) (by decide) (by decide) (by decide) (by decide)
  have t13 := fun j i => B1 13 j i (by decide) (by decide) (by decide) (by decide) (by decide)
  have t14 := fun j i => B1 14 j i (by decide) (by decide) (by decide) (by decide) (by decide)
  have t15 := fun j i => B1 15 j i (by decide) (by decide) (by decide) (by decide) (by decide)
  have t16 := fun j i => B1 16 j i (by decide) (by decide) (by decide) (by decide) (by decide)
  have t19 := fun j i => B1 19 j i (by decide) (by decide) (by decide) (by decide) (by decide)
  have t20 := fun j i => B1 20 j i (by decide) (by decide) (by decide) (by decide) (by decide)
  have t21 := fun j i => B1 21 j i (by decide) (by decide) (by decide) (by decide) (by decide)
  have t22 := fun j i => B1 22 j i (by decide) (by decide) (by decide) (by decide) (by decide)
  have t30 := fun j i => B1 30 j i (by decide) (by decide) (by decide) (by decide) (by decide)
  have t32 := fun j i => B1 32 j i (by decide) (by decide) (by decide) (by decide) (by decide)
  have t33 := fun j i => B1 33 j i (by decide) (by decide) (by decide) (by decide) (by decide)
  have y0 := fun j i => B3 0 j i (fun q => by simp at q)
  have y10 := fun j i => B3 10 j i (fun q => by simp at q)
  have y17 := fun j i => B3 17 j i (fun q => by simp at q)
  have y18 := fun j i => B3 18 j i (fun q => by simp at q)
  have qn : ∀ q, q ≠ p → (∀ r, qd s' r q ↔ qd s r q) := by
    intro q hq r
    unfold qd
    rw [(A2 q hq).2.1, (A2 q hq).2.2.2.1, s12]
  have mem : ∀ r q, q ∈ Lo p L r ↔ q ∈ L r ∧ q ≠ p := by
    intro r q
    simp [Lo]
  refine ⟨⟨⟨hN, ?_, ?_, ?_, ho.1, ho.2.1, ?_, ho.2.2.2, g8⟩, ?_, ?_, ?_, ?_, ?_, ?_, ?_, ?_, ?_, ⟨hL', ?_, ?_, ?_, ?_, ?_⟩, ?_, ?_, ?_, ?_⟩, ⟨fun _ => s3 _ _, fun _ => s4 _ _, fun _ _ => s11 _ _, fun _ _ => s12 _ _, fun _ _ => s13 _ _, x0 _ _, fun _ => s1 _ _, fun _ => t21 _ _⟩, fun q hq => ⟨(A2 q hq).2.1, (A2 q hq).2.2.1, (A2 q hq).2.2.2.2, (A2 q hq).1⟩⟩
  · rw [s0, g1]
  · rw [t30, g2]
  · rw [x0, y0, g3]
  · rw [t32, g6]
  · intro q hq
    rw [s2, s3, s4, s6, t4, t1, t3]
    exact hQ q hq
  · intro q hq i hi
    rw [s11, s12, s13, t11, t12, t13]
    exact hO q hq i hi
  · intro q hq
    by_cases e : q = p
    · subst e; exact n1
    · rw [(A2 q e).2.1, (A2 q e).2.2.1, (B2 q e).2.1, (B2 q e).2.2.1]
      exact hW q hq
  · intro q hq r hr
    rw [s14, t14]
    exact hU q hq r hr
  · intro q hq
    obtain ⟨ln, sp, v1, v2, v3, v4, v5, v6, v7, v8⟩ := hV q hq
    by_cases e : q = p
    · subst e
      obtain ⟨sp', w1, w2⟩ := n4
      refine ⟨ln, sp', v1, w1, by rw [s3, v3], w2, by rw [s6]; exact v5, fun i hi => by rw [s11, s12]; exact v6 i hi, fun z => absurd z n2, fun z => absurd z n3⟩
    · refine ⟨ln, sp, v1, v2, by rw [s3, v3], by rw [(A2 q e).2.2.1, v4], by rw [s6]; exact v5, fun i hi => by rw [s11, s12]; exact v6 i hi, ?_, ?_⟩
      · rw [(A2 q e).2.1, (A2 q e).2.2.2.1, s11]; exact v7
      · rw [(A2 q e).2.1, (A2 q e).2.2.2.1, s11]; exact v8
  · intro q hq
    by_cases e : q = p
    · subst e; exact n5
    · rw [(A2 q e).2.1, (A2 q e).2.2.2.2, (B2 q e).2.2.2, A3 3 q 0 (by decide) (fun z => by simp at z) (fun z => e z.2), A3 2 q 0 (by decide) (fun z => e z.2) (fun z => by simp at z), B3 7 0 q (fun z => e z.2)]
      rcases hE q hq with ⟨z1, z2, z3, z4, z5⟩ | z
      · exact Or.inl ⟨z1, z2, z3, by omega, z5⟩
      · exact Or.inr z
  · intro q hq
    by_cases e : q = p
    · subst e; exact fun z => absurd z n2
    · rw [(A2 q e).2.1, x4, y10]
      exact hI q hq
  · intro q hq
    by_cases e : q = p
    · subst e; exact ⟨n6, n7⟩
    · rw [(A2 q e).2.1, (A2 q e).1, (B2 q e).1]
      exact hD q hq
  · intro q hq hq2
    have e : q ≠ p := by omega
    rw [(A2 q e).2.1, (A2 q e).2.2.2.2, s3]
    obtain ⟨z1, z2, z3, z4⟩ := hFr q hq hq2
    exact ⟨z1, z2, z3, fun r hr => by rw [t14]; exact z4 r hr⟩
  · intro r hr q
    rw [mem, l2 r hr]
    by_cases e : q = p
    · subst e
      simp only [ne_eq, not_true, and_false, false_iff]
      exact fun z => n2 z.2.1
    · rw [qn q e r]
      exact ⟨fun z => z.1, fun z => ⟨z, e⟩⟩
  · intro q
    rw [mem, l3]
    by_cases e : q = p
    · subst e
      simp only [ne_eq, not_true, and_false, false_iff]
      exact fun z => n3 z.2
    · rw [(A2 q e).2.1]
      exact ⟨fun z => z.1, fun z => ⟨z, e⟩⟩
  · intro r hr
    refine List.Pairwise.imp ?_ ((l4 r hr).filter _)
    intro a b z
    unfold bf at z ⊢
    rw [s4, s4, t9, t9]
    exact z
  · refine List.Pairwise.imp ?_ (l5.filter _)
    intro a b z
    rw [t9, t9]
    exact z
  · intro q hq z
    by_cases e : q = p
    · subst e
      rcases z with z | z
      · exact absurd z n2
      · exact absurd z n3
    · rw [(A2 q e).2.1] at z
      rw [t9]
      exact l6 q hq z
  · intro r hr
    rw [s16, sS_eq (fun i => t14 0 i)]
    exact hS r hr
  · intro r hr
    rw [s15, s17, x5, x6, t15, t16, y17, y18]
    exact hR r hr
  · intro r hr
    rw [s20, s21, t19, t20]
    exact hK r hr
  · obtain ⟨z1, z2, z3, la, z4, z5, z6⟩ := hT
    refine ⟨by rw [t33, z1], z2, by rw [s24, z3], la, z4, by rw [s23, z5], fun k hk hk2 => ?_⟩
    rw [s22, t22]
    exact z6 k hk hk2
