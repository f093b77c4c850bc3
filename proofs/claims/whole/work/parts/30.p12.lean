/-! A process goes into a line. -/
theorem rel_in {N o c ev : Nat} {L : Nat → List Nat} {s t s' t' : kS} {p r ln sp : Nat} {st : Int32} {l' : List Nat} (h : Rel N o c ev L s t) (hp : p < N) (h1 : gI s 7 p 0 = 1) (hli : gI s 10 p 0 = 0) (hc : c + 1 < 2 ^ 31) (hV : RV1 s p ln sp) (hsp : 1 ≤ sp ∧ sp ≤ ln ∧ gI s 9 p 0 = nI (sp - 1)) (hst : (st = 4 ∧ r < 4 ∧ gI s 11 p (sp - 1) = 2 ∧ gI s 12 p (sp - 1) = nI r) ∨ (st = 5 ∧ r = 4 ∧ 4 ≤ gI s 11 p (sp - 1) ∧ gI s 11 p (sp - 1) ≤ 6)) (A1 : ∀ k j i, k ≠ 7 → k ≠ 18 → k ≠ 19 → gI s' k j i = gI s k j i) (A2 : ∀ q, gI s' 7 q 0 = if q = p then st else gI s 7 q 0) (A3 : ∀ k j i, ¬ (k = 4 ∧ j = p) → gL s' k j i = gL s k j i) (B1 : ∀ k j i, k ≠ 6 → k ≠ 9 → k ≠ 32 → gI t' k j i = gI t k j i) (B2 : ∀ q, gI t' 6 0 q = (if q = p then st else gI t 6 0 q) ∧ gI t' 9 0 q = (if q = p then nI c else gI t 9 0 q)) (B4 : gI t' 32 0 0 = nI (c + 1)) (B3 : ∀ k j i, ¬ (k = 10 ∧ i = p) → gL t' k j i = gL t k j i) (hsi : st = 4 → gL s' 4 p 0 = gL t' 10 0 p) (hl : LI s' r l') (hlo : ∀ r', r' < 5 → r' ≠ r → LI s' r' (L r')) (hm : ∀ q, q ∈ l' ↔ q = p ∨ q ∈ L r) (hw4 : st = 4 → l'.Pairwise (bf s' t')) (hw5 : st = 5 → l'.Pairwise (fun a b => gI t' 9 0 a < gI t' 9 0 b)) : Rel N o (c + 1) ev (fun r' => if r' = r then l' else L r') s' t' ∧ St s s' t t' ∧ (∀ q, q ≠ p → Kp q s s') := by
  have h0 := h
  obtain ⟨⟨hN, g1, g2, g3, g4, g5, g6, g7, g8⟩, hQ, hO, hW, hU, hVV, hE, hI, hD, hFr, ⟨l1, l2, l3, l4, l5, l6⟩, hS, hR, hK, hT⟩ := h
  have i0 := fun j i => A1 0 j i (by decide) (by decide) (by decide)
  have i1 := fun j i => A1 1 j i (by decide) (by decide) (by decide)
  have i2 := fun j i => A1 2 j i (by decide) (by decide) (by decide)
  have i3 := fun j i => A1 3 j i (by decide) (by decide) (by decide)
  have i4 := fun j i => A1 4 j i (by decide) (by decide) (by decide)
  have i5 := fun j i => A1 5 j i (by decide) (by decide) (by decide)
  have i6 := fun j i => A1 6 j i (by decide) (by decide) (by decide)
  have i8 := fun j i => A1 8 j i (by decide) (by decide) (by decide)
  have i9 := fun j i => A1 9 j i (by decide) (by decide) (by decide)
  have i10 := fun j i => A1 10 j i (by decide) (by decide) (by decide)
  have i11 := fun j i => A1 11 j i (by decide) (by decide) (by decide)
  have i12 := fun j i => A1 12 j i (by decide) (by decide) (by decide)
  have i13 := fun j i => A1 13 j i (by decide) (by decide) (by decide)
  have i14 := fun j i => A1 14 j i (by decide) (by decide) (by decide)
  have i15 := fun j i => A1 15 j i (by decide) (by decide) (by decide)
  have i16 := fun j i => A1 16 j i (by decide) (by decide) (by decide)
  have i17 := fun j i => A1 17 j i (by decide) (by decide) (by decide)
  have i20 := fun j i => A1 20 j i (by decide) (by decide) (by decide)
  have i21 := fun j i => A1 21 j i (by decide) (by decide) (by decide)
  have i22 := fun j i => A1 22 j i (by decide) (by decide) (by decide)
  have i23 := fun j i => A1 23 j i (by decide) (by decide) (by decide)
  have i24 := fun j i => A1 24 j i (by decide) (by decide) (by decide)
  have x0 := fun j i => A3 0 j i (fun q => by simp at q)
  have x1 := fun j i => A3 1 j i (fun q => by simp at q)
  have x2 := fun j i => A3 2 j i (fun q => by simp at q)
  have x3 := fun j i => A3 3 j i (fun q => by simp at q)
  have x5 := fun j i => A3 5 j i (fun q => by simp at q)
  have x6 := fun j i => A3 6 j i (fun q => by simp at q)
  have t1 := fun j i => B1 1 j i (by decide) (by decide) (by decide)
  have t2 := fun j i => B1 2 j i (by decide) (by decide) (by decide)
  have t3 := fun j i => B1 3 j i (by decide) (by decide) (by decide)
  have t4 := fun j i => B1 4 j i (by decide) (by decide) (by decide)
  have t5 := fun j i => B1 5 j i (by decide) (by decide) (by decide)
  have t8 := fun j i => B1 8 j i (by decide) (by decide) (by decide)
  have t11 := fun j i => B1 11 j i (by decide) (by decide) (by decide)
  have t12 := fun j i => B1 12 j i (by decide) (by decide) (by decide)
  have t13 := fun j i => B1 13 j i (by decide) (by decide) (by decide)
  have t14 := fun j i => B1 14 j i (by decide) (by decide) (by decide)
  have t15 := fun j i => B1 15 j i (by decide) (by decide) (by decide)
  have t16 := fun j i => B1 16 j i (by decide) (by decide) (by decide)
  have t19 := fun j i => B1 19 j i (by decide) (by decide) (by decide)
  have t20 := fun j i => B1 20 j i (by decide) (by decide) (by decide)
  have t21 := fun j i => B1 21 j i (by decide) (by decide) (by decide)
  have t22 := fun j i => B1 22 j i (by decide) (by decide) (by decide)
  have t30 := fun j i => B1 30 j i (by decide) (by decide) (by decide)
  have t31 := fun j i => B1 31 j i (by decide) (by decide) (by decide)
  have t33 := fun j i => B1 33 j i (by decide) (by decide) (by decide)
  have y0 := fun j i => B3 0 j i (fun q => by simp at q)
  have y7 := fun j i => B3 7 j i (fun q => by simp at q)
  have y17 := fun j i => B3 17 j i (fun q => by simp at q)
  have y18 := fun j i => B3 18 j i (fun q => by simp at q)
  have s7p : gI s' 7 p 0 = st := by rw [A2, if_pos rfl]
  have s7q : ∀ q, q ≠ p → gI s' 7 q 0 = gI s 7 q 0 := fun q e => by rw [A2, if_neg e]
  have t6p : gI t' 6 0 p = st := by rw [(B2 p).1, if_pos rfl]
  have t6q : ∀ q, q ≠ p → gI t' 6 0 q = gI t 6 0 q := fun q e => by rw [(B2 q).1, if_neg e]
  have t9p : gI t' 9 0 p = nI c := by rw [(B2 p).2, if_pos rfl]
  have t9q : ∀ q, q ≠ p → gI t' 9 0 q = gI t 9 0 q := fun q e => by rw [(B2 q).2, if_neg e]
  have pno : ∀ r', r' < 5 → p ∉ L r' := not_in h0 (by rw [h1]; decide) (by rw [h1]; decide)
  have h45 : st = 4 ∨ st = 5 := hst.elim (fun z => Or.inl z.1) (fun z => Or.inr z.1)
  have qn : ∀ q, q ≠ p → (∀ r, qd s' r q ↔ qd s r q) := by
    intro q hq r
    unfold qd
    rw [s7q q hq, i9, i12]
  refine ⟨⟨⟨hN, ?_, ?_, ?_, ?_, ?_, B4, g7, hc⟩, ?_, ?_, ?_, ?_, ?_, ?_, ?_, ?_, ?_, ⟨?_, ?_, ?_, ?_, ?_, ?_⟩, ?_, ?_, ?_, ?_⟩, ⟨fun _ => i3 _ _, fun _ => i4 _ _, fun _ _ => i11 _ _, fun _ _ => i12 _ _, fun _ _ => i13 _ _, x0 _ _, fun _ => i1 _ _, fun _ => t21 _ _⟩, fun q hq => ⟨s7q q hq, i8 _ _, i10 _ _, i5 _ _⟩⟩
  · rw [i0, g1]
  · rw [t30, g2]
  · rw [x0, y0, g3]
  · rw [x1, g4]
  · rw [t31, g5]
  · intro q hq
    rw [i2, i3, i4, i6, t4, t1, t3]
    exact hQ q hq
  · intro q hq i hi
    rw [i11, i12, i13, t11, t12, t13]
    exact hO q hq i hi
  · intro q hq
    rw [i8, t5]
    by_cases e : q = p
    · subst e
      rw [s7p, t6p]
      refine ⟨rfl, (hW q hq).2.1, ?_, ?_⟩ <;> rcases h45 with rfl | rfl <;> decide
    · rw [s7q q e, t6q q e]
      exact hW q hq
  · intro q hq r hr
    rw [i14, t14]
    exact hU q hq r hr
  · intro q hq
    by_cases e : q = p
    · subst e
      obtain ⟨v1, v2, v3, v4, v5, v6, v7, v8⟩ := hV
      refine ⟨ln, sp, v1, v2, by rw [i3, v3], by rw [i8, v4], by rw [i6]; exact v5, fun i hi => by rw [i11, i12]; exact v6 i hi, fun z => ?_, fun z => ?_⟩
      · rw [i9, i11]
        rcases hst with ⟨-, -, z2, -⟩ | ⟨z1, -⟩
        · exact ⟨hsp.1, hsp.2.1, hsp.2.2, z2⟩
        · rw [s7p, z1] at z; exact absurd z (by decide)
      · rw [i9, i11]
        rcases hst with ⟨z1, -⟩ | ⟨-, -, z2⟩
        · rw [s7p, z1] at z; exact absurd z (by decide)
        · exact ⟨hsp.1, hsp.2.1, hsp.2.2, z2⟩
    · obtain ⟨ln, sp, v1, v2, v3, v4, v5, v6, v7, v8⟩ := hVV q hq
      refine ⟨ln, sp, v1, v2, by rw [i3, v3], by rw [i8, v4], by rw [i6]; exact v5, fun i hi => by rw [i11, i12]; exact v6 i hi, ?_, ?_⟩
      · rw [s7q q e, i9, i11]; exact v7
      · rw [s7q q e, i9, i11]; exact v8
  · intro q hq
    rw [i10, t8, x3, x2, y7]
    by_cases e : q = p
    · subst e
      rcases hE q hq with ⟨z1, -⟩ | z
      · rw [hli] at z1; exact absurd z1 (by decide)
      · exact Or.inr z
    · rw [s7q q e]
      exact hE q hq
  · intro q hq z
    by_cases e : q = p
    · subst e
      exact hsi (by rw [← s7p]; exact z)
    · rw [s7q q e] at z
      rw [A3 4 q 0 (fun w => e w.2), B3 10 0 q (fun w => e w.2)]
      exact hI q hq z
  · intro q hq
    rw [i5, t2]
    by_cases e : q = p
    · subst e
      exact ⟨(hD q hq).1, fun _ => (hD q hq).2 (by rw [h1]; decide)⟩
    · rw [s7q q e]
      exact hD q hq
  · intro q hq hq2
    have e : q ≠ p := by omega
    rw [s7q q e, i10, i3]
    obtain ⟨z1, z2, z3, z4⟩ := hFr q hq hq2
    exact ⟨z1, z2, z3, fun r hr => by rw [t14]; exact z4 r hr⟩
  · intro r' hr'
    by_cases e : r' = r
    · subst e; simpa using hl
    · simp only [e, if_false]; exact hlo r' hr' e
  · intro r' hr' q
    by_cases e : q = p
    · subst e
      rcases hst with ⟨z1, z2, z3, z4⟩ | ⟨z1, z2, z3⟩
      · have hqd : qd s' r q := ⟨by rw [s7p, z1], by rw [i9, i12, hsp.2.2, nI_clamp (by have := hV.2.1; omega), z4]⟩
        by_cases e2 : r' = r
        · subst e2
          simp only [if_true]
          rw [hm]
          exact ⟨fun _ => ⟨hp, hqd⟩, fun _ => Or.inl rfl⟩
        · simp only [e2, if_false]
          refine ⟨fun w => absurd w (pno r' (by omega)), fun w => ?_⟩
          have := w.2.2
          rw [hqd.2, nI_eq (by omega) (by omega)] at this
          omega
      · have e2 : r' ≠ r := by omega
        simp only [e2, if_false]
        refine ⟨fun w => absurd w (pno r' (by omega)), fun w => ?_⟩
        have := w.2.1
        rw [s7p, z1] at this
        exact absurd this (by decide)
    · rw [qn q e r', ← l2 r' hr' q]
      by_cases e2 : r' = r
      · subst e2
        simp only [if_true]
        rw [hm]
        exact ⟨fun w => w.resolve_left e, Or.inr⟩
      · simp only [e2, if_false]
  · intro q
    by_cases e : q = p
    · subst e
      rcases hst with ⟨z1, z2, z3, z4⟩ | ⟨z1, z2, z3⟩
      · have e2 : 4 ≠ r := by omega
        simp only [e2, if_false]
        refine ⟨fun w => absurd w (pno 4 (by omega)), fun w => ?_⟩
        have := w.2
        rw [s7p, z1] at this
        exact absurd this (by decide)
      · subst z2
        simp only [if_true]
        rw [hm]
        exact ⟨fun _ => ⟨hp, by rw [s7p, z1]⟩, fun _ => Or.inl rfl⟩
    · rw [s7q q e, ← l3 q]
      by_cases e2 : 4 = r
      · subst e2
        simp only [if_true]
        rw [hm]
        exact ⟨fun w => w.resolve_left e, Or.inr⟩
      · simp only [e2, if_false]
  · intro r' hr'
    by_cases e : r' = r
    · subst e
      simp only [if_true]
      rcases hst with ⟨z1, -⟩ | ⟨-, z2, -⟩
      · exact hw4 z1
      · omega
    · simp only [e, if_false]
      refine List.Pairwise.imp_of_mem ?_ (l4 r' hr')
      intro a b ha hb z
      have ea : a ≠ p := fun w => pno r' (by omega) (w ▸ ha)
      have eb : b ≠ p := fun w => pno r' (by omega) (w ▸ hb)
      unfold bf at z ⊢
      rw [i4, i4, t9q a ea, t9q b eb]
      exact z
  · by_cases e : 4 = r
    · subst e
      simp only [if_true]
      rcases hst with ⟨-, z, -⟩ | ⟨z1, -, -⟩
      · omega
      · exact hw5 z1
    · simp only [e, if_false]
      refine List.Pairwise.imp_of_mem ?_ l5
      intro a b ha hb z
      have ea : a ≠ p := fun w => pno 4 (by omega) (w ▸ ha)
      have eb : b ≠ p := fun w => pno 4 (by omega) (w ▸ hb)
      rw [t9q a ea, t9q b eb]
      exact z
  · intro q hq z
    by_cases e : q = p
    · subst e
      exact ⟨c, by omega, t9p⟩
    · rw [s7q q e] at z
      obtain ⟨k, k1, k2⟩ := l6 q hq z
      exact ⟨k, by omega, by rw [t9q q e, k2]⟩
  · intro r hr
    rw [i16, sS_eq (fun i => t14 0 i)]
    exact hS r hr
  · intro r hr
    rw [i15, i17, x5, x6, t15, t16, y17, y18]
    exact hR r hr
  · intro r hr
    rw [i20, i21, t19, t20]
    exact hK r hr
  · obtain ⟨z1, z2, z3, la, z4, z5, z6⟩ := hT
    refine ⟨by rw [t33, z1], z2, by rw [i24, z3], la, z4, by rw [i23, z5], fun k hk hk2 => ?_⟩
    rw [i22, t22]
    exact z6 k hk hk2
