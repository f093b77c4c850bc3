/-! SEIZE: a place in the line, or units, or units by force. -/
def mQueue (t : kS) (p : Nat) : kS := sL (sI (sI (sI t 6 0 p 4) 9 0 p (gI t 32 0 0)) 32 0 0 (gI t 32 0 0 + 1)) 10 0 p (gL t 0 0 0)
def mWait (t : kS) (p : Nat) : kS := sI (sI (sI t 6 0 p 5) 9 0 p (gI t 32 0 0)) 32 0 0 (gI t 32 0 0 + 1)
theorem tw_split (P : Nat → Bool) (l : List Nat) : l.take (l.takeWhile P).length = l.takeWhile P ∧ l.drop (l.takeWhile P).length = l.dropWhile P := by
  have h := List.takeWhile_append_dropWhile (p := P) (l := l)
  constructor
  · have := List.take_left (l₁ := l.takeWhile P) (l₂ := l.dropWhile P)
    rwa [h] at this
  · have := List.drop_left (l₁ := l.takeWhile P) (l₂ := l.dropWhile P)
    rwa [h] at this
theorem tw_mem {P : Nat → Bool} : ∀ {l : List Nat} {q : Nat}, q ∈ l.takeWhile P → P q = true
  | [], q, h => by simp at h
  | a :: l, q, h => by
    rw [List.takeWhile_cons] at h
    split at h
    · rename_i ha
      rcases List.mem_cons.mp h with rfl | h
      · exact ha
      · exact tw_mem h
    · simp at h
theorem dw_mem {s t : kS} {x : Int32} : ∀ {l : List Nat}, l.Pairwise (bf s t) → ∀ q ∈ l.dropWhile (fun p => decide (gI s 4 p 0 ≤ x)), x < gI s 4 q 0
  | [], _, q, h => by simp at h
  | a :: l, hp, q, h => by
    have ⟨h1, h2⟩ := List.pairwise_cons.mp hp
    rw [List.dropWhile_cons] at h
    split at h
    · exact dw_mem h2 q h
    · rename_i ha
      have ha' : x < gI s 4 a 0 := by
        have : ¬ gI s 4 a 0 ≤ x := by simpa using ha
        grind
      rcases List.mem_cons.mp h with rfl | h
      · exact ha'
      · have := h1 q h
        unfold bf at this
        grind
theorem r_queue {N o c ev : Nat} {L : Nat → List Nat} {s t : kS} {p r ln sp : Nat} (h : Rel N o c ev L s t) (hp : p < N) (h1 : gI s 7 p 0 = 1) (hli : gI s 10 p 0 = 0) (hc : c + 1 < 2 ^ 31) (hV : RV1 s p ln sp) (hsp : 1 ≤ sp ∧ sp ≤ ln ∧ gI s 9 p 0 = nI (sp - 1)) (hr : r < 4) (hop : gI s 11 p (sp - 1) = 2) (ha : gI s 12 p (sp - 1) = nI r) : ∃ (s' : kS) (L' : Nat → List Nat), F_K_standInLine s p = some (0, s') ∧ Rel N o (c + 1) ev L' s' (mQueue t p) ∧ St s s' t (mQueue t p) ∧ (∀ q, q ≠ p → Kp q s s') := by
  have hN := h.1.1
  obtain ⟨nd, len, lt⟩ := L_len h (r := r) (by omega)
  have hL := h.2.2.2.2.2.2.2.2.2.2.1
  have pno : ∀ r', r' < 5 → p ∉ L r' := not_in h (by rw [h1]; decide) (by rw [h1]; decide)
  have hlen : (L r).length < 12 := by
    have := nd_len N (p :: L r) (List.nodup_cons.mpr ⟨pno r (by omega), nd⟩) (by
      intro q hq
      rcases List.mem_cons.mp hq with rfl | hq
      · exact hp
      · exact (mem_q h (by omega) hq).1)
    simp at this
    omega
  have hno : gI s 2 p 0 = nI p := (h.2.1 p (by omega)).1
  obtain ⟨f, k1, k2⟩ := L_insert s r (cb s (gI s 4 p 0) (L r)) p (L r) (cb_le ..) hlen (hL.1 r (by omega))
  obtain ⟨e1, e2⟩ := tw_split (fun q => decide (gI s 4 q 0 ≤ gI s 4 p 0)) (L r)
  change (L r).take (cb s (gI s 4 p 0) (L r)) = _ at e1
  change (L r).drop (cb s (gI s 4 p 0) (L r)) = _ at e2
  have hsplit := List.takeWhile_append_dropWhile (p := fun q => decide (gI s 4 q 0 ≤ gI s 4 p 0)) (l := L r)
  rw [e1, e2] at k2
  generalize hA : (L r).takeWhile (fun q => decide (gI s 4 q 0 ≤ gI s 4 p 0)) = lA at *
  generalize hB : (L r).dropWhile (fun q => decide (gI s 4 q 0 ≤ gI s 4 p 0)) = lB at *
  have hA' : ∀ q ∈ lA, gI s 4 q 0 ≤ gI s 4 p 0 := fun q hq => by
    rw [← hA] at hq
    simpa using tw_mem hq
  have hB' : ∀ q ∈ lB, gI s 4 p 0 < gI s 4 q 0 := fun q hq => by
    rw [← hB] at hq
    exact dw_mem (hL.2.2.2.1 r hr) q hq
  have hlen2 : (lA ++ p :: lB).length = (L r).length + 1 := by rw [← hsplit]; simp; omega
  have gc : gI t 32 0 0 = nI c := h.1.2.2.2.2.2.2.1
  have hcame : ∀ q ∈ L r, gI t 9 0 q < nI c := by
    intro q hq
    obtain ⟨hqN, hqd, -⟩ := mem_q h (r := r) (by omega) hq
    obtain ⟨k, k1, k2⟩ := hL.2.2.2.2.2 q hqN (Or.inl (hqd hr).1)
    rw [k2, nI_ltI (by omega) (by omega)]
    exact k1
  let s' : kS := sL (sI (sI (sR s r f) 19 r 0 (nI ((L r).length + 1))) 7 p 0 4) 4 p 0 (gL s 0 0 0)
  have hpnA : p ∉ lA := fun z => pno r (by omega) (by rw [← hsplit]; exact List.mem_append_left _ z)
  have hpnB : p ∉ lB := fun z => pno r (by omega) (by rw [← hsplit]; exact List.mem_append_right _ z)
  have key := rel_in (s' := s') (t' := mQueue t p) (r := r) (st := 4) (l' := lA ++ p :: lB) h hp h1 hli hc hV hsp (Or.inl ⟨rfl, hr, hop, ha⟩) ?_ ?_ ?_ ?_ ?_ ?_ ?_ ?_ ?_ ?_ ?_ ?_ ?_
  · refine ⟨s', _, ?_, key.1, key.2.1, key.2.2⟩
    unfold F_K_standInLine
    rw [K_first s hsp.2.2 (by have := hV.2.1; omega), sb_some, ha]
    simp (disch := omega) only [inb_nI, sg_true, nI_clamp, sl_x, K_count h hr, sb_some, hno, k1]
    rfl
  · intro k j i h7 h18 h19
    simp [s', gI_sL, gI_sI, gI_sR, h7, h18, h19]
  · intro q
    simp [s', gI_sL, gI_sI, gI_sR]
  · intro k j i hk
    show gL (sL _ 4 p 0 _) k j i = _
    rw [gL_sL]
    have : ¬ (k = 4 ∧ j = p ∧ i = 0) := fun z => hk ⟨z.1, z.2.1⟩
    rw [if_neg this]
    rfl
  · intro k j i h6 h9 h32
    simp [mQueue, gI_sL, gI_sI, h6, h9, h32]
  · intro q
    simp [mQueue, gI_sL, gI_sI, gc]
  · simp [mQueue, gI_sL, gI_sI, gc, nI_1]
  · intro k j i hk
    simp only [mQueue, gL_sL, gL_sI]
    have : ¬ (k = 10 ∧ j = 0 ∧ i = p) := fun z => hk ⟨z.1, z.2.2⟩
    rw [if_neg this]
  · intro _
    have := h.1.2.2.2.1
    simp [mQueue, s', gL_sL, gL_sI, this]
  · have := LI_this (s := s) (r := r) (l := lA ++ p :: lB) k2
    rw [hlen2] at this
    exact this
  · intro r' hr' e
    have := LI_other (r := r) (f := f) (v := nI ((L r).length + 1)) e (hL.1 r' hr')
    exact this
  · intro q
    rw [← hsplit]
    simp only [List.mem_append, List.mem_cons]
    constructor
    · rintro (z | z | z)
      · exact Or.inr (Or.inl z)
      · exact Or.inl z
      · exact Or.inr (Or.inr z)
    · rintro (z | z | z)
      · exact Or.inr (Or.inl z)
      · exact Or.inl z
      · exact Or.inr (Or.inr z)
  · intro _
    have pw : (lA ++ lB).Pairwise (bf s t) := by rw [hsplit]; exact hL.2.2.2.1 r hr
    obtain ⟨p1, p2, p3⟩ := List.pairwise_append.mp pw
    have b4 : ∀ q, gI s' 4 q 0 = gI s 4 q 0 := fun q => by simp [s', gI_sL, gI_sI, gI_sR]
    have b9 : ∀ q, q ≠ p → gI (mQueue t p) 9 0 q = gI t 9 0 q := fun q e => by simp [mQueue, gI_sL, gI_sI, e]
    have b9p : gI (mQueue t p) 9 0 p = nI c := by simp [mQueue, gI_sL, gI_sI, gc]
    have tr : ∀ a b, a ≠ p → b ≠ p → bf s t a b → bf s' (mQueue t p) a b := by
      intro a b ea eb z
      unfold bf at z ⊢
      rw [b4, b4, b9 a ea, b9 b eb]
      exact z
    refine List.pairwise_append.mpr ⟨?_, List.pairwise_cons.mpr ⟨?_, ?_⟩, ?_⟩
    · exact List.Pairwise.imp_of_mem (fun ha hb z => tr _ _ (fun w => hpnA (w ▸ ha)) (fun w => hpnA (w ▸ hb)) z) p1
    · intro q hq
      left
      rw [b4, b4]
      exact hB' q hq
    · exact List.Pairwise.imp_of_mem (fun ha hb z => tr _ _ (fun w => hpnB (w ▸ ha)) (fun w => hpnB (w ▸ hb)) z) p2
    · intro a ha2 b hb
      rcases List.mem_cons.mp hb with e | hb
      · have z1 := hA' a ha2
        have z2 := hcame a (by rw [← hsplit]; exact List.mem_append_left _ ha2)
        unfold bf
        rw [e, b4, b4, b9 a (fun w => hpnA (w ▸ ha2)), b9p]
        grind
      · exact tr _ _ (fun w => hpnA (w ▸ ha2)) (fun w => hpnB (w ▸ hb)) (p3 a ha2 b hb)
  · intro z
    exact absurd z (by decide)
theorem r_wait {N o c ev : Nat} {L : Nat → List Nat} {s t : kS} {p ln sp : Nat} (h : Rel N o c ev L s t) (hp : p < N) (h1 : gI s 7 p 0 = 1) (hli : gI s 10 p 0 = 0) (hc : c + 1 < 2 ^ 31) (hV : RV1 s p ln sp) (hsp : 1 ≤ sp ∧ sp ≤ ln ∧ gI s 9 p 0 = nI (sp - 1)) (hop : 4 ≤ gI s 11 p (sp - 1) ∧ gI s 11 p (sp - 1) ≤ 6) : ∃ (s' : kS) (L' : Nat → List Nat), F_K_waitForCondition s p = some (0, s') ∧ Rel N o (c + 1) ev L' s' (mWait t p) ∧ St s s' t (mWait t p) ∧ (∀ q, q ≠ p → Kp q s s') := by
  have hN := h.1.1
  obtain ⟨nd, len, lt⟩ := L_len h (r := 4) (by omega)
  have hL := h.2.2.2.2.2.2.2.2.2.2.1
  have pno : ∀ r', r' < 5 → p ∉ L r' := not_in h (by rw [h1]; decide) (by rw [h1]; decide)
  have hlen : (L 4).length < 12 := by
    have := nd_len N (p :: L 4) (List.nodup_cons.mpr ⟨pno 4 (by omega), nd⟩) (by
      intro q hq
      rcases List.mem_cons.mp hq with rfl | hq
      · exact hp
      · exact (mem_q h (r := 4) (by omega) hq).1)
    simp at this
    omega
  have hno : gI s 2 p 0 = nI p := (h.2.1 p (by omega)).1
  obtain ⟨f, k1, k2⟩ := L_insert s 4 (L 4).length p (L 4) (Nat.le_refl _) hlen (hL.1 4 (by omega))
  rw [List.take_length, List.drop_length] at k2
  have gc : gI t 32 0 0 = nI c := h.1.2.2.2.2.2.2.1
  have hcame : ∀ q ∈ L 4, gI t 9 0 q < nI c := by
    intro q hq
    obtain ⟨hqN, -, hqd⟩ := mem_q h (r := 4) (by omega) hq
    obtain ⟨k, k1, k2⟩ := hL.2.2.2.2.2 q hqN (Or.inr (hqd rfl))
    rw [k2, nI_ltI (by omega) (by omega)]
    exact k1
  let s' : kS := sI (sI (sR s 4 f) 19 4 0 (nI ((L 4).length + 1))) 7 p 0 5
  have key := rel_in (s' := s') (t' := mWait t p) (r := 4) (st := 5) (l' := L 4 ++ [p]) h hp h1 hli hc hV hsp (Or.inr ⟨rfl, rfl, hop⟩) ?_ ?_ ?_ ?_ ?_ ?_ ?_ ?_ ?_ ?_ ?_ ?_ ?_
  · refine ⟨s', _, ?_, key.1, key.2.1, key.2.2⟩
    unfold F_K_waitForCondition
    rw [(hL.1 4 (by omega)).1, hno, k1, sb_some]
    rfl
  · intro k j i h7 h18 h19
    simp [s', gI_sL, gI_sI, gI_sR, h7, h18, h19]
  · intro q
    simp [s', gI_sL, gI_sI, gI_sR]
  · intro k j i hk
    rfl
  · intro k j i h6 h9 h32
    simp [mWait, gI_sL, gI_sI, h6, h9, h32]
  · intro q
    simp [mWait, gI_sL, gI_sI, gc]
  · simp [mWait, gI_sL, gI_sI, gc, nI_1]
  · intro k j i hk
    rfl
  · intro z
    exact absurd z (by decide)
  · have := LI_this (s := s) (r := 4) (l := L 4 ++ [p]) k2
    rw [List.length_append] at this
    exact this
  · intro r' hr' e
    have := LI_other (r := 4) (f := f) (v := nI ((L 4).length + 1)) e (hL.1 r' hr')
    exact this
  · intro q
    simp only [List.mem_append, List.mem_cons, List.not_mem_nil, or_false]
    exact ⟨fun z => z.symm, fun z => z.symm⟩
  · intro z
    exact absurd z (by decide)
  · intro _
    have b9 : ∀ q, q ≠ p → gI (mWait t p) 9 0 q = gI t 9 0 q := fun q e => by simp [mWait, gI_sL, gI_sI, e]
    have b9p : gI (mWait t p) 9 0 p = nI c := by simp [mWait, gI_sL, gI_sI, gc]
    have ne : ∀ q ∈ L 4, q ≠ p := fun q hq w => pno 4 (by omega) (w ▸ hq)
    refine List.pairwise_append.mpr ⟨?_, List.pairwise_singleton .., ?_⟩
    · refine List.Pairwise.imp_of_mem ?_ hL.2.2.2.2.1
      intro a b ha hb z
      rw [b9 a (ne a ha), b9 b (ne b hb)]
      exact z
    · intro a ha b hb
      rw [List.mem_singleton.mp hb, b9 a (ne a ha), b9p]
      exact hcame a ha
