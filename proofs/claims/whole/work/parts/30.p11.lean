/-! Who stands before, what is within reach, who loses. -/
def cb (s : kS) (x : Int32) (l : List Nat) : Nat := (l.takeWhile (fun p => decide (gI s 4 p 0 ≤ x))).length
theorem count_loop {s : kS} {r : Nat} {x : Int32} {l0 : List Nat} (hI : LI s r l0) (hl0 : l0.length ≤ 12) (h12 : ∀ p ∈ l0, p < 12) : ∀ (l d : List Nat) (n : Nat), d ++ l = l0 → l.length < n → F_K_countBefore_13 n s x r (nI d.length) = some (nI (d.length + cb s x l)) := by
  intro l
  induction l with
  | nil =>
    intro d n hd hn
    obtain ⟨n, rfl⟩ : ∃ k, n = k + 1 := ⟨n - 1, by simp at hn; omega⟩
    have : d.length = l0.length := by rw [← hd]; simp
    unfold F_K_countBefore_13
    rw [hI.1, if_pos (by rw [nI_leI] <;> omega)]
    rfl
  | cons p l ih =>
    intro d n hd hn
    obtain ⟨n, rfl⟩ : ∃ k, n = k + 1 := ⟨n - 1, by omega⟩
    have hlen : d.length + (l.length + 1) = l0.length := by rw [← hd]; simp
    have hm : gI s 18 r d.length = nI p := hI.2 d.length p (by rw [← hd]; simp)
    have hp := h12 p (by rw [← hd]; simp)
    simp only [List.length_cons] at hn
    unfold F_K_countBefore_13
    rw [hI.1, if_neg (by rw [nI_leI] <;> omega)]
    simp (disch := omega) only [inb_nI, sg_true, nI_clamp, hm, sl_x, nI_1]
    by_cases e : x < gI s 4 p 0
    · rw [if_pos e]
      have : ¬ gI s 4 p 0 ≤ x := by grind
      simp [cb, List.takeWhile_cons, this]
    · rw [if_neg e]
      have e' : gI s 4 p 0 ≤ x := by grind
      have := ih (d ++ [p]) n (by simp [hd]) (by omega)
      simp only [List.length_append, List.length_cons, List.length_nil] at this
      rw [this]
      simp [cb, List.takeWhile_cons, e']
      congr 1
      omega
theorem K_count {N o c ev : Nat} {L : Nat → List Nat} {s t : kS} (h : Rel N o c ev L s t) {r : Nat} (hr : r < 4) (x : Int32) : F_K_countBefore s (nI r) x = some (nI (cb s x (L r))) := by
  have hN := h.1.1
  obtain ⟨nd, len, lt⟩ := L_len h (r := r) (by omega)
  have := count_loop (x := x) ((h.2.2.2.2.2.2.2.2.2.2.1).1 r (by omega)) (by omega) lt (L r) [] 1000 rfl (by omega)
  unfold F_K_countBefore
  simp only [List.length_nil, nI_0, Nat.zero_add] at this
  simp (disch := omega) only [inb_nI, sg_true, nI_clamp, sl_x, this, sb_some]
theorem cb_le (s : kS) (x : Int32) (l : List Nat) : cb s x l ≤ l.length := List.Sublist.length_le (List.takeWhile_sublist _)
/-- foremost: nobody of the line stands before -/
theorem cb_hd {s : kS} {x : Int32} {l : List Nat} : cb s x l = 0 ↔ ∀ p l', l = p :: l' → ¬ gI s 4 p 0 ≤ x := by
  cases l with
  | nil => simp [cb]
  | cons p l =>
    simp only [cb, List.takeWhile_cons]
    by_cases e : gI s 4 p 0 ≤ x
    · simp [e]
    · simp [e]
      grind
theorem reach_loop {N o c ev : Nat} {L : Nat → List Nat} {s t : kS} (h : Rel N o c ev L s t) {p r : Nat} (hp : p < N) (hr : r < 4) : ∀ (d n k : Nat) (v : Int32), d < n → k + d = N → ∃ w, F_K_withinReach_13 n s p (nI r) v (nI k) = some (w, nI N) ∧ F_M_reach_9 n t (nI p) (nI r) v (nI k) = some (w, nI N) := by
  have hN := h.1.1
  have g1 := h.1.2.1
  have g2 := h.1.2.2.1
  intro d
  induction d with
  | zero =>
    intro n k v hn hk
    obtain ⟨n, rfl⟩ : ∃ k, n = k + 1 := ⟨n - 1, by omega⟩
    have : k = N := by omega
    subst this
    have hle : nI k ≤ nI k := by rw [nI_leI] <;> omega
    refine ⟨v, ?_, ?_⟩
    · unfold F_K_withinReach_13
      rw [g1, if_pos hle]
    · unfold F_M_reach_9
      rw [g2, if_pos hle]
  | succ d ih =>
    intro n k v hn hk
    obtain ⟨n, rfl⟩ : ∃ k, n = k + 1 := ⟨n - 1, by omega⟩
    have hle : ¬ nI N ≤ nI k := by rw [nI_leI] <;> omega
    have ep : gI t 1 0 p = gI s 4 p 0 := (h.2.1 p (by omega)).2.2.1.symm
    have ek : gI t 1 0 k = gI s 4 k 0 := (h.2.1 k (by omega)).2.2.1.symm
    have hu : gI t 14 0 (4 * k + r) = gI s 14 k r := (h.2.2.2.2.1 k (by omega) r hr).symm
    unfold F_K_withinReach_13 F_M_reach_9
    rw [g1, g2, if_neg hle, if_neg hle]
    simp (disch := omega) only [inb_nI, sg_true, nI_clamp, sl_x, mul_4, nI_add, nI_1, ep, ek, hu]
    by_cases e : gI s 4 k 0 ≤ gI s 4 p 0
    · rw [if_pos e, if_pos e, show v + 0 = v by grind]
      exact ih n (k + 1) v (by omega) (by omega)
    · rw [if_neg e, if_neg e]
      exact ih n (k + 1) _ (by omega) (by omega)
theorem r_reach {N o c ev : Nat} {L : Nat → List Nat} {s t : kS} (h : Rel N o c ev L s t) {p r : Nat} (hp : p < N) (hr : r < 4) : ∃ w, F_K_withinReach s p (nI r) = some w ∧ F_M_reach t (nI p) (nI r) = some w := by
  have hN := h.1.1
  have hcap : gI s 15 r 0 = gI t 15 0 r := (h.2.2.2.2.2.2.2.2.2.2.2.2.1 r hr).1
  have hsz : gI s 16 r 0 = sS t r N := h.2.2.2.2.2.2.2.2.2.2.2.1 r hr
  obtain ⟨w, h1, h2⟩ := reach_loop h hp hr N 1000 0 (gI s 15 r 0 - gI s 16 r 0) (by omega) (by omega)
  rw [nI_0] at h1 h2
  refine ⟨w, ?_, ?_⟩
  · unfold F_K_withinReach
    simp (disch := omega) only [inb_nI, sg_true, nI_clamp, sl_x, K_unseized, sb_some, h1]
  · unfold F_M_reach
    rw [M_rest hr hN h.1.2.2.1, sb_some, ← hcap, ← hsz, h2, sb_some]
def ql (s : kS) (p r q : Nat) : Prop := 0 < gI s 14 q r ∧ gI s 4 p 0 < gI s 4 q 0
def rl (s : kS) (a b : Nat) : Prop := gI s 4 b 0 < gI s 4 a 0 ∨ (gI s 4 b 0 = gI s 4 a 0 ∧ b < a)
theorem rl_tr (s : kS) (a b c : Nat) (h : rl s a b) (k : rl s b c) : rl s a c := by
  unfold rl at *
  grind
theorem rl_as (s : kS) (a b : Nat) (h : rl s a b) (k : rl s b a) : False := by
  unfold rl at *
  grind
theorem Bst.uniq {Q : Nat → Prop} {R : Nat → Nat → Prop} {N : Nat} {b b' : Int32} (h : Bst Q R N b) (h' : Bst Q R N b') (as : ∀ a b, R a b → R b a → False) : b = b' := by
  rcases h with ⟨h1, h2⟩ | ⟨p, h1, h2, h3, h4⟩
  · rcases h' with ⟨k1, k2⟩ | ⟨p', k1, k2, k3, k4⟩
    · rw [h1, k1]
    · exact absurd k3 (h2 p' k1)
  · rcases h' with ⟨k1, k2⟩ | ⟨p', k1, k2, k3, k4⟩
    · exact absurd h3 (k2 p h1)
    · rcases h4 p' k1 k3 with e | e
      · rw [h2, k2, e]
      · rcases k4 p h1 h3 with e' | e'
        · rw [h2, k2, e']
        · exact (as _ _ e e').elim
theorem victim_loop {N o c ev : Nat} {L : Nat → List Nat} {s t : kS} (h : Rel N o c ev L s t) {p r : Nat} (hp : p < N) (hr : r < 4) : ∀ (d n k : Nat) (b : Int32), d < n → k + d = N → Bst (ql s p r) (rl s) k b → ∃ b', F_M_victim_5 n t (nI p) (nI r) b (nI k) = some (b', nI N) ∧ Bst (ql s p r) (rl s) N b' := by
  have hN := h.1.1
  have g2 := h.1.2.2.1
  intro d
  induction d with
  | zero =>
    intro n k b hn hk hB
    obtain ⟨n, rfl⟩ : ∃ k, n = k + 1 := ⟨n - 1, by omega⟩
    have : k = N := by omega
    subst this
    refine ⟨b, ?_, hB⟩
    unfold F_M_victim_5
    rw [g2, if_pos (by rw [nI_leI] <;> omega)]
  | succ d ih =>
    intro n k b hn hk hB
    obtain ⟨n, rfl⟩ : ∃ k, n = k + 1 := ⟨n - 1, by omega⟩
    have hle : ¬ nI N ≤ nI k := by rw [nI_leI] <;> omega
    have ep : gI t 1 0 p = gI s 4 p 0 := (h.2.1 p (by omega)).2.2.1.symm
    have ek : gI t 1 0 k = gI s 4 k 0 := (h.2.1 k (by omega)).2.2.1.symm
    have hu : gI t 14 0 (4 * k + r) = gI s 14 k r := (h.2.2.2.2.1 k (by omega) r hr).symm
    unfold F_M_victim_5
    rw [g2, if_neg hle]
    simp (disch := omega) only [inb_nI, sg_true, nI_clamp, sl_x, mul_4, nI_add, nI_1, ep, ek, hu]
    by_cases e : gI s 4 k 0 ≤ gI s 4 p 0
    · rw [if_pos e]
      exact ih n (k + 1) b (by omega) (by omega) (hB.skip fun z => by have := z.2; grind)
    · rw [if_neg e]
      by_cases e2 : gI s 14 k r ≤ 0
      · rw [if_pos e2]
        exact ih n (k + 1) b (by omega) (by omega) (hB.skip fun z => by have := z.1; grind)
      · rw [if_neg e2]
        have hq : ql s p r k := ⟨by grind, by grind⟩
        rcases id hB with ⟨rfl, hn1⟩ | ⟨q, hq', rfl, hQp, -⟩
        · rw [if_pos (by decide)]
          exact ih n (k + 1) (nI k) (by omega) (by omega) (hB.new (by omega) hq)
        · have eq : gI t 1 0 q = gI s 4 q 0 := (h.2.1 q (by omega)).2.2.1.symm
          simp (disch := omega) only [nI_lt0, if_false, inb_nI, sg_true, nI_clamp, eq]
          by_cases e3 : gI s 4 k 0 < gI s 4 q 0
          · rw [if_pos e3]
            exact ih n (k + 1) (nI q) (by omega) (by omega) (hB.keep (by omega) hq' (Or.inl e3))
          · rw [if_neg e3]
            refine ih n (k + 1) (nI k) (by omega) (by omega) (hB.take (by omega) hq' ?_ hq (rl_tr s))
            unfold rl
            by_cases e4 : gI s 4 q 0 = gI s 4 k 0
            · exact Or.inr ⟨e4, hq'⟩
            · exact Or.inl (by grind)
/-- the best of those from k on, and its priority -/
def Bd (s : kS) (p r N k : Nat) (b g : Int32) : Prop := (b = -1 ∧ g = gI s 4 p 0 ∧ ∀ q, k ≤ q → q < N → ¬ ql s p r q) ∨ ∃ m, k ≤ m ∧ m < N ∧ b = nI m ∧ g = gI s 4 m 0 ∧ ql s p r m ∧ ∀ q, k ≤ q → q < N → ql s p r q → q = m ∨ rl s m q
theorem loser_loop {s : kS} {N p r : Nat} (hN : N ≤ 12) (hp : p < N) (hr : r < 4) : ∀ (k n : Nat) (b g : Int32), k < n → k ≤ N → Bd s p r N k b g → ∃ (b' g' y : Int32), F_K_nextLoser_16 n s (nI r) b g (nI k - 1) = some (b', g', y) ∧ Bd s p r N 0 b' g' := by
  intro k
  induction k with
  | zero =>
    intro n b g hn hk hB
    obtain ⟨n, rfl⟩ : ∃ k, n = k + 1 := ⟨n - 1, by omega⟩
    refine ⟨b, g, nI 0 - 1, ?_, hB⟩
    unfold F_K_nextLoser_16
    rw [nI_0, if_pos (by decide)]
  | succ k ih =>
    intro n b g hn hk hB
    obtain ⟨n, rfl⟩ : ∃ k, n = k + 1 := ⟨n - 1, by omega⟩
    rw [nI_pred]
    unfold F_K_nextLoser_16
    have em : nI k + (-1) = nI k - 1 := by rw [Int32.sub_eq_add_neg]
    simp (disch := omega) only [nI_lt0, if_false, inb_nI, sg_true, nI_clamp, sl_x, em]
    by_cases e : gI s 14 k r ≤ 0
    · rw [if_pos e]
      refine ih n b g (by omega) (by omega) ?_
      have nq : ¬ ql s p r k := fun z => by have := z.1; grind
      rcases hB with ⟨h1, h2, h3⟩ | ⟨m, h1, h2, h3, h4, h5, h6⟩
      · refine Or.inl ⟨h1, h2, fun q hq hqN => ?_⟩
        by_cases z : q = k
        · subst z; exact nq
        · exact h3 q (by omega) hqN
      · refine Or.inr ⟨m, by omega, h2, h3, h4, h5, fun q hq hqN hQ => ?_⟩
        by_cases z : q = k
        · subst z; exact absurd hQ nq
        · exact h6 q (by omega) hqN hQ
    · rw [if_neg e]
      by_cases e2 : gI s 4 k 0 ≤ g
      · rw [if_pos e2]
        refine ih n b g (by omega) (by omega) ?_
        rcases hB with ⟨h1, h2, h3⟩ | ⟨m, h1, h2, h3, h4, h5, h6⟩
        · refine Or.inl ⟨h1, h2, fun q hq hqN => ?_⟩
          by_cases z : q = k
          · subst z
            intro w
            have := w.2
            rw [h2] at e2
            grind
          · exact h3 q (by omega) hqN
        · refine Or.inr ⟨m, by omega, h2, h3, h4, h5, fun q hq hqN hQ => ?_⟩
          by_cases z : q = k
          · subst z
            right
            unfold rl
            rw [h4] at e2
            by_cases e4 : gI s 4 q 0 = gI s 4 m 0
            · exact Or.inr ⟨e4, by omega⟩
            · exact Or.inl (by grind)
          · exact h6 q (by omega) hqN hQ
      · rw [if_neg e2]
        refine ih n (nI k) (gI s 4 k 0) (by omega) (by omega) ?_
        rcases hB with ⟨h1, h2, h3⟩ | ⟨m, h1, h2, h3, h4, h5, h6⟩
        · refine Or.inr ⟨k, by omega, by omega, rfl, rfl, ⟨by grind, by rw [h2] at e2; grind⟩, fun q hq hqN hQ => ?_⟩
          by_cases z : q = k
          · exact Or.inl z
          · exact absurd hQ (h3 q (by omega) hqN)
        · rw [h4] at e2
          have h52 := h5.2
          refine Or.inr ⟨k, by omega, by omega, rfl, rfl, ⟨by grind, by grind⟩, fun q hq hqN hQ => ?_⟩
          by_cases z : q = k
          · exact Or.inl z
          · right
            left
            rcases h6 q (by omega) hqN hQ with rfl | w
            · grind
            · unfold rl at w
              grind
theorem r_loser {N o c ev : Nat} {L : Nat → List Nat} {s t : kS} (h : Rel N o c ev L s t) {p r : Nat} (hp : p < N) (hr : r < 4) : ∃ b, F_K_nextLoser s p (nI r) = some b ∧ F_M_victim t (nI p) (nI r) = some b ∧ (b = -1 ∨ ∃ q, q < N ∧ b = nI q) := by
  have hN := h.1.1
  obtain ⟨b, h1, h2⟩ := victim_loop h hp hr N 1000 0 (-1) (by omega) (by omega) (Or.inl ⟨rfl, fun q hq => by omega⟩)
  obtain ⟨b', g', y, k1, k2⟩ := loser_loop (s := s) hN hp hr N 1000 (-1) (gI s 4 p 0) (by omega) (by omega) (Or.inl ⟨rfl, rfl, fun q hq hq2 => by omega⟩)
  have hB : Bst (ql s p r) (rl s) N b' := by
    rcases k2 with ⟨h1, h2, h3⟩ | ⟨m, h1, h2, h3, h4, h5, h6⟩
    · exact Or.inl ⟨h1, fun q hq => h3 q (by omega) hq⟩
    · exact Or.inr ⟨m, h2, h3, h5, fun q hq hQ => h6 q (by omega) hq hQ⟩
  have e := hB.uniq h2 (rl_as s)
  subst e
  rw [nI_0] at h1
  refine ⟨b', ?_, ?_, ?_⟩
  · unfold F_K_nextLoser
    rw [h.1.2.1]
    simp only [sl_x, k1, sb_some]
  · unfold F_M_victim
    rw [h1, sb_some]
  · rcases h2 with ⟨h1, -⟩ | ⟨q, h1, h2, -⟩
    · exact Or.inl h1
    · exact Or.inr ⟨q, h1, h2⟩
