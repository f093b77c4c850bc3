def kEnter (s : kS) (p : Nat) (st d : Int32) : kS := sL (sL (sL (sI (sI s 7 p 0 st) 10 p 0 1) 2 p 0 (gL s 0 0 0 + d.toInt64)) 3 p 0 (gL s 1 0 0)) 1 0 0 (gL s 1 0 0 + 1)
theorem K_enter (s : kS) (p : Nat) (st d : Int32) : F_K_enter s p st d = some (kEnter s p st d) := rfl
def mEnter (t : kS) (p : Nat) (st : Int32) (w : Int64) : kS := sI (sI (sL (sI t 6 0 p st) 7 0 p w) 8 0 p (gI t 31 0 0)) 31 0 0 (gI t 31 0 0 + 1)
theorem M_enter (t : kS) {p : Nat} (hp : p < 12) (st : Int32) (w : Int64) : F_M_enter t (nI p) st w = some (mEnter t p st w) := by
  unfold F_M_enter
  simp (disch := omega) only [inb_nI, sg_true, nI_clamp, sl_x]
  rfl
theorem Af.rf (p : Nat) (s : kS) : Af p s s := ⟨fun _ _ _ _ _ _ _ _ _ _ => rfl, fun _ _ => ⟨rfl, rfl, rfl, rfl, rfl⟩, fun _ _ _ _ _ _ => rfl⟩
theorem Bf.rf (p : Nat) (t : kS) : Bf p t t := ⟨fun _ _ _ _ _ _ _ _ => rfl, fun _ _ => ⟨rfl, rfl, rfl, rfl⟩, fun _ _ _ _ => rfl⟩
theorem Af.tr {p : Nat} {s u v : kS} (h : Af p s u) (k : Af p u v) : Af p s v := ⟨fun a b c h1 h2 h3 h4 h5 h6 h7 => (k.1 a b c h1 h2 h3 h4 h5 h6 h7).trans (h.1 a b c h1 h2 h3 h4 h5 h6 h7), fun q hq => ⟨(k.2.1 q hq).1.trans (h.2.1 q hq).1, (k.2.1 q hq).2.1.trans (h.2.1 q hq).2.1, (k.2.1 q hq).2.2.1.trans (h.2.1 q hq).2.2.1, (k.2.1 q hq).2.2.2.1.trans (h.2.1 q hq).2.2.2.1, (k.2.1 q hq).2.2.2.2.trans (h.2.1 q hq).2.2.2.2⟩, fun a b c h1 h2 h3 => (k.2.2 a b c h1 h2 h3).trans (h.2.2 a b c h1 h2 h3)⟩
theorem Bf.tr {p : Nat} {s u v : kS} (h : Bf p s u) (k : Bf p u v) : Bf p s v := ⟨fun a b c h1 h2 h3 h4 h5 => (k.1 a b c h1 h2 h3 h4 h5).trans (h.1 a b c h1 h2 h3 h4 h5), fun q hq => ⟨(k.2.1 q hq).1.trans (h.2.1 q hq).1, (k.2.1 q hq).2.1.trans (h.2.1 q hq).2.1, (k.2.1 q hq).2.2.1.trans (h.2.1 q hq).2.2.1, (k.2.1 q hq).2.2.2.trans (h.2.1 q hq).2.2.2⟩, fun a b c h1 => (k.2.2 a b c h1).trans (h.2.2 a b c h1)⟩
theorem Af_enter (s : kS) (p : Nat) (st d : Int32) : Af p s (kEnter s p st d) := by
  refine ⟨fun k j i h5 h7 h8 h9 h10 h18 h19 => ?_, fun q hq => ?_, fun k j i h1 h2 h3 => ?_⟩
  · simp [kEnter, gI_sI, gI_sL, h7, h10]
  · simp [kEnter, gI_sI, gI_sL, hq]
  · simp only [kEnter, gL_sL, gL_sI]
    rw [if_neg (fun q => h1 q.1), if_neg (fun q => h3 ⟨q.1, q.2.1⟩), if_neg (fun q => h2 ⟨q.1, q.2.1⟩)]
theorem Bf_enter (t : kS) (p : Nat) (st : Int32) (w : Int64) : Bf p t (mEnter t p st w) := by
  refine ⟨fun k j i h2 h5 h6 h8 h31 => ?_, fun q hq => ?_, fun k j i h => ?_⟩
  · simp [mEnter, gI_sI, gI_sL, h6, h8, h31]
  · simp [mEnter, gI_sI, gI_sL, hq]
  · simp only [mEnter, gL_sL, gL_sI]
    rw [if_neg (fun q => h ⟨q.1, q.2.2⟩)]
theorem LI_enter {s : kS} {p : Nat} {st d : Int32} {r : Nat} {l : List Nat} (h : LI s r l) : LI (kEnter s p st d) r l := h
theorem rel_enter {N o c ev : Nat} {L : Nat → List Nat} {s t s1 t1 : kS} {p : Nat} {st d : Int32} {w : Int64} (h : Rel N o c ev L s t) (hp : p < N) (hA : Af p s s1) (hB : Bf p t t1) (he : gL s1 1 0 0 = gL s 1 0 0) (hf : gI t1 31 0 0 = gI t 31 0 0) (hL : ∀ r, r < 5 → LI s1 r (Lo p L r)) (hpl : gI s1 8 p 0 = gI t1 5 0 p ∧ ∃ sp, sp ≤ 10 ∧ gI s1 8 p 0 = nI sp) (hrd : gI s1 5 p 0 = gI t1 2 0 p ∧ ∃ k : Nat, 1 ≤ k ∧ k ≤ 9 ∧ gI s1 5 p 0 = nI k) (hst : st = 1 ∨ st = 2) (ho : o + 1 < 2 ^ 31) (hw : gL s 0 0 0 + d.toInt64 = w) : Rel N (o + 1) c ev (Lo p L) (kEnter s1 p st d) (mEnter t1 p st w) ∧ St s (kEnter s1 p st d) t (mEnter t1 p st w) ∧ (∀ q, q ≠ p → Kp q s (kEnter s1 p st d)) := by
  have hG := h.1
  have e1 : gL s1 1 0 0 = lN o := he.trans hG.2.2.2.2.1
  have f1 : gI t1 31 0 0 = nI o := hf.trans hG.2.2.2.2.2.1
  have c1 : gL s1 0 0 0 = gL s 0 0 0 := hA.2.2 0 0 0 (by decide) (fun q => by simp at q) (fun q => by simp at q)
  have k7 : gI (kEnter s1 p st d) 7 p 0 = st := by simp [kEnter, gI_sI, gI_sL]
  have k8 : gI (kEnter s1 p st d) 8 p 0 = gI s1 8 p 0 := rfl
  have k5 : gI (kEnter s1 p st d) 5 p 0 = gI s1 5 p 0 := rfl
  have k10 : gI (kEnter s1 p st d) 10 p 0 = 1 := by simp [kEnter, gI_sI, gI_sL]
  have k3 : gL (kEnter s1 p st d) 3 p 0 = lN o := by simp [kEnter, gL_sI, gL_sL, e1]
  have k2 : gL (kEnter s1 p st d) 2 p 0 = w := by simp [kEnter, gL_sI, gL_sL, c1, hw]
  have k1 : gL (kEnter s1 p st d) 1 0 0 = lN (o + 1) := by simp [kEnter, gL_sI, gL_sL, e1, lN_1]
  have m6 : gI (mEnter t1 p st w) 6 0 p = st := by simp [mEnter, gI_sI, gI_sL]
  have m5 : gI (mEnter t1 p st w) 5 0 p = gI t1 5 0 p := rfl
  have m2 : gI (mEnter t1 p st w) 2 0 p = gI t1 2 0 p := rfl
  have m8 : gI (mEnter t1 p st w) 8 0 p = nI o := by simp [mEnter, gI_sI, gI_sL, f1]
  have m7 : gL (mEnter t1 p st w) 7 0 p = w := by simp [mEnter, gL_sI, gL_sL]
  have m31 : gI (mEnter t1 p st w) 31 0 0 = nI (o + 1) := by simp [mEnter, gI_sI, f1, nI_1]
  refine rel_gen (o' := o + 1) h hp (hA.tr (Af_enter s1 p st d)) (hB.tr (Bf_enter t1 p st w)) ?_ ⟨k1, m31, by omega, ho⟩ hL
  unfold NF
  rw [k7, k8, k5, k10, k3, k2, m6, m5, m2, m8, m7]
  refine ⟨⟨rfl, hpl.1, ?_, ?_⟩, ?_, ?_, hpl.2, Or.inl ⟨rfl, hst, o, by omega, rfl, rfl, rfl⟩, hrd.1, fun _ => hrd.2⟩
  all_goals rcases hst with rfl | rfl <;> decide
theorem mem_q {N o c ev : Nat} {L : Nat → List Nat} {s t : kS} (h : Rel N o c ev L s t) {r p : Nat} (hr : r < 5) (hp : p ∈ L r) : p < N ∧ (r < 4 → qd s r p) ∧ (r = 4 → gI s 7 p 0 = 5) := by
  have hL := h.2.2.2.2.2.2.2.2.2.2.1
  by_cases h4 : r = 4
  · subst h4
    have := (hL.2.2.1 p).mp hp
    exact ⟨this.1, fun z => by omega, fun _ => this.2⟩
  · have := (hL.2.1 r (by omega) p).mp hp
    exact ⟨this.1, fun _ => this.2, fun z => by omega⟩
theorem mem_one {N o c ev : Nat} {L : Nat → List Nat} {s t : kS} (h : Rel N o c ev L s t) {r r' p : Nat} (hr : r < 5) (hr' : r' < 5) (hp : p ∈ L r) (hp' : p ∈ L r') : r' = r := by
  obtain ⟨-, a1, a2⟩ := mem_q h hr hp
  obtain ⟨-, b1, b2⟩ := mem_q h hr' hp'
  by_cases h1 : r = 4
  · by_cases h2 : r' = 4
    · omega
    · have e1 := a2 h1
      have e2 := (b1 (by omega)).1
      rw [e1] at e2
      exact absurd e2 (by decide)
  · by_cases h2 : r' = 4
    · have e1 := b2 h2
      have e2 := (a1 (by omega)).1
      rw [e1] at e2
      exact absurd e2 (by decide)
    · have e1 := (a1 (by omega)).2
      have e2 := (b1 (by omega)).2
      rw [e1, nI_eq (by omega) (by omega)] at e2
      omega
theorem L_len {N o c ev : Nat} {L : Nat → List Nat} {s t : kS} (h : Rel N o c ev L s t) {r : Nat} (hr : r < 5) : (L r).Nodup ∧ (L r).length ≤ N ∧ (∀ p ∈ L r, p < 12) := by
  have hL := h.2.2.2.2.2.2.2.2.2.2.1
  have nd : (L r).Nodup := by
    by_cases h4 : r = 4
    · subst h4
      exact pw_nd (fun a b h1 h2 => by grind) hL.2.2.2.2.1
    · exact pw_nd (bf_as s t) (hL.2.2.2.1 r (by omega))
  have lt := fun p (hp : p ∈ L r) => (mem_q h hr hp).1
  exact ⟨nd, nd_len N _ nd lt, fun p hp => Nat.lt_of_lt_of_le (lt p hp) h.1.1⟩
theorem LI_other {s : kS} {r r' : Nat} {f : Nat → Int32} {v : Int32} {l : List Nat} (e : r' ≠ r) (h : LI s r' l) : LI (sI (sR s r f) 19 r 0 v) r' l := by
  unfold LI at h ⊢
  simpa [gI_sI, gI_sR, e] using h
theorem LI_this {s : kS} {r : Nat} {f : Nat → Int32} {l : List Nat} (h : ∀ i p : Nat, l[i]? = some p → f i = nI p) : LI (sI (sR s r f) 19 r 0 (nI l.length)) r l := by
  unfold LI
  simp [gI_sI, gI_sR]
  exact h
theorem Af_line (s : kS) (p r : Nat) (f : Nat → Int32) (v : Int32) : Af p s (sI (sR s r f) 19 r 0 v) := by
  refine ⟨fun k j i h5 h7 h8 h9 h10 h18 h19 => ?_, fun q hq => ⟨rfl, rfl, rfl, rfl, rfl⟩, fun k j i h1 h2 h3 => rfl⟩
  simp [gI_sI, gI_sR, h18, h19]
theorem line_drop {N o c ev : Nat} {L : Nat → List Nat} {s t : kS} (h : Rel N o c ev L s t) {r p : Nat} (hr : r < 5) (hp : p ∈ L r) : ∃ (f : Nat → Int32) (v : Int32), F_L_drop s r (nI p) = some (sI (sR s r f) 19 r 0 v) ∧ ∀ r', r' < 5 → LI (sI (sR s r f) 19 r 0 v) r' (Lo p L r') := by
  obtain ⟨nd, len, lt⟩ := L_len h hr
  have hL := h.2.2.2.2.2.2.2.2.2.2.1
  obtain ⟨f, h1, h2⟩ := L_drop s r p (L r) (lt p hp) (by have := h.1.1; omega) lt (hL.1 r hr)
  refine ⟨f, _, h1, fun r' hr' => ?_⟩
  by_cases e : r' = r
  · subst e
    exact LI_this h2
  · rw [Lo_not (fun z => e (mem_one h hr hr' hp z))]
    exact LI_other e (hL.1 r' hr')
