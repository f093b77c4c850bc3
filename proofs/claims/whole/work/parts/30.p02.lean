/-! The state of the one and the state of the other: what they have in common. -/
def RG (N o c : Nat) (s t : kS) : Prop := N ≤ 12 ∧ gI s 0 0 0 = nI N ∧ gI t 30 0 0 = nI N ∧ gL s 0 0 0 = gL t 0 0 0 ∧ gL s 1 0 0 = lN o ∧ gI t 31 0 0 = nI o ∧ gI t 32 0 0 = nI c ∧ o < 2 ^ 31 ∧ c < 2 ^ 31
def RQ (s t : kS) : Prop := ∀ p, p < 12 → gI s 2 p 0 = nI p ∧ gI s 3 p 0 = gI t 4 0 p ∧ gI s 4 p 0 = gI t 1 0 p ∧ gI s 6 p 0 = gI t 3 0 p
def RO (s t : kS) : Prop := ∀ p, p < 12 → ∀ i, i < 10 → gI s 11 p i = gI t 11 0 (10 * p + i) ∧ gI s 12 p i = gI t 12 0 (10 * p + i) ∧ gI s 13 p i = gI t 13 0 (10 * p + i)
def RW (s t : kS) : Prop := ∀ p, p < 12 → gI s 7 p 0 = gI t 6 0 p ∧ gI s 8 p 0 = gI t 5 0 p ∧ 0 ≤ gI s 7 p 0 ∧ gI s 7 p 0 ≤ 7
def RU (s t : kS) : Prop := ∀ p, p < 12 → ∀ r, r < 4 → gI s 14 p r = gI t 14 0 (4 * p + r)
/-- an instruction's operands are within their bounds -/
def vI (o a : Int32) : Prop := 0 ≤ o ∧ o ≤ 9 ∧ (2 ≤ o → o ≤ 5 → 0 ≤ a ∧ a ≤ 3) ∧ (6 ≤ o → 0 ≤ a ∧ a ≤ 11)
def RV1 (s : kS) (p ln sp : Nat) : Prop := ln ≤ 10 ∧ sp ≤ 10 ∧ gI s 3 p 0 = nI ln ∧ gI s 8 p 0 = nI sp ∧ (∃ h, h ≤ 10 ∧ gI s 6 p 0 = nI h) ∧ (∀ i, i < ln → vI (gI s 11 p i) (gI s 12 p i)) ∧ (gI s 7 p 0 = 4 → 1 ≤ sp ∧ sp ≤ ln ∧ gI s 9 p 0 = nI (sp - 1) ∧ gI s 11 p (sp - 1) = 2) ∧ (gI s 7 p 0 = 5 → 1 ≤ sp ∧ sp ≤ ln ∧ gI s 9 p 0 = nI (sp - 1) ∧ 4 ≤ gI s 11 p (sp - 1) ∧ gI s 11 p (sp - 1) ≤ 6)
def RV (s : kS) : Prop := ∀ p, p < 12 → ∃ ln sp : Nat, RV1 s p ln sp
def RE (N o : Nat) (s t : kS) : Prop := ∀ p, p < N → (gI s 10 p 0 = 1 ∧ (gI s 7 p 0 = 1 ∨ gI s 7 p 0 = 2) ∧ ∃ e, e < o ∧ gI t 8 0 p = nI e ∧ gL s 3 p 0 = lN e ∧ gL s 2 p 0 = gL t 7 0 p) ∨ (gI s 10 p 0 = 0 ∧ gI t 8 0 p = -1)
def RI (s t : kS) : Prop := ∀ p, p < 12 → gI s 7 p 0 = 4 → gL s 4 p 0 = gL t 10 0 p
def RD (N : Nat) (s t : kS) : Prop := ∀ p, p < N → gI s 5 p 0 = gI t 2 0 p ∧ (gI s 7 p 0 ≤ 5 → ∃ k : Nat, 1 ≤ k ∧ k ≤ 9 ∧ gI s 5 p 0 = nI k)
def RF (N : Nat) (s t : kS) : Prop := ∀ p, N ≤ p → p < 12 → gI s 7 p 0 = 0 ∧ gI s 10 p 0 = 0 ∧ gI s 3 p 0 = 0 ∧ ∀ r, r < 4 → gI t 14 0 (4 * p + r) = 0
/-- p stands before q in a resource's line -/
def bf (s t : kS) (p q : Nat) : Prop := gI s 4 p 0 < gI s 4 q 0 ∨ (gI s 4 p 0 = gI s 4 q 0 ∧ gI t 9 0 p < gI t 9 0 q)
/-- p is queued for r -/
def qd (s : kS) (r p : Nat) : Prop := gI s 7 p 0 = 4 ∧ gI s 12 p (gI s 9 p 0).toNatClampNeg = nI r
def RL (N c : Nat) (L : Nat → List Nat) (s t : kS) : Prop := (∀ r, r < 5 → LI s r (L r)) ∧ (∀ r, r < 4 → ∀ p, p ∈ L r ↔ p < N ∧ qd s r p) ∧ (∀ p, p ∈ L 4 ↔ p < N ∧ gI s 7 p 0 = 5) ∧ (∀ r, r < 4 → (L r).Pairwise (bf s t)) ∧ (L 4).Pairwise (fun p q => gI t 9 0 p < gI t 9 0 q) ∧ (∀ p, p < N → gI s 7 p 0 = 4 ∨ gI s 7 p 0 = 5 → ∃ k, k < c ∧ gI t 9 0 p = nI k)
/-- the units of r that the first n processes have -/
def sS (t : kS) (r : Nat) : Nat → Int32
  | 0 => 0
  | n + 1 => sS t r n + gI t 14 0 (4 * n + r)
def RS (N : Nat) (s t : kS) : Prop := ∀ r, r < 4 → gI s 16 r 0 = sS t r N
def RR (s t : kS) : Prop := ∀ r, r < 4 → gI s 15 r 0 = gI t 15 0 r ∧ gI s 17 r 0 = gI t 16 0 r ∧ gL s 5 r 0 = gL t 17 0 r ∧ gL s 6 r 0 = gL t 18 0 r
def RK (s t : kS) : Prop := ∀ r, r < 4 → gI s 20 r 0 = gI t 19 0 r ∧ gI s 21 r 0 = gI t 20 0 r
def RT (ev : Nat) (s t : kS) : Prop := gI t 33 0 0 = nI ev ∧ ev < 2 ^ 30 ∧ gI s 24 0 0 = nI (min ev 64) ∧ ∃ la : Nat, la < 64 ∧ gI s 23 0 0 = nI la ∧ ∀ k, k < 64 → k < ev → gI s 22 0 ((la + 64 - k) % 64) = gI t 22 0 k
def Rel (N o c ev : Nat) (L : Nat → List Nat) (s t : kS) : Prop := RG N o c s t ∧ RQ s t ∧ RO s t ∧ RW s t ∧ RU s t ∧ RV s ∧ RE N o s t ∧ RI s t ∧ RD N s t ∧ RF N s t ∧ RL N c L s t ∧ RS N s t ∧ RR s t ∧ RK s t ∧ RT ev s t
/-- what a call leaves of a process -/
def Kp (q : Nat) (s s' : kS) : Prop := gI s' 7 q 0 = gI s 7 q 0 ∧ gI s' 8 q 0 = gI s 8 q 0 ∧ gI s' 10 q 0 = gI s 10 q 0 ∧ gI s' 5 q 0 = gI s 5 q 0
/-- what no call inside an event changes -/
def St (s s' t t' : kS) : Prop := (∀ p, gI s' 3 p 0 = gI s 3 p 0) ∧ (∀ p, gI s' 4 p 0 = gI s 4 p 0) ∧ (∀ p i, gI s' 11 p i = gI s 11 p i) ∧ (∀ p i, gI s' 12 p i = gI s 12 p i) ∧ (∀ p i, gI s' 13 p i = gI s 13 p i) ∧ gL s' 0 0 0 = gL s 0 0 0 ∧ (∀ i, gI s' 1 0 i = gI s 1 0 i) ∧ (∀ i, gI t' 21 0 i = gI t 21 0 i)
theorem St.rf (s t : kS) : St s s t t := ⟨fun _ => rfl, fun _ => rfl, fun _ _ => rfl, fun _ _ => rfl, fun _ _ => rfl, rfl, fun _ => rfl, fun _ => rfl⟩
theorem St.tr {s u v t u' v' : kS} (h : St s u t u') (k : St u v u' v') : St s v t v' := ⟨fun p => (k.1 p).trans (h.1 p), fun p => (k.2.1 p).trans (h.2.1 p), fun p i => (k.2.2.1 p i).trans (h.2.2.1 p i), fun p i => (k.2.2.2.1 p i).trans (h.2.2.2.1 p i), fun p i => (k.2.2.2.2.1 p i).trans (h.2.2.2.2.1 p i), k.2.2.2.2.2.1.trans h.2.2.2.2.2.1, fun i => (k.2.2.2.2.2.2.1 i).trans (h.2.2.2.2.2.2.1 i), fun i => (k.2.2.2.2.2.2.2 i).trans (h.2.2.2.2.2.2.2 i)⟩
theorem Kp.rf (q : Nat) (s : kS) : Kp q s s := ⟨rfl, rfl, rfl, rfl⟩
theorem Kp.tr {q : Nat} {s u v : kS} (h : Kp q s u) (k : Kp q u v) : Kp q s v := ⟨k.1.trans h.1, k.2.1.trans h.2.1, k.2.2.1.trans h.2.2.1, k.2.2.2.trans h.2.2.2⟩
/-- what the reference answers of a line: its first one -/
def hd1 : List Nat → Int32
  | [] => -1
  | p :: _ => nI p
theorem M_done {t : kS} {p sp : Nat} (hp : p < 12) (h : gI t 5 0 p = nI sp) (h1 : 1 ≤ sp) : F_M_done t (nI p) = some (nI (10 * p + (sp - 1))) := by
  unfold F_M_done
  simp (disch := omega) only [inb_nI, sg_true, nI_clamp, h, mul_10, nI_add, nI_sub1]
  congr 2
  omega
theorem M_seized_loop {t : kS} {r N : Nat} (hr : r < 4) (hN : N ≤ 12) (hc : gI t 30 0 0 = nI N) : ∀ (d n k : Nat), d < n → k + d = N → F_M_seized_4 n t (nI r) (sS t r k) (nI k) = some (sS t r N, nI N) := by
  intro d
  induction d with
  | zero =>
    intro n k hn h
    obtain ⟨n, rfl⟩ : ∃ k, n = k + 1 := ⟨n - 1, by omega⟩
    have : k = N := by omega
    subst this
    unfold F_M_seized_4
    rw [hc, if_pos (by rw [nI_leI] <;> omega)]
  | succ d ih =>
    intro n k hn h
    obtain ⟨n, rfl⟩ : ∃ k, n = k + 1 := ⟨n - 1, by omega⟩
    unfold F_M_seized_4
    rw [hc, if_neg (by rw [nI_leI] <;> omega)]
    simp (disch := omega) only [mul_4, nI_add, inb_nI, sg_true, nI_clamp, sl_x, nI_1]
    exact ih n (k + 1) (by omega) (by omega)
theorem M_seized {t : kS} {r N : Nat} (hr : r < 4) (hN : N ≤ 12) (hc : gI t 30 0 0 = nI N) : F_M_seized t (nI r) = some (sS t r N) := by
  unfold F_M_seized
  have := M_seized_loop hr hN hc N 1000 0 (by omega) (by omega)
  rw [nI_0] at this
  rw [show sS t r 0 = 0 from rfl] at this
  rw [this]
  rfl
theorem M_rest {t : kS} {r N : Nat} (hr : r < 4) (hN : N ≤ 12) (hc : gI t 30 0 0 = nI N) : F_M_rest t (nI r) = some (gI t 15 0 r - sS t r N) := by
  unfold F_M_rest
  simp (disch := omega) only [inb_nI, sg_true, nI_clamp, M_seized hr hN hc, sb_some]
