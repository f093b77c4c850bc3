/-! The calls that make things ready. -/
theorem bz_ite (c : Prop) [Decidable c] : bz (if c then 1 else 0) = true := by
  split <;> decide
theorem ite_z (c : Prop) [Decidable c] : ((if c then (1 : Int32) else 0) = 0) = ¬ c := by
  by_cases h : c
  · rw [if_pos h]; simp [h]
  · rw [if_neg h]; simp [h]
theorem K_isRes (s : kS) (x : Int32) : F_K_isResource s x = some (if 0 ≤ x ∧ x ≤ 3 then 1 else 0) := by
  unfold F_K_isResource
  rw [K_within, sb_some, bz_ite, sg_true]
theorem K_isTank (s : kS) (x : Int32) : F_K_isTank s x = some (if 0 ≤ x ∧ x ≤ 3 then 1 else 0) := by
  unfold F_K_isTank
  rw [K_within, sb_some, bz_ite, sg_true]
def okI (o a b : Int32) : Int32 := if o = 0 then (if 0 ≤ a ∧ a ≤ 1000000 then 1 else 0) else if o = 1 then 1 else if o = 2 ∨ o = 3 then (if (0 ≤ a ∧ a ≤ 3) ∧ (1 ≤ b ∧ b ≤ 9) then 1 else 0) else if o = 4 ∨ o = 5 then (if (0 ≤ a ∧ a ≤ 3) ∧ (1 ≤ b ∧ b ≤ 1000) then 1 else 0) else if 6 ≤ o ∧ o ≤ 9 then (if 0 ≤ a ∧ a ≤ 11 then 1 else 0) else 0
theorem and2 (c d : Prop) [Decidable c] [Decidable d] : (if (if c then (1 : Int32) else 0) = 0 then some (0 : Int32) else if (if d then (1 : Int32) else 0) = 0 then some 0 else some 1) = some (if c ∧ d then 1 else 0) := by
  by_cases h1 : c <;> by_cases h2 : d <;> simp [h1, h2]
theorem K_isIns (s : kS) (o a b : Int32) : F_K_isInstruction s o a b = some (okI o a b) := by
  unfold F_K_isInstruction okI
  simp only [K_within, K_isRes, K_isTank, sb_some, bz_ite, sg_true, and2]
  by_cases e0 : o = 0
  · rw [if_pos e0, if_pos e0]
  rw [if_neg e0, if_neg e0]
  by_cases e1 : o = 1
  · rw [if_pos e1, if_pos e1]
  rw [if_neg e1, if_neg e1]
  by_cases e2 : o = 2
  · rw [if_pos e2, if_pos (Or.inl e2)]
  rw [if_neg e2]
  by_cases e3 : o = 3
  · rw [if_pos e3, if_pos (Or.inr e3)]
  rw [if_neg e3, if_neg (show ¬ (o = 2 ∨ o = 3) by grind)]
  by_cases e4 : o = 4
  · rw [if_pos e4, if_pos (Or.inl e4)]
  rw [if_neg e4]
  by_cases e5 : o = 5
  · rw [if_pos e5, if_pos (Or.inr e5)]
  rw [if_neg e5]
  have e45 : ¬ (o = 4 ∨ o = 5) := by grind
  rw [if_neg e45]
  by_cases e6 : o = 6
  · rw [if_pos e6, if_pos (show 6 ≤ o ∧ o ≤ 9 by grind)]
  rw [if_neg e6]
  by_cases e7 : o = 7
  · rw [if_pos e7, if_pos (show 6 ≤ o ∧ o ≤ 9 by grind)]
  rw [if_neg e7]
  by_cases e8 : o = 8
  · rw [if_pos e8, if_pos (show 6 ≤ o ∧ o ≤ 9 by grind)]
  rw [if_neg e8]
  by_cases e9 : o = 9
  · rw [if_pos e9, if_pos (show 6 ≤ o ∧ o ≤ 9 by grind)]
  rw [if_neg e9, if_neg (show ¬ (6 ≤ o ∧ o ≤ 9) by grind)]
theorem M_fits (t : kS) (o a b : Int32) (h : 0 ≤ o ∧ o ≤ 9) : F_M_fits t o a b = some (okI o a b) := by
  unfold F_M_fits okI
  simp only [M_within, sb_some, bz_ite, sg_true, and2]
  by_cases e0 : o = 0
  · rw [if_pos e0, if_pos e0]
  rw [if_neg e0, if_neg e0]
  by_cases e1 : o = 1
  · rw [if_pos e1, if_pos e1]
  rw [if_neg e1, if_neg e1]
  by_cases e2 : o = 2 ∨ o = 3
  · rw [if_pos e2, if_neg (show ¬ 3 < o by grind)]
  rw [if_neg e2, if_pos (show 3 < o by grind)]
  by_cases e4 : o = 4 ∨ o = 5
  · rw [if_pos e4, if_neg (show ¬ 5 < o by grind)]
  rw [if_neg e4, if_pos (show 5 < o by grind), if_pos (show 6 ≤ o ∧ o ≤ 9 by grind)]
theorem okI_out {o a b : Int32} (h : ¬ (0 ≤ o ∧ o ≤ 9)) : okI o a b = 0 := by
  unfold okI
  rw [if_neg (by grind), if_neg (by grind), if_neg (by grind), if_neg (by grind), if_neg (by grind)]
theorem okI_v {o a b : Int32} (h : ¬ okI o a b = 0) : vI o a := by
  unfold okI at h
  unfold vI
  repeat' split at h
  all_goals grind
theorem r_process {N o c ev : Nat} {L : Nat → List Nat} {s t : kS} (h : Rel N o c ev L s t) (x1 x2 x3 : Int32) : ∃ (b : Int32) (s' t' : kS) (N' : Nat), F_K_process s x1 x2 x3 = some (b, s') ∧ F_M_process t x1 x2 x3 = some (b, t') ∧ Rel N' o c ev L s' t' := by
  have hN := h.1.1
  have g1 := h.1.2.1
  have g2 := h.1.2.2.1
  unfold F_K_process F_M_process
  simp only [K_within, sb_some, g1, g2, ite_z]
  by_cases h12 : N = 12
  · subst h12
    rw [if_pos (by rw [le_12] <;> omega), if_pos (show nI 12 = 12 from rfl)]
    exact ⟨_, _, _, _, rfl, rfl, h⟩
  rw [if_neg (by rw [le_12] <;> omega), if_neg (show ¬ nI N = 12 by rw [show (12 : Int32) = nI 12 from rfl, nI_eq] <;> omega)]
  by_cases c1 : -4 ≤ x1 ∧ x1 ≤ 4
  · rw [if_neg (fun z => z c1), if_neg (show ¬ x1 < -4 by grind), if_neg (show ¬ 4 < x1 by grind)]
    by_cases c2 : 1 ≤ x2 ∧ x2 ≤ 9
    · rw [if_neg (fun z => z c2), if_neg (show ¬ x2 < 1 by grind), if_neg (show ¬ 9 < x2 by grind)]
      by_cases c3 : 0 ≤ x3 ∧ x3 ≤ 10
      · rw [if_neg (fun z => z c3), if_neg (show ¬ x3 < 0 by grind), if_pos c3.2]
        have i1 : inb (nI N) 12 = true := inb_nI (by omega) (by omega)
        have i2 : (nI N).toNatClampNeg = N := nI_clamp (by omega)
        obtain ⟨⟨-, -, -, g3, g4, g5, g6, g7, g8⟩, hQ, hO, hW, hU, hV, hE, hI, hD, hFr, ⟨l1, l2, l3, l4, l5, l6⟩, hS, hR, hK, hT⟩ := h
        obtain ⟨f7, f10, f3, f14⟩ := hFr N (by omega) (by omega)
        let s' : kS := sI (sI (sI (sI s 4 N 0 x1) 5 N 0 x2) 6 N 0 x3) 0 0 0 (nI (N + 1))
        let t' : kS := sI (sI (sI (sI (sI t 1 0 N x1) 2 0 N x2) 3 0 N x3) 8 0 N (-1)) 30 0 0 (nI (N + 1))
        have s4 : ∀ q, gI s' 4 q 0 = if q = N then x1 else gI s 4 q 0 := fun q => by simp [s', gI_sI]
        have s5 : ∀ q, gI s' 5 q 0 = if q = N then x2 else gI s 5 q 0 := fun q => by simp [s', gI_sI]
        have s6 : ∀ q, gI s' 6 q 0 = if q = N then x3 else gI s 6 q 0 := fun q => by simp [s', gI_sI]
        have t1 : ∀ q, gI t' 1 0 q = if q = N then x1 else gI t 1 0 q := fun q => by simp [t', gI_sI]
        have t2 : ∀ q, gI t' 2 0 q = if q = N then x2 else gI t 2 0 q := fun q => by simp [t', gI_sI]
        have t3 : ∀ q, gI t' 3 0 q = if q = N then x3 else gI t 3 0 q := fun q => by simp [t', gI_sI]
        have t8 : ∀ q, gI t' 8 0 q = if q = N then -1 else gI t 8 0 q := fun q => by simp [t', gI_sI]
        refine ⟨nI N, s', t', N + 1, ?_, ?_, ⟨⟨by omega, gI_self .., gI_self .., g3, g4, g5, g6, g7, g8⟩, ?_, hO, hW, hU, ?_, ?_, hI, ?_, ?_, ⟨l1, ?_, ?_, ?_, l5, ?_⟩, ?_, hR, hK, hT⟩⟩
        · have e0 : gI (sI (sI (sI s 4 N 0 x1) 5 N 0 x2) 6 N 0 x3) 0 0 0 = nI N := g1
          have e2 : gI (sI (sI (sI (sI s 4 N 0 x1) 5 N 0 x2) 6 N 0 x3) 0 0 0 (nI (N + 1))) 2 N 0 = nI N := (hQ N (by omega)).1
          simp only [i1, i2, sg_true, sl_x, e0, nI_1, e2]
          rfl
        · have e1 : gI (sI t 1 0 N x1) 30 0 0 = nI N := g2
          have e2 : gI (sI (sI t 1 0 N x1) 2 0 N x2) 30 0 0 = nI N := g2
          have e3 : gI (sI (sI (sI t 1 0 N x1) 2 0 N x2) 3 0 N x3) 30 0 0 = nI N := g2
          have e4 : gI (sI (sI (sI (sI t 1 0 N x1) 2 0 N x2) 3 0 N x3) 8 0 N (-1)) 30 0 0 = nI N := g2
          simp only [i1, i2, sg_true, sl_x, e1, e2, e3, e4, nI_1, gI_self, nI_pred]
          rfl
        · intro q hq
          rw [s4, s6, t1, t3]
          obtain ⟨a1, a2, a3, a4⟩ := hQ q hq
          refine ⟨a1, a2, ?_, ?_⟩
          · rw [a3]
          · rw [a4]
        · intro q hq
          obtain ⟨ln, sp, v1, v2, v3, v4, v5, v6, v7, v8⟩ := hV q hq
          refine ⟨ln, sp, v1, v2, v3, v4, ?_, v6, v7, v8⟩
          rw [s6]
          by_cases e : q = N
          · rw [if_pos e]
            obtain ⟨j, hj, e⟩ := nI_of (x := x3) (by grind)
            refine ⟨j, ?_, e⟩
            have := c3.2
            rw [e, show (10 : Int32) = nI 10 from rfl, nI_leI hj (by omega)] at this
            exact this
          · rw [if_neg e]
            exact v5
        · intro q hq
          by_cases e : q = N
          · subst e
            refine Or.inr ⟨f10, ?_⟩
            rw [t8, if_pos rfl]
          · rw [t8, if_neg e]
            exact hE q (by omega)
        · intro q hq
          rw [s5, t2]
          by_cases e : q = N
          · subst e
            rw [if_pos rfl, if_pos rfl]
            refine ⟨rfl, fun _ => ?_⟩
            obtain ⟨j, hj, e⟩ := nI_of (x := x2) (by grind)
            rw [e, show (9 : Int32) = nI 9 from rfl, show (1 : Int32) = nI 1 from rfl, nI_leI (by omega) hj, nI_leI hj (by omega)] at c2
            exact ⟨j, c2.1, c2.2, e⟩
          · rw [if_neg e, if_neg e]
            exact hD q (by omega)
        · intro q hq hq2
          exact hFr q (by omega) hq2
        · intro r hr q
          rw [l2 r hr q]
          constructor
          · rintro ⟨z1, z2⟩
            exact ⟨by omega, z2⟩
          · rintro ⟨z1, z2⟩
            refine ⟨?_, z2⟩
            by_cases e : q = N
            · subst e
              have z3 : gI s 7 q 0 = 4 := z2.1
              rw [f7] at z3
              exact absurd z3 (by decide)
            · omega
        · intro q
          rw [l3 q]
          constructor
          · rintro ⟨z1, z2⟩
            exact ⟨by omega, z2⟩
          · rintro ⟨z1, z2⟩
            refine ⟨?_, z2⟩
            by_cases e : q = N
            · subst e
              have z3 : gI s 7 q 0 = 5 := z2
              rw [f7] at z3
              exact absurd z3 (by decide)
            · omega
        · intro r hr
          refine List.Pairwise.imp_of_mem ?_ (l4 r hr)
          intro a b ha hb z
          have ea := ((l2 r hr a).mp ha).1
          have eb := ((l2 r hr b).mp hb).1
          unfold bf at z ⊢
          rw [s4, s4, if_neg (by omega), if_neg (by omega)]
          exact z
        · intro q hq z
          by_cases e : q = N
          · subst e
            have z : gI s 7 q 0 = 4 ∨ gI s 7 q 0 = 5 := z
            rw [f7] at z
            exact absurd z (by decide)
          · exact l6 q (by omega) z
        · intro r hr
          have e : sS t' r N = sS t r N := sS_eq (t' := t') (t := t) (fun i => rfl) N
          show gI s 16 r 0 = sS t' r N + gI t 14 0 (4 * N + r)
          rw [e, f14 r hr, hS r hr]
          grind
      · rw [if_pos c3]
        refine ⟨_, _, _, N, rfl, ?_, h⟩
        by_cases z : x3 < 0
        · rw [if_pos z]
        · rw [if_neg z, if_neg (by grind)]
    · rw [if_pos c2]
      refine ⟨_, _, _, N, rfl, ?_, h⟩
      by_cases z : x2 < 1
      · rw [if_pos z]
      · rw [if_neg z, if_pos (by grind)]
  · rw [if_pos c1]
    refine ⟨_, _, _, N, rfl, ?_, h⟩
    by_cases z : x1 < -4
    · rw [if_pos z]
    · rw [if_neg z, if_pos (by grind)]
