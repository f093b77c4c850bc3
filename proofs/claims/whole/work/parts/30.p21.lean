/-! The trace; an event; run. -/
def sV (t : kS) (f : Nat → Int32) : kS := (fun a b c => if a = 22 ∧ b = 0 then f c else t.1 a b c, t.2)
theorem gI_sV (t : kS) (f : Nat → Int32) (a b c : Nat) : gI (sV t f) a b c = if a = 22 ∧ b = 0 then f c else gI t a b c := rfl
theorem sV_id (t : kS) : sV t (fun i => gI t 22 0 i) = t := by
  refine Prod.ext ?_ rfl
  funext a b c
  show (if a = 22 ∧ b = 0 then gI t 22 0 c else t.1 a b c) = t.1 a b c
  split
  · rename_i h; rw [h.1, h.2]; rfl
  · rfl
theorem sI_sV (t : kS) (f : Nat → Int32) (i : Nat) (v : Int32) : sI (sV t f) 22 0 i v = sV t (fun x => if x = i then v else f x) := by
  refine Prod.ext ?_ rfl
  funext a b c
  show (if a = 22 ∧ b = 0 ∧ c = i then v else if a = 22 ∧ b = 0 then f c else t.1 a b c) = (if a = 22 ∧ b = 0 then (if c = i then v else f c) else t.1 a b c)
  by_cases h1 : a = 22 ∧ b = 0
  · by_cases h2 : c = i <;> simp [h1, h2]
  · have : ¬ (a = 22 ∧ b = 0 ∧ c = i) := fun q => h1 ⟨q.1, q.2.1⟩
    simp [h1, this]
theorem sI_sVc (t : kS) (f : Nat → Int32) {k : Nat} (j i : Nat) (v : Int32) (hk : k ≠ 22) : sI (sV t f) k j i v = sV (sI t k j i v) f := by
  refine Prod.ext ?_ rfl
  funext a b c
  show (if a = k ∧ b = j ∧ c = i then v else if a = 22 ∧ b = 0 then f c else t.1 a b c) = (if a = 22 ∧ b = 0 then f c else if a = k ∧ b = j ∧ c = i then v else t.1 a b c)
  by_cases h1 : a = 22 ∧ b = 0
  · have : ¬ (a = k ∧ b = j ∧ c = i) := fun q => hk (q.1 ▸ h1.1)
    simp [h1, this]
    intro h
    exact absurd h.symm hk
  · simp [h1]
theorem sI_c (s : kS) {k k' : Nat} (j i j' i' : Nat) (v v' : Int32) (h : k ≠ k') : sI (sI s k j i v) k' j' i' v' = sI (sI s k' j' i' v') k j i v := by
  refine Prod.ext ?_ rfl
  funext a b c
  show (if a = k' ∧ b = j' ∧ c = i' then v' else if a = k ∧ b = j ∧ c = i then v else s.1 a b c) = (if a = k ∧ b = j ∧ c = i then v else if a = k' ∧ b = j' ∧ c = i' then v' else s.1 a b c)
  by_cases h1 : a = k ∧ b = j ∧ c = i
  · have h2 : ¬ (a = k' ∧ b = j' ∧ c = i') := fun q => h (h1.1.symm.trans q.1)
    rw [if_neg h2, if_pos h1, if_pos h1]
  · rw [if_neg h1, if_neg h1]
theorem shift_loop (t : kS) (x : Int32) : ∀ (k n : Nat) (f : Nat → Int32), k < n → k < 64 → ∃ f' : Nat → Int32, F_M_event_13 n (sV t f) x (nI k) = some (sV t f', nI 0) ∧ ∀ y, f' y = if 1 ≤ y ∧ y ≤ k then f (y - 1) else f y := by
  intro k
  induction k with
  | zero =>
    intro n f hn _
    obtain ⟨n, rfl⟩ : ∃ k, n = k + 1 := ⟨n - 1, by omega⟩
    refine ⟨f, ?_, fun y => by rw [if_neg (by omega)]⟩
    unfold F_M_event_13
    rw [nI_0, if_pos (by decide)]
  | succ k ih =>
    intro n f hn hk
    obtain ⟨n, rfl⟩ : ∃ k, n = k + 1 := ⟨n - 1, by omega⟩
    obtain ⟨f', h1, h2⟩ := ih n (fun y => if y = k + 1 then f k else f y) (by omega) (by omega)
    refine ⟨f', ?_, ?_⟩
    · unfold F_M_event_13
      rw [if_neg (by rw [nI_le0 (by omega)]; omega)]
      simp (disch := omega) only [nI_sub1, nI_addm1, inb_nI, sg_true, nI_clamp, sl_x, sI_sV]
      rw [show gI (sV t f) 22 0 (k + 1 - 1) = f k by rw [gI_sV, if_pos ⟨rfl, rfl⟩]; rfl]
      exact h1
    · intro y
      rw [h2 y]
      by_cases h3 : 1 ≤ y ∧ y ≤ k
      · have hA : 1 ≤ y ∧ y ≤ k + 1 := by omega
        rw [if_pos h3, if_pos hA]
        show (if y - 1 = k + 1 then f k else f (y - 1)) = f (y - 1)
        rw [if_neg (by omega)]
      · rw [if_neg h3]
        by_cases h4 : y = k + 1
        · subst h4
          simp
        · simp only [h4, if_false]
          rw [if_neg (by omega)]
theorem rem64 : ∀ la, la < 64 → nI (la + 1) - nI (la + 1) / 64 * 64 = nI ((la + 1) % 64) := by decide +kernel
theorem C_add {s : kS} {x : Int32} {la m : Nat} (h1 : gI s 23 0 0 = nI la) (hla : la < 64) (h2 : gI s 24 0 0 = nI m) (hm : m ≤ 64) : F_C_add s x = some (sI (sI (sI s 23 0 0 (nI ((la + 1) % 64))) 22 0 ((la + 1) % 64) x) 24 0 0 (nI (min (m + 1) 64))) := by
  have hlt : (la + 1) % 64 < 64 := Nat.mod_lt _ (by decide)
  unfold F_C_add
  rw [h1, nI_1, rem64 la hla, sl_x, gI_self]
  simp (disch := omega) only [inb_nI, sg_true, nI_clamp, sl_x]
  rw [show gI (sI (sI s 23 0 0 (nI ((la + 1) % 64))) 22 0 ((la + 1) % 64) x) 24 0 0 = nI m from h2, nI_1]
  congr 2
  by_cases h3 : m = 64
  · subst h3
    decide +kernel
  · rw [if_neg (by rw [show (64 : Int32) = nI 64 from rfl, nI_ltI] <;> omega), Nat.min_eq_left (by omega)]
theorem rel_trace {N o c ev : Nat} {L : Nat → List Nat} {s t : kS} {x : Int32} {f : Nat → Int32} (h : Rel N o c ev L s t) (hev : ev + 1 < 2 ^ 30) (f0 : f 0 = x) (f1 : ∀ k, 1 ≤ k → k < 64 → f k = gI t 22 0 (k - 1)) : ∃ s', F_C_add s x = some s' ∧ Rel N o c (ev + 1) L s' (sI (sV t f) 33 0 0 (nI (ev + 1))) ∧ (∀ q, Kp q s s') := by
  obtain ⟨hG, hQ, hO, hW, hU, hV, hE, hI, hD, hFr, hL, hS, hR, hK, ⟨z1, z2, z3, la, z4, z5, z6⟩⟩ := h
  have e : ∀ r', sS (sI (sV t f) 33 0 0 (nI (ev + 1))) r' N = sS t r' N := fun r' => sS_eq (t' := sI (sV t f) 33 0 0 (nI (ev + 1))) (t := t) (fun i => rfl) N
  have hlt : (la + 1) % 64 < 64 := Nat.mod_lt _ (by decide)
  refine ⟨_, C_add (x := x) z5 z4 z3 (by omega), ⟨hG, hQ, hO, hW, hU, hV, hE, hI, hD, hFr, hL, fun r' hr' => by rw [e]; exact hS r' hr', hR, hK, ⟨?_, hev, ?_, (la + 1) % 64, hlt, ?_, ?_⟩⟩, fun q => Kp.rf q s⟩
  · exact gI_self ..
  · rw [gI_self]
    congr 1
    omega
  · show gI (sI s 23 0 0 (nI ((la + 1) % 64))) 23 0 0 = _
    exact gI_self ..
  · intro k hk hk2
    have a1 : gI (sI (sI (sI s 23 0 0 (nI ((la + 1) % 64))) 22 0 ((la + 1) % 64) x) 24 0 0 (nI (min (min ev 64 + 1) 64))) 22 0 (((la + 1) % 64 + 64 - k) % 64) = if ((la + 1) % 64 + 64 - k) % 64 = (la + 1) % 64 then x else gI s 22 0 (((la + 1) % 64 + 64 - k) % 64) := by
      simp [gI_sI]
    have a2 : gI (sI (sV t f) 33 0 0 (nI (ev + 1))) 22 0 k = f k := by simp [gI_sI, gI_sV]
    rw [a1, a2]
    by_cases k0 : k = 0
    · subst k0
      rw [if_pos (by omega), f0]
    · rw [if_neg (by omega), f1 k (by omega) hk, ← z6 (k - 1) (by omega) (by omega)]
      congr 1
      omega
theorem r_event {N o c ev q : Nat} {L : Nat → List Nat} {s t : kS} (h : Rel N o c ev L s t) (hq : q < N) (hl : gI s 10 q 0 = 1) (hev : ev + 1 < 2 ^ 30) (ho : o + 16644 < 2 ^ 31) (hc : c + 99 < 2 ^ 31) : ∃ (s' t' : kS) (o' c' : Nat) (L' : Nat → List Nat), (bd (F_K_begin s q) (fun r5 => bd (F_K_doTurn r5 q) (fun r8 => F_K_goOverConditions r8))) = some s' ∧ F_M_event t (nI q) = some t' ∧ Rel N o' c' (ev + 1) L' s' t' ∧ o' ≤ o + 16644 ∧ c' ≤ c + 99 := by
  have hN := h.1.1
  have hE := h.2.2.2.2.2.2.1 q hq
  have htime : gL s 2 q 0 = gL t 7 0 q ∧ (gI s 7 q 0 = 1 ∨ gI s 7 q 0 = 2) := by
    rcases hE with ⟨z1, z2, e, z3, z4, z5, z6⟩ | ⟨z1, z2⟩
    · exact ⟨z6, z2⟩
    · rw [hl] at z1; exact absurd z1 (by decide)
  have hc30 := h.1.2.2.1
  have h1 := rel_mv (w := gL s 2 q 0) h
  have hno := not_in h (p := q) (by rcases htime.2 with e | e <;> rw [e] <;> decide) (by rcases htime.2 with e | e <;> rw [e] <;> decide)
  have hL := h1.2.2.2.2.2.2.2.2.2.2.1
  obtain ⟨ln, sp, v1, v2, v3, v4, -⟩ := h1.2.2.2.2.2.1 q (by omega)
  have hW := h1.2.2.2.1 q (by omega)
  have hrd := h1.2.2.2.2.2.2.2.2.1 q hq
  have hrd2 := hrd.2 (by show gI s 7 q 0 ≤ 5; rcases htime.2 with e | e <;> rw [e] <;> decide)
  have hno2 : gI s 2 q 0 = nI q := (h.2.1 q (by omega)).1
  have d7 : gI (sI (sI (kMv s (gL s 2 q 0)) 10 q 0 0) 7 q 0 1) 7 q 0 = 1 := gI_self ..
  have d10 : gI (sI (sI (kMv s (gL s 2 q 0)) 10 q 0 0) 7 q 0 1) 10 q 0 = 0 := by
    show gI (sI (kMv s (gL s 2 q 0)) 10 q 0 0) 10 q 0 = 0
    exact gI_self ..
  have d6 : gI (sI (sI (mMv t N (gL s 2 q 0)) 8 0 q (-1)) 6 0 q 1) 6 0 q = 1 := gI_self ..
  have d8 : gI (sI (sI (mMv t N (gL s 2 q 0)) 8 0 q (-1)) 6 0 q 1) 8 0 q = -1 := by
    show gI (sI (mMv t N (gL s 2 q 0)) 8 0 q (-1)) 8 0 q = -1
    exact gI_self ..
  have h2 := rel_gen (o' := o) (s' := sI (sI (kMv s (gL s 2 q 0)) 10 q 0 0) 7 q 0 1) (t' := sI (sI (mMv t N (gL s 2 q 0)) 8 0 q (-1)) 6 0 q 1) h1 hq ⟨fun k j i h5 h7 h8 h9 h10 h18 h19 => by simp [gI_sI, h10, h7], fun q hq => by simp [gI_sI, hq], fun k j i h1 h2 h3 => rfl⟩ ⟨fun k j i h2 h5 h6 h8 h31 => by simp [gI_sI, h8, h6], fun q hq => by simp [gI_sI, hq], fun k j i h => rfl⟩ (by
    unfold NF
    rw [d7, d6, d10, d8]
    exact ⟨⟨rfl, hW.2.1, by decide, by decide⟩, by decide, by decide, ⟨sp, v2, v4⟩, Or.inr ⟨rfl, rfl⟩, hrd.1, fun _ => hrd2⟩) ⟨h1.1.2.2.2.2.1, h1.1.2.2.2.2.2.1, by omega, h1.1.2.2.2.2.2.2.2.1⟩ (fun r hr => by rw [Lo_not (hno r hr)]; exact hL.1 r hr)
  have h2 := h2.1
  obtain ⟨f', g1, g2⟩ := shift_loop (mMv t N (gL s 2 q 0)) (nI q) 63 1000 (fun i => gI (mMv t N (gL s 2 q 0)) 22 0 i) (by omega) (by omega)
  rw [sV_id] at g1
  have hpl : gI s 8 q 0 = gI t 5 0 q := (h.2.2.2.1 q (by omega)).2.1
  obtain ⟨s3, c1, c2, c3⟩ := rel_trace (x := nI q + 16 * gI s 8 q 0) (f := fun y => if y = 0 then nI q + 16 * gI s 8 q 0 else f' y) h2 hev rfl (by
    intro k hk hk2
    show (if k = 0 then nI q + 16 * gI s 8 q 0 else f' k) = _
    rw [if_neg (by omega), g2 k, if_pos (by omega)]
    rfl)
  obtain ⟨s4, t4, o4, c4, L4, x1, x2, x3, x4, x5⟩ := r_turn c2 hq (by rw [(c3 q).1, d7]) (by rw [(c3 q).2.2.1, d10]) (by omega) (by omega)
  obtain ⟨s5, t5, o5, L5, y1, y2, y3, y4⟩ := r_over x3 (by omega)
  refine ⟨s5, t5, o5, c4, L5, ?_, ?_, y3, by omega, by omega⟩
  · unfold F_K_begin
    rw [sl_x, show gL (sI s 10 q 0 0) 2 q 0 = gL s 2 q 0 from rfl, K_move, sb_some, sl_x]
    rw [show sI (kMv (sI s 10 q 0 0) (gL s 2 q 0)) 7 q 0 1 = sI (sI (kMv s (gL s 2 q 0)) 10 q 0 0) 7 q 0 1 from rfl]
    rw [show gI (sI (sI (kMv s (gL s 2 q 0)) 10 q 0 0) 7 q 0 1) 2 q 0 = nI q from hno2, show gI (sI (sI (kMv s (gL s 2 q 0)) 10 q 0 0) 7 q 0 1) 8 q 0 = gI s 8 q 0 from rfl, c1, sb_some, sb_some, x1, sb_some, y1]
  · unfold F_M_event
    have i1 : inb (nI q) 12 = true := inb_nI (by omega) (by omega)
    have i2 : (nI q).toNatClampNeg = q := nI_clamp (by omega)
    have i3 : inb 0 64 = true := inb_0 (by omega)
    simp only [i1, i2, i3, sg_true, cl_0]
    rw [← htime.1, M_move hN hc30, sb_some]
    rw [show (63 : Int32) = nI 63 from rfl, g1, sb_some]
    simp only [sl_x]
    rw [show gI (sV (mMv t N (gL s 2 q 0)) f') 5 0 q = gI s 8 q 0 from hpl.symm, sI_sV]
    have e33 : gI (sV (mMv t N (gL s 2 q 0)) (fun x => if x = 0 then nI q + 16 * gI s 8 q 0 else f' x)) 33 0 0 = nI ev := h.2.2.2.2.2.2.2.2.2.2.2.2.2.2.1
    rw [e33, nI_1, sI_c _ _ _ _ _ _ _ (show (33 : Nat) ≠ 8 by decide), sI_sVc _ _ _ _ _ (show (8 : Nat) ≠ 22 by decide), sI_c _ _ _ _ _ _ _ (show (33 : Nat) ≠ 6 by decide), sI_sVc _ _ _ _ _ (show (6 : Nat) ≠ 22 by decide)]
    rw [x2, sb_some, y2, sb_some]
set_option maxRecDepth 100000 in
theorem run_loop {N m : Nat} {w : Int64} (hm : m ≤ 100) : ∀ (d n k o c ev : Nat) (L : Nat → List Nat) (s t : kS) (b : Int32), Rel N o c ev L s t → k + d = m → d < n → o + 16644 * d < 2 ^ 31 → c + 99 * d < 2 ^ 31 → ev + d < 2 ^ 30 → (b = -1 ∨ ∃ q, q < N ∧ b = nI q ∧ gI s 10 q 0 = 1) → ∃ (s' t' : kS) (k' : Nat) (y y' : Int32) (o' c' ev' : Nat) (L' : Nat → List Nat), F_K_run_38 n s (nI m) w (nI k) b = some (s', nI k', y) ∧ F_M_run_38 n t (nI m) w (nI k) b = some (t', nI k', y') ∧ Rel N o' c' ev' L' s' t' ∧ o' ≤ o + 16644 * d ∧ c' ≤ c + 99 * d ∧ ev' ≤ ev + d ∧ k' ≤ m := by
  intro d
  induction d with
  | zero =>
    intro n k o c ev L s t b h hk hn ho hc hev hb
    obtain ⟨n, rfl⟩ : ∃ k, n = k + 1 := ⟨n - 1, by omega⟩
    have hle : nI m ≤ nI k := by rw [nI_leI] <;> omega
    refine ⟨s, t, k, b, b, o, c, ev, L, ?_, ?_, h, by omega, by omega, by omega, by omega⟩
    · unfold F_K_run_38
      rw [if_pos hle]
    · unfold F_M_run_38
      rw [if_pos hle]
  | succ d ih =>
    intro n k o c ev L s t b h hk hn ho hc hev hb
    obtain ⟨n, rfl⟩ : ∃ k, n = k + 1 := ⟨n - 1, by omega⟩
    have hN := h.1.1
    have hle : ¬ nI m ≤ nI k := by rw [nI_leI] <;> omega
    have b1 : ev + 1 < 2 ^ 30 := by omega
    have b2 : o + 16644 < 2 ^ 31 := by omega
    have b3 : c + 99 < 2 ^ 31 := by omega
    unfold F_K_run_38 F_M_run_38
    rw [if_neg hle, if_neg hle]
    rcases hb with rfl | ⟨q, hq, rfl, hl⟩
    · rw [if_pos rfl, if_pos (by decide)]
      exact ⟨s, t, k, -1, -1, o, c, ev, L, rfl, rfl, h, by omega, by omega, by omega, by omega⟩
    · have i1 : inb (nI q) 12 = true := inb_nI (by omega) (by omega)
      have i2 : (nI q).toNatClampNeg = q := nI_clamp (by omega)
      have htime : gL s 2 q 0 = gL t 7 0 q := by
        rcases h.2.2.2.2.2.2.1 q hq with ⟨z1, z2, e, z3, z4, z5, z6⟩ | ⟨z1, z2⟩
        · exact z6
        · rw [hl] at z1; exact absurd z1 (by decide)
      rw [if_neg (show ¬ nI q = -1 by rw [nI_eqm1 (by omega)]; simp), if_neg (show ¬ nI q < 0 by rw [nI_lt0 (by omega)]; simp)]
      simp only [i1, i2, sg_true, sl_x, ← htime, nI_1]
      by_cases ht : 0 < lg_cmp (gL s 2 q 0) w
      · rw [if_pos ht, if_pos ht]
        exact ⟨s, t, k, _, _, o, c, ev, L, rfl, rfl, h, by omega, by omega, by omega, by omega⟩
      · rw [if_neg ht, if_neg ht]
        obtain ⟨s1, t1, o1, c1, L1, z1, z2, z3, z4, z5⟩ := r_event h hq hl b1 b2 b3
        obtain ⟨a1, w1, z1⟩ := bd_some z1
        obtain ⟨a2, w2, z1⟩ := bd_some z1
        obtain ⟨b', f1, f2, f3⟩ := r_first z3
        obtain ⟨s', t', k', y, y', o', c', ev', L', q1, q2, q3, q4, q5, q6, q7⟩ := ih n (k + 1) o1 c1 (ev + 1) L1 s1 t1 b' z3 (by omega) (by omega) (by omega) (by omega) (by omega) f3
        refine ⟨s', t', k', y, y', o', c', ev', L', ?_, ?_, q3, by omega, by omega, by omega, q7⟩
        · rw [w1, sb_some, w2, sb_some, z1, sb_some, f1, sb_some]
          exact q1
        · rw [z2, sb_some, f2, sb_some]
          exact q2
set_option maxRecDepth 100000 in
theorem r_run {N o c ev : Nat} {L : Nat → List Nat} {s t : kS} (h : Rel N o c ev L s t) (x : Int32) (w : Int64) (ho : o + 1664400 < 2 ^ 31) (hc : c + 9900 < 2 ^ 31) (hev : ev + 100 < 2 ^ 30) : ∃ (b : Int32) (s' t' : kS) (o' c' ev' : Nat) (L' : Nat → List Nat), F_K_run s x w = some (b, s') ∧ F_M_run t x w = some (b, t') ∧ Rel N o' c' ev' L' s' t' ∧ o' ≤ o + 1664400 ∧ c' ≤ c + 9900 ∧ ev' ≤ ev + 100 := by
  have hcl := h.1.2.2.2.1
  have nop : F_K_run s x w = some (-1, s) → F_M_run t x w = some (-1, t) → ∃ (b : Int32) (s' t' : kS) (o' c' ev' : Nat) (L' : Nat → List Nat), F_K_run s x w = some (b, s') ∧ F_M_run t x w = some (b, t') ∧ Rel N o' c' ev' L' s' t' ∧ o' ≤ o + 1664400 ∧ c' ≤ c + 9900 ∧ ev' ≤ ev + 100 := fun h1 h2 => ⟨-1, s, t, o, c, ev, L, h1, h2, h, by omega, by omega, by omega⟩
  by_cases h1 : 0 ≤ x ∧ x ≤ 100
  · have e1 : ¬ x < 0 := by grind
    have e2 : ¬ 100 < x := by grind
    by_cases h2 : lg_cmp w (gL s 0 0 0) < 0
    · apply nop
      · unfold F_K_run
        rw [K_within, if_pos h1, sb_some, if_neg n10, if_pos h2]
      · unfold F_M_run
        rw [if_neg e1, if_neg e2, ← hcl, if_pos h2]
    · by_cases h3 : lg_cmp w 1000000000000 ≤ 0
      · obtain ⟨m, hm, rfl⟩ := nI_of e1
        have hm100 : m ≤ 100 := by
          have := h1.2
          rw [show (100 : Int32) = nI 100 from rfl, nI_leI hm (by omega)] at this
          exact this
        obtain ⟨b, f1, f2, f3⟩ := r_first h
        obtain ⟨s', t', k', y, y', o', c', ev', L', q1, q2, q3, q4, q5, q6, q7⟩ := run_loop (w := w) hm100 m 1000 0 o c ev L s t b h (by omega) (by omega) (by omega) (by omega) (by omega) f3
        rw [nI_0] at q1 q2
        unfold F_K_run F_M_run
        rw [K_within, if_pos h1, sb_some, if_neg n10, if_neg h2, if_pos h3, if_neg e1, if_neg e2, ← hcl, if_neg h2, if_pos h3, f1, f2, sb_some, sb_some, q1, q2, sb_some, sb_some]
        by_cases h4 : nI m ≤ nI k'
        · simp only [if_pos h4]
          exact ⟨_, s', t', o', c', ev', L', rfl, rfl, q3, by omega, by omega, by omega⟩
        · simp only [if_neg h4, K_move, M_move q3.1.1 q3.1.2.2.1, sb_some]
          exact ⟨_, _, _, o', c', ev', L', rfl, rfl, rel_mv q3, by omega, by omega, by omega⟩
      · apply nop
        · unfold F_K_run
          rw [K_within, if_pos h1, sb_some, if_neg n10, if_neg h2, if_neg h3]
        · unfold F_M_run
          rw [if_neg e1, if_neg e2, ← hcl, if_neg h2, if_neg h3]
  · apply nop
    · unfold F_K_run
      rw [K_within, if_neg h1, sb_some, if_pos rfl]
    · unfold F_M_run
      by_cases e1 : x < 0
      · rw [if_pos e1]
      · rw [if_neg e1, if_pos (by grind)]
