/-! Who is first; the clock. -/
theorem lcz (x y : Int64) : (lg_cmp x y = 0) = (x = y) := by
  unfold lg_cmp
  by_cases h1 : x > y
  · rw [if_pos h1]
    have : ¬ x = y := by grind
    simp [this]
  · rw [if_neg h1]
    by_cases h2 : x = y
    · simp [h2]
    · rw [if_neg h2]
      simp [h2]
theorem lcge (x y : Int64) : (0 ≤ lg_cmp x y) = (y ≤ x) := by
  unfold lg_cmp
  by_cases h1 : x > y
  · rw [if_pos h1]
    have h2 : y ≤ x := by grind
    simp [h2]
  · rw [if_neg h1]
    by_cases h2 : x = y
    · simp [h2]
    · rw [if_neg h2]
      have h3 : ¬ y ≤ x := by grind
      simp only [h3, eq_iff_iff, iff_false]
      decide
theorem lN_leI {a b : Nat} (ha : a < 2 ^ 31) (hb : b < 2 ^ 31) : (lN a ≤ lN b) = (nI a ≤ nI b) := by
  rw [Int64.le_iff_toInt_le, lN_toInt ha, lN_toInt hb, nI_leI ha hb]
  simp
theorem first_loop {N o c ev : Nat} {L : Nat → List Nat} {s t : kS} (h : Rel N o c ev L s t) : ∀ (d n k : Nat) (b : Int32), d < n → k + d = N → (b = -1 ∨ ∃ q, q < k ∧ b = nI q ∧ gI s 10 q 0 = 1) → ∃ b', F_K_firstEntry_4 n s b (nI k) = some (b', nI N) ∧ F_M_first_4 n t b (nI k) = some (b', nI N) ∧ (b' = -1 ∨ ∃ q, q < N ∧ b' = nI q ∧ gI s 10 q 0 = 1) := by
  have hN := h.1.1
  have g1 := h.1.2.1
  have g2 := h.1.2.2.1
  have hE := h.2.2.2.2.2.2.1
  have ho := h.1.2.2.2.2.2.2.2.1
  intro d
  induction d with
  | zero =>
    intro n k b hn hk hB
    obtain ⟨n, rfl⟩ : ∃ k, n = k + 1 := ⟨n - 1, by omega⟩
    have : k = N := by omega
    subst this
    have hle : nI k ≤ nI k := by rw [nI_leI] <;> omega
    refine ⟨b, ?_, ?_, hB⟩
    · unfold F_K_firstEntry_4
      rw [g1, if_pos hle]
    · unfold F_M_first_4
      rw [g2, if_pos hle]
  | succ d ih =>
    intro n k b hn hk hB
    obtain ⟨n, rfl⟩ : ∃ k, n = k + 1 := ⟨n - 1, by omega⟩
    have hle : ¬ nI N ≤ nI k := by rw [nI_leI] <;> omega
    have i1 : inb (nI k) 12 = true := inb_nI (by omega) (by omega)
    have i2 : (nI k).toNatClampNeg = k := nI_clamp (by omega)
    have hB' : b = -1 ∨ ∃ q, q < k + 1 ∧ b = nI q ∧ gI s 10 q 0 = 1 := hB.imp id (fun ⟨q, z1, z2⟩ => ⟨q, by omega, z2⟩)
    unfold F_K_firstEntry_4 F_M_first_4
    rw [g1, g2, if_neg hle, if_neg hle]
    simp only [i1, i2, sg_true, sl_x, nI_1]
    rcases hE k (by omega) with ⟨z1, z2, e, z3, z4, z5, z6⟩ | ⟨z1, z2⟩
    · have hl : gI s 10 k 0 = 1 := z1
      rw [z1, z4, if_neg n10, if_neg (show ¬ nI e < 0 by rw [nI_lt0 (by omega)]; simp)]
      have hnew : nI k = -1 ∨ ∃ q, q < k + 1 ∧ nI k = nI q ∧ gI s 10 q 0 = 1 := Or.inr ⟨k, by omega, rfl, hl⟩
      rcases hB with rfl | ⟨q, hq, rfl, hlq⟩
      · rw [if_pos rfl, if_pos (by decide)]
        exact ih n (k + 1) (nI k) (by omega) (by omega) hnew
      · have j1 : inb (nI q) 12 = true := inb_nI (by omega) (by omega)
        have j2 : (nI q).toNatClampNeg = q := nI_clamp (by omega)
        rcases hE q (by omega) with ⟨y1, y2, e', y3, y4, y5, y6⟩ | ⟨y1, y2⟩
        · have p1 : gI t 1 0 k = gI s 4 k 0 := (h.2.1 k (by omega)).2.2.1.symm
          have p2 : gI t 1 0 q = gI s 4 q 0 := (h.2.1 q (by omega)).2.2.1.symm
          have hsn : F_M_sooner t (nI k) (nI q) = F_P_isBefore s k q := by
            unfold F_M_sooner F_P_isBefore
            simp only [i1, i2, j1, j2, sg_true, z4, y4, z5, y5, z6, y6, p1, p2, lcge, lN_leI (show e' < 2 ^ 31 by omega) (show e < 2 ^ 31 by omega)]
          rw [if_neg (show ¬ nI q = -1 by rw [nI_eqm1 (by omega)]; simp), if_neg (show ¬ nI q < 0 by rw [nI_lt0 (by omega)]; simp), hsn]
          simp only [j1, j2, sg_true, sl_x]
          have hr : ∃ r, F_P_isBefore s k q = some r := by
            unfold F_P_isBefore
            repeat' split
            all_goals exact ⟨_, rfl⟩
          obtain ⟨r, hr⟩ := hr
          rw [hr, sb_some, sb_some]
          by_cases e0 : r = 0
          · rw [if_pos e0, if_pos e0]
            exact ih n (k + 1) (nI q) (by omega) (by omega) hB'
          · rw [if_neg e0, if_neg e0]
            exact ih n (k + 1) (nI k) (by omega) (by omega) hnew
        · rw [y1] at hlq
          exact absurd hlq (by decide)
    · rw [z1, z2, if_pos rfl, if_pos (by decide)]
      exact ih n (k + 1) b (by omega) (by omega) hB'
theorem r_first {N o c ev : Nat} {L : Nat → List Nat} {s t : kS} (h : Rel N o c ev L s t) : ∃ b, F_K_firstEntry s = some b ∧ F_M_first t = some b ∧ (b = -1 ∨ ∃ q, q < N ∧ b = nI q ∧ gI s 10 q 0 = 1) := by
  have hN := h.1.1
  obtain ⟨b, h1, h2, h3⟩ := first_loop h N 1000 0 (-1) (by omega) (by omega) (Or.inl rfl)
  rw [nI_0] at h1 h2
  exact ⟨b, by unfold F_K_firstEntry; rw [h1, sb_some], by unfold F_M_first; rw [h2, sb_some], h3⟩
def kAr (s : kS) (w : Int64) (r : Nat) : Int64 := gL s 5 r 0 + (gI s 16 r 0).toInt64 * (w - gL s 0 0 0)
def kMv (s : kS) (w : Int64) : kS := sL (sL (sL (sL (sL s 5 0 0 (kAr s w 0)) 5 1 0 (kAr s w 1)) 5 2 0 (kAr s w 2)) 5 3 0 (kAr s w 3)) 0 0 0 w
def mAr (t : kS) (N : Nat) (w : Int64) (r : Nat) : Int64 := gL t 17 0 r + (sS t r N).toInt64 * (w - gL t 0 0 0)
def mMv (t : kS) (N : Nat) (w : Int64) : kS := sL (sL (sL (sL (sL t 17 0 0 (mAr t N w 0)) 17 0 1 (mAr t N w 1)) 17 0 2 (mAr t N w 2)) 17 0 3 (mAr t N w 3)) 0 0 0 w
theorem le_4 {n : Nat} (h : n < 2 ^ 31) : ((4 : Int32) ≤ nI n) = (4 ≤ n) := by
  rw [show (4 : Int32) = nI 4 from rfl, nI_leI (by omega) h]
theorem K_mv1 {s : kS} {w : Int64} {n r : Nat} (hr : r < 4) : F_K_moveClock_2 (n + 1) s w (nI r) = F_K_moveClock_2 n (sL s 5 r 0 (kAr s w r)) w (nI (r + 1)) := by
  rw [F_K_moveClock_2, if_neg (by rw [le_4] <;> omega)]
  simp (disch := omega) only [inb_nI, sg_true, nI_clamp, sl_x, nI_1]
  rfl
theorem K_move (s : kS) (w : Int64) : F_K_moveClock s w = some (kMv s w) := by
  unfold F_K_moveClock
  rw [show (0 : Int32) = nI 0 from nI_0.symm, K_mv1 (by omega), K_mv1 (by omega), K_mv1 (by omega), K_mv1 (by omega)]
  rw [F_K_moveClock_2, if_pos (by rw [le_4] <;> omega), sb_some, sl_x]
  rfl
theorem M_mv1 {t : kS} {w : Int64} {n r N : Nat} (hr : r < 4) (hN : N ≤ 12) (hc : gI t 30 0 0 = nI N) : F_M_advance_2 (n + 1) t w (nI r) = F_M_advance_2 n (sL t 17 0 r (mAr t N w r)) w (nI (r + 1)) := by
  rw [F_M_advance_2, if_neg (by rw [le_4] <;> omega)]
  simp (disch := omega) only [inb_nI, sg_true, nI_clamp, sl_x, nI_1, M_seized hr hN hc, sb_some]
  rfl
theorem mAr_sL {t : kS} {N : Nat} {w v : Int64} {r r' : Nat} (h : r' ≠ r) : mAr (sL t 17 0 r v) N w r' = mAr t N w r' := by
  unfold mAr
  rw [sS_eq (t' := sL t 17 0 r v) (t := t) (fun i => rfl), gL_sL, gL_sL, if_neg (fun z => h z.2.2), if_neg (fun z => by simp at z)]
theorem M_move {t : kS} {N : Nat} (hN : N ≤ 12) (hc : gI t 30 0 0 = nI N) (w : Int64) : F_M_advance t w = some (mMv t N w) := by
  unfold F_M_advance
  rw [show (0 : Int32) = nI 0 from nI_0.symm, M_mv1 (by omega) hN hc, M_mv1 (N := N) (by omega) hN, M_mv1 (N := N) (by omega) hN, M_mv1 (N := N) (by omega) hN]
  any_goals exact hc
  rw [F_M_advance_2, if_pos (by rw [le_4] <;> omega), sb_some, sl_x]
  rw [mAr_sL (by decide), mAr_sL (by decide), mAr_sL (by decide), mAr_sL (by decide), mAr_sL (by decide), mAr_sL (by decide)]
  rfl
theorem k_mv5 {s : kS} {w : Int64} (r : Nat) (hr : r < 4) : gL (kMv s w) 5 r 0 = kAr s w r := by
  match r, hr with
  | 0, _ => rfl
  | 1, _ => rfl
  | 2, _ => rfl
  | 3, _ => rfl
theorem m_mv17 {t : kS} {N : Nat} {w : Int64} (r : Nat) (hr : r < 4) : gL (mMv t N w) 17 0 r = mAr t N w r := by
  match r, hr with
  | 0, _ => rfl
  | 1, _ => rfl
  | 2, _ => rfl
  | 3, _ => rfl
theorem rel_mv {N o c ev : Nat} {L : Nat → List Nat} {s t : kS} {w : Int64} (h : Rel N o c ev L s t) : Rel N o c ev L (kMv s w) (mMv t N w) := by
  obtain ⟨hG, hQ, hO, hW, hU, hV, hE, hI, hD, hFr, hL, hS, hR, hK, hT⟩ := h
  have e : ∀ r', sS (mMv t N w) r' N = sS t r' N := fun r' => sS_eq (t' := mMv t N w) (t := t) (fun i => rfl) N
  refine ⟨⟨hG.1, hG.2.1, hG.2.2.1, ?_, hG.2.2.2.2.1, hG.2.2.2.2.2.1, hG.2.2.2.2.2.2⟩, hQ, hO, hW, hU, hV, hE, hI, hD, hFr, hL, fun r' hr' => by rw [e]; exact hS r' hr', ?_, hK, hT⟩
  · unfold kMv mMv
    rw [gL_self, gL_self]
  · intro r' hr'
    obtain ⟨a1, a2, a3, a4⟩ := hR r' hr'
    refine ⟨a1, a2, ?_, a4⟩
    have ka : kAr s w r' = mAr t N w r' := by
      unfold kAr mAr
      rw [a3, hS r' hr', hG.2.2.2.1]
    rw [k_mv5 r' hr', m_mv17 r' hr', ka]
