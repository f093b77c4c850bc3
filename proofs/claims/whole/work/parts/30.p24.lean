/-! The calls that only ask. -/
theorem r_next {N o c ev : Nat} {L : Nat → List Nat} {s t : kS} (h : Rel N o c ev L s t) : ∃ v, F_K_next s = some v ∧ F_M_next t = some v := by
  have hN := h.1.1
  obtain ⟨b, f1, f2, f3⟩ := r_first h
  unfold F_K_next F_M_next
  rw [f1, f2, sb_some, sb_some]
  rcases f3 with rfl | ⟨q, hq, rfl, hl⟩
  · exact ⟨-1, by rw [if_pos rfl], by rw [if_neg (by decide)]⟩
  · have htime : gL s 2 q 0 = gL t 7 0 q := by
      rcases h.2.2.2.2.2.2.1 q hq with ⟨z1, z2, e, z3, z4, z5, z6⟩ | ⟨z1, z2⟩
      · exact z6
      · rw [hl] at z1; exact absurd z1 (by decide)
    refine ⟨gL s 2 q 0, ?_, ?_⟩
    · rw [if_neg (show ¬ nI q = -1 by rw [nI_eqm1 (by omega)]; simp)]
      simp (disch := omega) only [inb_nI, sg_true, nI_clamp, sl_x]
    · have := nI_lt0 (n := q) (by omega)
      rw [if_pos (show 0 ≤ nI q by grind)]
      simp (disch := omega) only [inb_nI, sg_true, nI_clamp, htime]
theorem r_state {N o c ev : Nat} {L : Nat → List Nat} {s t : kS} (h : Rel N o c ev L s t) (x : Int32) : ∃ v, F_K_state s x = some v ∧ F_M_state t x = some v := by
  have hN := h.1.1
  unfold F_K_state F_M_state
  rcases arg_p h x with ⟨a1, a2, -⟩ | ⟨p, hp, rfl, a1, a2⟩
  · rw [a1, a2, sb_some, sb_some, if_pos rfl, if_neg n10]
    exact ⟨-1, rfl, rfl⟩
  · rw [a1, a2, sb_some, sb_some, if_neg n10, if_pos rfl]
    simp (disch := omega) only [inb_nI, sg_true, nI_clamp, sl_x]
    exact ⟨_, rfl, by rw [(h.2.2.2.1 p (by omega)).1]⟩
theorem r_place {N o c ev : Nat} {L : Nat → List Nat} {s t : kS} (h : Rel N o c ev L s t) (x : Int32) : ∃ v, F_K_place s x = some v ∧ F_M_place t x = some v := by
  have hN := h.1.1
  unfold F_K_place F_M_place
  rcases arg_p h x with ⟨a1, a2, -⟩ | ⟨p, hp, rfl, a1, a2⟩
  · rw [a1, a2, sb_some, sb_some, if_pos rfl, if_neg n10]
    exact ⟨-1, rfl, rfl⟩
  · rw [a1, a2, sb_some, sb_some, if_neg n10, if_pos rfl]
    simp (disch := omega) only [inb_nI, sg_true, nI_clamp, sl_x]
    exact ⟨_, rfl, by rw [(h.2.2.2.1 p (by omega)).2.1]⟩
theorem r_held {N o c ev : Nat} {L : Nat → List Nat} {s t : kS} (h : Rel N o c ev L s t) (x y : Int32) : ∃ v, F_K_held s x y = some v ∧ F_M_held t x y = some v := by
  have hN := h.1.1
  unfold F_K_held F_M_held
  rcases arg_p h x with ⟨a1, a2, -⟩ | ⟨p, hp, rfl, a1, a2⟩
  · rw [a1, a2, sb_some, sb_some, if_pos rfl, if_neg n10]
    exact ⟨-1, rfl, rfl⟩
  · rw [a1, a2, sb_some, sb_some, if_neg n10, if_pos rfl, K_isRes, M_within, sb_some, sb_some]
    simp only [ite_z]
    by_cases h1 : 0 ≤ y ∧ y ≤ 3
    · obtain ⟨r, hr, rfl⟩ := op_lt4 h1.1 h1.2
      rw [if_neg (not_not_intro h1), if_neg (not_not_intro h1)]
      simp (disch := omega) only [inb_nI, sg_true, nI_clamp, sl_x, mul_4, nI_add]
      exact ⟨_, rfl, by rw [h.2.2.2.2.1 p (by omega) r hr]⟩
    · rw [if_pos h1, if_pos h1]
      exact ⟨-1, rfl, rfl⟩
theorem r_free {N o c ev : Nat} {L : Nat → List Nat} {s t : kS} (h : Rel N o c ev L s t) (y : Int32) : ∃ v, F_K_free s y = some v ∧ F_M_free t y = some v := by
  have hN := h.1.1
  unfold F_K_free F_M_free
  rw [K_isRes, M_within, sb_some, sb_some]
  simp only [ite_z]
  by_cases h1 : 0 ≤ y ∧ y ≤ 3
  · obtain ⟨r, hr, rfl⟩ := op_lt4 h1.1 h1.2
    have hcap : gI s 15 r 0 = gI t 15 0 r := (h.2.2.2.2.2.2.2.2.2.2.2.2.1 r hr).1
    have hsz : gI s 16 r 0 = sS t r N := h.2.2.2.2.2.2.2.2.2.2.2.1 r hr
    rw [if_neg (not_not_intro h1), if_neg (not_not_intro h1), M_rest hr hN h.1.2.2.1, sb_some, ← hcap, ← hsz]
    simp (disch := omega) only [inb_nI, sg_true, nI_clamp, sl_x, K_unseized, sb_some]
    exact ⟨_, rfl, rfl⟩
  · rw [if_pos h1, if_pos h1]
    exact ⟨-1, rfl, rfl⟩
theorem r_area {N o c ev : Nat} {L : Nat → List Nat} {s t : kS} (h : Rel N o c ev L s t) (y : Int32) : ∃ v, F_K_area s y = some v ∧ F_M_area t y = some v := by
  unfold F_K_area F_M_area
  rw [K_isRes, M_within, sb_some, sb_some]
  simp only [ite_z]
  by_cases h1 : 0 ≤ y ∧ y ≤ 3
  · obtain ⟨r, hr, rfl⟩ := op_lt4 h1.1 h1.2
    rw [if_neg (not_not_intro h1), if_neg (not_not_intro h1)]
    simp (disch := omega) only [inb_nI, sg_true, nI_clamp, sl_x]
    exact ⟨_, rfl, by rw [(h.2.2.2.2.2.2.2.2.2.2.2.2.1 r hr).2.2.1]⟩
  · rw [if_pos h1, if_pos h1]
    exact ⟨-1, rfl, rfl⟩
theorem r_waited {N o c ev : Nat} {L : Nat → List Nat} {s t : kS} (h : Rel N o c ev L s t) (y : Int32) : ∃ v, F_K_waited s y = some v ∧ F_M_waited t y = some v := by
  unfold F_K_waited F_M_waited
  rw [K_isRes, M_within, sb_some, sb_some]
  simp only [ite_z]
  by_cases h1 : 0 ≤ y ∧ y ≤ 3
  · obtain ⟨r, hr, rfl⟩ := op_lt4 h1.1 h1.2
    rw [if_neg (not_not_intro h1), if_neg (not_not_intro h1)]
    simp (disch := omega) only [inb_nI, sg_true, nI_clamp, sl_x]
    exact ⟨_, rfl, by rw [(h.2.2.2.2.2.2.2.2.2.2.2.2.1 r hr).2.2.2]⟩
  · rw [if_pos h1, if_pos h1]
    exact ⟨-1, rfl, rfl⟩
theorem r_level {N o c ev : Nat} {L : Nat → List Nat} {s t : kS} (h : Rel N o c ev L s t) (y : Int32) : ∃ v, F_K_level s y = some v ∧ F_M_level t y = some v := by
  unfold F_K_level F_M_level
  rw [K_isTank, M_within, sb_some, sb_some]
  simp only [ite_z]
  by_cases h1 : 0 ≤ y ∧ y ≤ 3
  · obtain ⟨r, hr, rfl⟩ := op_lt4 h1.1 h1.2
    rw [if_neg (not_not_intro h1), if_neg (not_not_intro h1)]
    simp (disch := omega) only [inb_nI, sg_true, nI_clamp, sl_x]
    exact ⟨_, rfl, by rw [(h.2.2.2.2.2.2.2.2.2.2.2.2.2.1 r hr).2]⟩
  · rw [if_pos h1, if_pos h1]
    exact ⟨-1, rfl, rfl⟩
theorem r_now {N o c ev : Nat} {L : Nat → List Nat} {s t : kS} (h : Rel N o c ev L s t) : ∃ v, F_K_now s = some v ∧ F_M_now t = some v := by
  unfold F_K_now F_M_now
  exact ⟨_, rfl, by rw [h.1.2.2.2.1]⟩
set_option maxRecDepth 100000 in
theorem rem64b : ∀ la, la < 64 → ∀ k, k < 64 → nI la - nI k + 64 - (nI la - nI k + 64) / 64 * 64 = nI ((la + 64 - k) % 64) := by decide +kernel
theorem r_traced {N o c ev : Nat} {L : Nat → List Nat} {s t : kS} (h : Rel N o c ev L s t) (x : Int32) : ∃ v, F_K_traced s x = some v ∧ F_M_traced t x = some v := by
  obtain ⟨z1, z2, z3, la, z4, z5, z6⟩ := h.2.2.2.2.2.2.2.2.2.2.2.2.2.2
  unfold F_K_traced F_C_before F_M_traced
  rw [M_within, sb_some]
  simp only [ite_z]
  by_cases h0 : x < 0
  · rw [if_pos h0, if_pos (show ¬ (0 ≤ x ∧ x ≤ 63) by grind), sb_some]
    exact ⟨-1, rfl, rfl⟩
  · obtain ⟨k, hk, rfl⟩ := nI_of h0
    rw [if_neg h0, z3, z1, z5]
    by_cases h1 : k < min ev 64
    · have hk64 : k < 64 := by omega
      rw [if_pos (show nI k < nI (min ev 64) by rw [nI_ltI] <;> omega), rem64b la z4 k hk64]
      have hin : 0 ≤ nI k ∧ nI k ≤ 63 := by
        constructor
        · grind
        · rw [show (63 : Int32) = nI 63 from rfl, nI_leI] <;> omega
      have hlt : (la + 64 - k) % 64 < 64 := Nat.mod_lt _ (by decide)
      rw [if_neg (not_not_intro hin), if_neg (show ¬ nI ev ≤ nI k by rw [nI_leI] <;> omega)]
      simp (disch := omega) only [inb_nI, sg_true, nI_clamp, sb_some]
      exact ⟨_, rfl, by rw [z6 k hk64 (by omega)]⟩
    · rw [if_neg (show ¬ nI k < nI (min ev 64) by rw [nI_ltI] <;> omega), sb_some]
      refine ⟨-1, rfl, ?_⟩
      by_cases h2 : 0 ≤ nI k ∧ nI k ≤ 63
      · rw [if_neg (not_not_intro h2)]
        have := h2.2
        rw [show (63 : Int32) = nI 63 from rfl, nI_leI hk (by omega)] at this
        rw [if_pos (show nI ev ≤ nI k by rw [nI_leI] <;> omega)]
      · rw [if_pos h2]
theorem sub_len : ∀ (l1 l2 : List Nat), l1.Nodup → (∀ x ∈ l1, x ∈ l2) → l1.length ≤ l2.length
  | [], _, _, _ => by simp
  | a :: l, l2, hn, h => by
    have ⟨h1, h2⟩ := List.nodup_cons.mp hn
    have ha := h a (List.mem_cons_self ..)
    have := sub_len l (l2.erase a) h2 (fun x hx => (List.mem_erase_of_ne (fun e : x = a => h1 (e ▸ hx))).mpr (h x (List.mem_cons_of_mem _ hx)))
    have h3 := List.length_erase_of_mem ha
    have h4 := List.length_pos_of_mem ha
    simp only [List.length_cons]
    omega
/-- who counts as waiting at r -/
def wt (s : kS) (r p : Nat) : Bool := if r = 4 then decide (gI s 7 p 0 = 5) else decide (gI s 7 p 0 = 4) && decide (gI s 12 p (gI s 9 p 0).toNatClampNeg = nI r)
theorem wt_4 (s : kS) (p : Nat) : wt s 4 p = true ↔ gI s 7 p 0 = 5 := by simp [wt]
theorem wt_r (s : kS) {r : Nat} (p : Nat) (h : r ≠ 4) : wt s r p = true ↔ qd s r p := by simp [wt, h, qd]
def wl (s : kS) (r n : Nat) : List Nat := (List.range n).filter (wt s r)
theorem wl_succ (s : kS) (r n : Nat) : (wl s r (n + 1)).length = (wl s r n).length + (if wt s r n = true then 1 else 0) := by
  unfold wl
  rw [List.range_succ, List.filter_append, List.length_append]
  congr 1
  by_cases h : wt s r n = true <;> simp [h]
theorem wait_loop {N o c ev : Nat} {L : Nat → List Nat} {s t : kS} (h : Rel N o c ev L s t) {r : Nat} (hr : r < 5) : ∀ (d n k : Nat), d < n → k + d = N → F_M_waiting_16 n t (nI r) (nI (wl s r k).length) (nI k) = some (nI (wl s r N).length, nI N) := by
  have hN := h.1.1
  have g2 := h.1.2.2.1
  intro d
  induction d with
  | zero =>
    intro n k hn hk
    obtain ⟨n, rfl⟩ : ∃ k, n = k + 1 := ⟨n - 1, by omega⟩
    have : k = N := by omega
    subst this
    unfold F_M_waiting_16
    rw [g2, if_pos (by rw [nI_leI] <;> omega)]
  | succ d ih =>
    intro n k hn hk
    obtain ⟨n, rfl⟩ : ∃ k, n = k + 1 := ⟨n - 1, by omega⟩
    have e6 : gI t 6 0 k = gI s 7 k 0 := (h.2.2.2.1 k (by omega)).1.symm
    have i1 : inb (nI k) 12 = true := inb_nI (by omega) (by omega)
    have i2 : (nI k).toNatClampNeg = k := nI_clamp (by omega)
    have yes : wt s r k = true → F_M_waiting_16 n t (nI r) (nI (wl s r k).length + 1) (nI (k + 1)) = some (nI (wl s r N).length, nI N) := by
      intro hw
      have := ih n (k + 1) (by omega) (by omega)
      rw [wl_succ, if_pos hw] at this
      rw [nI_1]
      exact this
    have no : ¬ wt s r k = true → F_M_waiting_16 n t (nI r) (nI (wl s r k).length + 0) (nI (k + 1)) = some (nI (wl s r N).length, nI N) := by
      intro hw
      have := ih n (k + 1) (by omega) (by omega)
      rw [wl_succ, if_neg hw] at this
      rw [show nI (wl s r k).length + 0 = nI (wl s r k).length by grind]
      exact this
    unfold F_M_waiting_16
    rw [g2, if_neg (by rw [nI_leI] <;> omega)]
    simp only [i1, i2, sg_true, sl_x, e6, nI_1 k]
    by_cases h4 : r = 4
    · subst h4
      rw [if_pos (show nI 4 = 4 from rfl)]
      by_cases h5 : gI s 7 k 0 = 5
      · rw [if_pos h5]
        exact yes ((wt_4 s k).mpr h5)
      · rw [if_neg h5]
        exact no (fun z => h5 ((wt_4 s k).mp z))
    · rw [if_neg (show ¬ nI r = 4 by rw [show (4 : Int32) = nI 4 from rfl, nI_eq] <;> omega)]
      have hwt := wt_r s k h4
      by_cases h5 : gI s 7 k 0 = 4
      · obtain ⟨sp, d1, d2, d3, d4, d5, d6, d7, d8, d9, d10, d11⟩ := q_read h (p := k) (by omega) (Or.inl h5)
        rw [if_pos h5]
        simp (disch := omega) only [M_done (by omega : k < 12) d4 d1, sb_some, inb_nI, sg_true, nI_clamp, d10]
        have hq : qd s r k ↔ gI s 12 k (sp - 1) = nI r := by
          unfold qd
          rw [d5, nI_clamp (by omega)]
          exact ⟨fun z => z.2, fun z => ⟨h5, z⟩⟩
        by_cases h6 : gI s 12 k (sp - 1) = nI r
        · rw [if_pos h6]
          exact yes (hwt.mpr (hq.mpr h6))
        · rw [if_neg h6]
          exact no (fun z => h6 (hq.mp (hwt.mp z)))
      · rw [if_neg h5]
        exact no (fun z => h5 (hwt.mp z).1)
theorem wl_len {N o c ev : Nat} {L : Nat → List Nat} {s t : kS} (h : Rel N o c ev L s t) {r : Nat} (hr : r < 5) : (wl s r N).length = (L r).length := by
  have hL := h.2.2.2.2.2.2.2.2.2.2.1
  have nd := (L_len h hr).1
  have nd2 : (wl s r N).Nodup := List.Pairwise.filter _ List.nodup_range
  have mem : ∀ p, p ∈ wl s r N ↔ p ∈ L r := by
    intro p
    unfold wl
    rw [List.mem_filter, List.mem_range]
    by_cases h4 : r = 4
    · subst h4
      rw [hL.2.2.1 p, wt_4]
    · rw [hL.2.1 r (by omega) p, wt_r s p h4]
  exact Nat.le_antisymm (sub_len _ _ nd2 (fun x hx => (mem x).mp hx)) (sub_len _ _ nd (fun x hx => (mem x).mpr hx))
theorem r_waiting {N o c ev : Nat} {L : Nat → List Nat} {s t : kS} (h : Rel N o c ev L s t) (x : Int32) : ∃ v, F_K_waiting s x = some v ∧ F_M_waiting t x = some v := by
  have hN := h.1.1
  have hL := h.2.2.2.2.2.2.2.2.2.2.1
  have key : ∀ r, r < 5 → F_M_waiting t (nI r) = some (gI s 19 r 0) := by
    intro r hr
    have := wait_loop h hr N 1000 0 (by omega) (by omega)
    rw [wl_len h hr, show (wl s r 0).length = 0 from rfl, nI_0] at this
    have hin : 0 ≤ nI r ∧ nI r ≤ 4 := by
      constructor
      · have := nI_lt0 (n := r) (by omega)
        grind
      · rw [show (4 : Int32) = nI 4 from rfl, nI_leI] <;> omega
    unfold F_M_waiting
    rw [M_within, sb_some]
    simp only [ite_z]
    rw [if_neg (not_not_intro hin), this, sb_some, (hL.1 r hr).1]
  unfold F_K_waiting
  by_cases h4 : x = 4
  · subst h4
    rw [if_pos rfl]
    exact ⟨_, rfl, key 4 (by omega)⟩
  · rw [if_neg h4, K_isRes, sb_some]
    simp only [ite_z]
    by_cases h1 : 0 ≤ x ∧ x ≤ 3
    · obtain ⟨r, hr, rfl⟩ := op_lt4 h1.1 h1.2
      rw [if_neg (not_not_intro h1)]
      simp (disch := omega) only [inb_nI, sg_true, nI_clamp, sl_x]
      exact ⟨_, rfl, key r (by omega)⟩
    · rw [if_pos h1]
      refine ⟨-1, rfl, ?_⟩
      unfold F_M_waiting
      rw [M_within, sb_some]
      simp only [ite_z]
      rw [if_pos (show ¬ (0 ≤ x ∧ x ≤ 4) by grind)]
theorem kst_loop {s : kS} {L : Nat → List Nat} (hL : ∀ r, r < 5 → LI s r (L r)) (h12 : ∀ r, r < 5 → (L r).length ≤ 12) : ∀ (d n k : Nat) (x : Int32), d < n → k + d = 4 → ((x = 0 ∧ L 4 = [] ∧ ∀ r, r < k → L r = []) ∨ (x = 1 ∧ ∃ r, r < 5 ∧ L r ≠ [])) → ∃ x', F_K_stuck_18 n s x (nI k) = some (x', nI 4) ∧ ((x' = 0 ∧ ∀ r, r < 5 → L r = []) ∨ (x' = 1 ∧ ∃ r, r < 5 ∧ L r ≠ [])) := by
  intro d
  induction d with
  | zero =>
    intro n k x hn hk hx
    obtain ⟨n, rfl⟩ : ∃ k, n = k + 1 := ⟨n - 1, by omega⟩
    have : k = 4 := by omega
    subst this
    refine ⟨x, ?_, ?_⟩
    · unfold F_K_stuck_18
      rw [if_pos (by rw [le_4] <;> omega)]
    · rcases hx with ⟨z1, z2, z3⟩ | z
      · refine Or.inl ⟨z1, fun r hr => ?_⟩
        by_cases e : r = 4
        · rw [e, z2]
        · exact z3 r (by omega)
      · exact Or.inr z
  | succ d ih =>
    intro n k x hn hk hx
    obtain ⟨n, rfl⟩ : ∃ k, n = k + 1 := ⟨n - 1, by omega⟩
    unfold F_K_stuck_18
    rw [if_neg (by rw [le_4] <;> omega)]
    simp (disch := omega) only [inb_nI, sg_true, nI_clamp, sl_x, nI_1]
    rcases hx with ⟨rfl, z2, z3⟩ | ⟨rfl, z⟩
    · rw [if_pos rfl, (hL k (by omega)).1]
      have := h12 k (by omega)
      by_cases e : L k = []
      · rw [if_pos (by rw [nI_le0 (by omega), e]; rfl)]
        refine ih n (k + 1) 0 (by omega) (by omega) (Or.inl ⟨rfl, z2, fun r hr => ?_⟩)
        by_cases e2 : r = k
        · rw [e2, e]
        · exact z3 r (by omega)
      · rw [if_neg (by rw [nI_le0 (by omega)]; exact fun z => e (List.eq_nil_of_length_eq_zero z))]
        exact ih n (k + 1) 1 (by omega) (by omega) (Or.inr ⟨rfl, k, by omega, e⟩)
    · rw [if_neg n10]
      exact ih n (k + 1) 1 (by omega) (by omega) (Or.inr ⟨rfl, z⟩)
theorem mst_loop {N o c ev : Nat} {L : Nat → List Nat} {s t : kS} (h : Rel N o c ev L s t) : ∀ (d n k : Nat) (x : Int32), d < n → k + d = N → ((x = 0 ∧ ∀ p, p < k → gI s 7 p 0 ≠ 4 ∧ gI s 7 p 0 ≠ 5) ∨ (x = 1 ∧ ∃ p, p < N ∧ (gI s 7 p 0 = 4 ∨ gI s 7 p 0 = 5))) → ∃ x', F_M_stuck_4 n t x (nI k) = some (x', nI N) ∧ ((x' = 0 ∧ ∀ p, p < N → gI s 7 p 0 ≠ 4 ∧ gI s 7 p 0 ≠ 5) ∨ (x' = 1 ∧ ∃ p, p < N ∧ (gI s 7 p 0 = 4 ∨ gI s 7 p 0 = 5))) := by
  have hN := h.1.1
  have g2 := h.1.2.2.1
  intro d
  induction d with
  | zero =>
    intro n k x hn hk hx
    obtain ⟨n, rfl⟩ : ∃ k, n = k + 1 := ⟨n - 1, by omega⟩
    have : k = N := by omega
    subst this
    refine ⟨x, ?_, hx⟩
    unfold F_M_stuck_4
    rw [g2, if_pos (by rw [nI_leI] <;> omega)]
  | succ d ih =>
    intro n k x hn hk hx
    obtain ⟨n, rfl⟩ : ∃ k, n = k + 1 := ⟨n - 1, by omega⟩
    have e6 : gI t 6 0 k = gI s 7 k 0 := (h.2.2.2.1 k (by omega)).1.symm
    unfold F_M_stuck_4
    rw [g2, if_neg (by rw [nI_leI] <;> omega)]
    simp (disch := omega) only [inb_nI, sg_true, nI_clamp, sl_x, nI_1, e6]
    rcases hx with ⟨rfl, z⟩ | ⟨rfl, z⟩
    · rw [if_pos rfl]
      by_cases e4 : gI s 7 k 0 = 4
      · rw [if_pos e4]
        exact ih n (k + 1) 1 (by omega) (by omega) (Or.inr ⟨rfl, k, by omega, Or.inl e4⟩)
      · rw [if_neg e4]
        by_cases e5 : gI s 7 k 0 = 5
        · rw [if_pos e5]
          exact ih n (k + 1) 1 (by omega) (by omega) (Or.inr ⟨rfl, k, by omega, Or.inr e5⟩)
        · rw [if_neg e5]
          refine ih n (k + 1) 0 (by omega) (by omega) (Or.inl ⟨rfl, fun p hp => ?_⟩)
          by_cases e : p = k
          · subst e; exact ⟨e4, e5⟩
          · exact z p (by omega)
    · rw [if_neg n10]
      exact ih n (k + 1) 1 (by omega) (by omega) (Or.inr ⟨rfl, z⟩)
theorem r_stuck {N o c ev : Nat} {L : Nat → List Nat} {s t : kS} (h : Rel N o c ev L s t) : ∃ v, F_K_stuck s = some v ∧ F_M_stuck t = some v := by
  have hN := h.1.1
  have hL := h.2.2.2.2.2.2.2.2.2.2.1
  have h12 : ∀ r, r < 5 → (L r).length ≤ 12 := fun r hr => by have := (L_len h hr).2.1; omega
  obtain ⟨b, f1, f2, f3⟩ := r_first h
  obtain ⟨y, y1, y2⟩ := mst_loop h N 1000 0 0 (by omega) (by omega) (Or.inl ⟨rfl, fun p hp => by omega⟩)
  have hx0 : ∃ x', (if gI s 19 4 0 ≤ 0 then F_K_stuck_18 1000 s 0 0 else F_K_stuck_18 1000 s 1 0) = some (x', nI 4) ∧ ((x' = 0 ∧ ∀ r, r < 5 → L r = []) ∨ (x' = 1 ∧ ∃ r, r < 5 ∧ L r ≠ [])) := by
    rw [(hL.1 4 (by omega)).1]
    have := h12 4 (by omega)
    by_cases e : L 4 = []
    · have k := kst_loop hL.1 h12 4 1000 0 0 (by omega) (by omega) (Or.inl ⟨rfl, e, fun r hr => by omega⟩)
      rw [nI_0] at k
      rw [if_pos (by rw [nI_le0 (by omega), e]; rfl)]
      exact k
    · have k := kst_loop hL.1 h12 4 1000 0 1 (by omega) (by omega) (Or.inr ⟨rfl, 4, by omega, e⟩)
      rw [nI_0] at k
      rw [if_neg (by rw [nI_le0 (by omega)]; exact fun z => e (List.eq_nil_of_length_eq_zero z))]
      exact k
  obtain ⟨x', k1, k2⟩ := hx0
  have exy : x' = y := by
    rcases k2 with ⟨a1, a2⟩ | ⟨a1, r, hr, a2⟩
    · rcases y2 with ⟨b1, b2⟩ | ⟨b1, p, hp, b2⟩
      · rw [a1, b1]
      · rcases b2 with b2 | b2
        · obtain ⟨r, sp, hr, hm, -⟩ := q_res h hp b2
          rw [a2 r (by omega)] at hm
          simp at hm
        · have := (hL.2.2.1 p).mpr ⟨hp, b2⟩
          rw [a2 4 (by omega)] at this
          simp at this
    · rcases y2 with ⟨b1, b2⟩ | ⟨b1, p, hp, b2⟩
      · obtain ⟨q, hq⟩ := List.exists_mem_of_ne_nil _ a2
        obtain ⟨q1, q2, q3⟩ := mem_q h hr hq
        by_cases e : r = 4
        · exact absurd (q3 e) (b2 q q1).2
        · exact absurd (q2 (by omega)).1 (b2 q q1).1
      · rw [a1, b1]
  subst exy
  rw [nI_0] at y1
  have hK : F_K_stuck s = (if x' = 0 then some 0 else if b = -1 then some 1 else some 0) := by
    unfold F_K_stuck
    by_cases e : gI s 19 4 0 ≤ 0
    · rw [if_pos e] at k1 ⊢
      rw [k1, sb_some, f1, sb_some]
    · rw [if_neg e] at k1 ⊢
      rw [k1, sb_some, f1, sb_some]
  have hM : F_M_stuck t = (if x' = 0 then some 0 else if b = -1 then some 1 else some 0) := by
    unfold F_M_stuck
    rw [y1, sb_some, f2, sb_some]
    rcases f3 with rfl | ⟨q, hq, rfl, hl⟩
    · rw [if_neg (show ¬ (0 : Int32) ≤ -1 by decide), if_pos (show (-1 : Int32) = -1 from rfl)]
    · have := nI_lt0 (n := q) (by omega)
      rw [if_pos (show 0 ≤ nI q by grind), if_neg (show ¬ nI q = -1 by rw [nI_eqm1 (by omega)]; simp)]
  rw [hK, hM]
  split
  · exact ⟨0, rfl, rfl⟩
  · split
    · exact ⟨1, rfl, rfl⟩
    · exact ⟨0, rfl, rfl⟩
