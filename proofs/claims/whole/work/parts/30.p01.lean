/-! Small numbers: rows by which simp reckons. -/
theorem sg_true {α : Type} (x : Option α) : gd true x = x := id rfl
theorem sb_some {α β : Type} (a : α) (f : α → Option β) : bd (some a) f = f a := id rfl
theorem sl_x {α β : Type} (a : α) (f : α → β) : lx a f = f a := id rfl
theorem nI_sub1 {n : Nat} (h : 0 < n) : nI n - 1 = nI (n - 1) := by
  obtain ⟨k, rfl⟩ : ∃ k, n = k + 1 := ⟨n - 1, by omega⟩
  rw [nI_pred]; rfl
theorem nI_addm1 {n : Nat} (h : 0 < n) : nI n + (-1) = nI (n - 1) := by
  rw [← nI_sub1 h]
  rw [Int32.sub_eq_add_neg]
theorem nI_lt0 {n : Nat} (h : n < 2 ^ 31) : (nI n < 0) = False := by
  rw [← nI_0, nI_ltI h (by omega)]; simp
theorem nI_le0 {n : Nat} (h : n < 2 ^ 31) : (nI n ≤ 0) = (n = 0) := by
  rw [← nI_0, nI_leI h (by omega)]; simp
theorem nI_0lt {n : Nat} (h : n < 2 ^ 31) : (0 < nI n) = (0 < n) := by
  rw [← nI_0, nI_ltI (by omega) h]
theorem nI_eqm1 {n : Nat} (h : n < 2 ^ 31) : (nI n = -1) = False := by
  have h1 := nI_toInt h
  refine eq_false fun e => ?_
  rw [e] at h1
  have h2 : (-1 : Int32).toInt = -1 := by decide
  omega
theorem nI_eqz {n : Nat} (h : n < 2 ^ 31) : (nI n = 0) = (n = 0) := by
  rw [← nI_0, nI_eq h (by omega)]
theorem cl_0 : (0 : Int32).toNatClampNeg = 0 := by decide
theorem inb_0 {n : Nat} (h : 0 < n) : inb 0 n = true := by
  rw [inb]
  apply decide_eq_true
  rw [cl_0]
  rintro (h1 | h1)
  · exact absurd h1 (by decide)
  · omega
theorem le_12 {n : Nat} (h : n < 2 ^ 31) : ((12 : Int32) ≤ nI n) = (12 ≤ n) := by
  rw [show (12 : Int32) = nI 12 from rfl, nI_leI (by omega) h]
theorem lt_12 {n : Nat} (h : n < 2 ^ 31) : (nI n < (12 : Int32)) = (n < 12) := by
  rw [show (12 : Int32) = nI 12 from rfl, nI_ltI h (by omega)]
theorem mul_10 (n : Nat) : (10 : Int32) * nI n = nI (10 * n) := (Int32.ofNat_mul 10 n).symm
theorem mul_4 (n : Nat) : (4 : Int32) * nI n = nI (4 * n) := (Int32.ofNat_mul 4 n).symm
theorem mul_16 (n : Nat) : (16 : Int32) * nI n = nI (16 * n) := (Int32.ofNat_mul 16 n).symm
theorem int_nI {x : Int32} (h : 0 ≤ x) : x = nI x.toNatClampNeg := by
  obtain ⟨j, hj, rfl⟩ := nI_of (x := x) (by grind)
  rw [nI_clamp hj]
/-- a row of a line's members -/
def sR (s : kS) (j : Nat) (f : Nat → Int32) : kS := (fun a b c => if a = 18 ∧ b = j then f c else s.1 a b c, s.2)
theorem gI_sR (s : kS) (j : Nat) (f : Nat → Int32) (a b c : Nat) : gI (sR s j f) a b c = if a = 18 ∧ b = j then f c else gI s a b c := rfl
theorem gL_sR (s : kS) (j : Nat) (f : Nat → Int32) (a b c : Nat) : gL (sR s j f) a b c = gL s a b c := rfl
theorem sR_id (s : kS) (j : Nat) : sR s j (fun i => gI s 18 j i) = s := by
  refine Prod.ext ?_ rfl
  funext a b c
  show (if a = 18 ∧ b = j then gI s 18 j c else s.1 a b c) = s.1 a b c
  split
  · rename_i h; rw [h.1, h.2]; rfl
  · rfl
theorem sI_sR (s : kS) (j : Nat) (f : Nat → Int32) (i : Nat) (v : Int32) : sI (sR s j f) 18 j i v = sR s j (fun x => if x = i then v else f x) := by
  refine Prod.ext ?_ rfl
  funext a b c
  show (if a = 18 ∧ b = j ∧ c = i then v else if a = 18 ∧ b = j then f c else s.1 a b c) = (if a = 18 ∧ b = j then (if c = i then v else f c) else s.1 a b c)
  by_cases h1 : a = 18 ∧ b = j
  · by_cases h2 : c = i <;> simp [h1, h2]
  · have : ¬ (a = 18 ∧ b = j ∧ c = i) := fun q => h1 ⟨q.1, q.2.1⟩
    simp [h1, this]
/-- a line and the list of its members -/
def LI (s : kS) (r : Nat) (l : List Nat) : Prop := gI s 19 r 0 = nI l.length ∧ ∀ i p : Nat, l[i]? = some p → gI s 18 r i = nI p
theorem drop_loop (s : kS) (j m T : Nat) (hT : T ≤ 12) (hm : m < 12) (hs : gI s 19 j 0 = nI T) : ∀ (l d : List Nat) (n c : Nat) (f : Nat → Int32), (∀ p ∈ l, p < 12) → c + l.length = T → d.length ≤ c → l.length < n → (∀ i p : Nat, d[i]? = some p → f i = nI p) → (∀ i p : Nat, l[i]? = some p → f (c + i) = nI p) → ∃ f' : Nat → Int32, F_L_drop_4 n (sR s j f) j (nI m) (nI d.length) (nI c) = some (sR s j f', nI (d ++ l.filter (fun p => p ≠ m)).length, nI T) ∧ ∀ i p : Nat, (d ++ l.filter (fun p => p ≠ m))[i]? = some p → f' i = nI p := by
  intro l
  induction l with
  | nil =>
    intro d n c f _ hc hd hn hf _
    obtain ⟨n, rfl⟩ : ∃ k, n = k + 1 := ⟨n - 1, by simp at hn; omega⟩
    have : c = T := by simpa using hc
    subst this
    refine ⟨f, ?_, ?_⟩
    · unfold F_L_drop_4
      have : gI (sR s j f) 19 j 0 = nI c := by rw [gI_sR]; simpa using hs
      rw [this, if_pos (by rw [nI_leI] <;> omega)]
      simp
    · simpa using hf
  | cons q l ih =>
    intro d n c f h12 hc hd hn hf hl
    obtain ⟨n, rfl⟩ : ∃ k, n = k + 1 := ⟨n - 1, by simp at hn; omega⟩
    simp only [List.length_cons] at hc hn
    unfold F_L_drop_4
    have h1 : gI (sR s j f) 19 j 0 = nI T := by rw [gI_sR]; simpa using hs
    have hq : q < 12 := h12 q (List.mem_cons_self ..)
    have h2 : gI (sR s j f) 18 j c = nI q := by
      rw [gI_sR, if_pos ⟨rfl, rfl⟩]
      simpa using hl 0 q rfl
    rw [h1, if_neg (by rw [nI_leI] <;> omega)]
    simp (disch := omega) only [inb_nI, sg_true, nI_clamp, h2, nI_eq, sl_x, sI_sR, nI_1]
    have hl' : ∀ i p : Nat, l[i]? = some p → f (c + 1 + i) = nI p := by
      intro i p hp
      have := hl (i + 1) p (by simpa using hp)
      rwa [show c + (i + 1) = c + 1 + i by omega] at this
    by_cases hqm : q = m
    · rw [if_pos hqm]
      have := ih d n (c + 1) f (fun p hp => h12 p (List.mem_cons_of_mem _ hp)) (by omega) (by omega) (by omega) hf hl'
      simpa [hqm] using this
    · rw [if_neg hqm]
      have := ih (d ++ [q]) n (c + 1) (fun x => if x = d.length then nI q else f x) (fun p hp => h12 p (List.mem_cons_of_mem _ hp)) (by omega) (by simp; omega) (by omega) ?_ ?_
      · simpa [hqm] using this
      · intro i p hp
        by_cases hi : i = d.length
        · subst hi
          simp at hp ⊢
          rw [hp]
        · simp only [hi, if_false]
          apply hf
          rw [List.getElem?_append] at hp
          split at hp
          · exact hp
          · have := List.getElem?_eq_some_iff.mp hp
            obtain ⟨h9, _⟩ := this
            simp at h9
            omega
      · intro i p hp
        show (if c + 1 + i = d.length then nI q else f (c + 1 + i)) = nI p
        rw [if_neg (by omega)]
        exact hl' i p hp
theorem L_drop (s : kS) (j m : Nat) (l : List Nat) (hm : m < 12) (hl : l.length ≤ 12) (h12 : ∀ p ∈ l, p < 12) (h : LI s j l) : ∃ f : Nat → Int32, F_L_drop s j (nI m) = some (sI (sR s j f) 19 j 0 (nI (l.filter (fun p => p ≠ m)).length)) ∧ ∀ i p : Nat, (l.filter (fun p => p ≠ m))[i]? = some p → f i = nI p := by
  obtain ⟨f', h1, h2⟩ := drop_loop s j m l.length hl hm h.1 l [] 1000 0 (fun i => gI s 18 j i) h12 (by simp) (by simp) (by omega) (by simp) (by simpa using h.2)
  rw [sR_id] at h1
  refine ⟨f', ?_, by simpa using h2⟩
  unfold F_L_drop
  simp only [List.length_nil, nI_0, List.nil_append] at h1
  rw [h1]
  rfl
theorem insert_loop (s : kS) (j at_ m : Nat) : ∀ (d n : Nat) (f : Nat → Int32), d < n → at_ + d < 12 → ∃ f' : Nat → Int32, F_L_insert_15 n (sR s j f) j (nI at_) (nI m) (nI (at_ + d)) = some (sR s j f', nI at_) ∧ ∀ x, f' x = if at_ < x ∧ x ≤ at_ + d then f (x - 1) else f x := by
  intro d
  induction d with
  | zero =>
    intro n f hn h
    obtain ⟨n, rfl⟩ : ∃ k, n = k + 1 := ⟨n - 1, by omega⟩
    refine ⟨f, ?_, ?_⟩
    · unfold F_L_insert_15
      rw [Nat.add_zero, if_pos (by rw [nI_leI] <;> omega)]
    · intro x
      rw [if_neg (by omega)]
  | succ d ih =>
    intro n f hn h
    obtain ⟨n, rfl⟩ : ∃ k, n = k + 1 := ⟨n - 1, by omega⟩
    obtain ⟨f', h1, h2⟩ := ih n (fun x => if x = at_ + (d + 1) then f (at_ + d) else f x) (by omega) (by omega)
    refine ⟨f', ?_, ?_⟩
    · unfold F_L_insert_15
      rw [if_neg (by rw [nI_leI] <;> omega)]
      simp (disch := omega) only [nI_sub1, nI_addm1, inb_nI, sg_true, nI_clamp, sl_x, sI_sR]
      rw [show gI (sR s j f) 18 j (at_ + (d + 1) - 1) = f (at_ + d) by rw [gI_sR, if_pos ⟨rfl, rfl⟩]; rfl]
      exact h1
    · intro x
      rw [h2 x]
      by_cases h3 : at_ < x ∧ x ≤ at_ + d
      · have hA : at_ < x ∧ x ≤ at_ + (d + 1) := by omega
        rw [if_pos h3, if_pos hA]
        show (if x - 1 = at_ + (d + 1) then f (at_ + d) else f (x - 1)) = f (x - 1)
        rw [if_neg (by omega)]
      · rw [if_neg h3]
        by_cases h4 : x = at_ + (d + 1)
        · subst h4
          simp
        · simp only [h4, if_false]
          rw [if_neg (by omega)]
theorem L_insert (s : kS) (j at_ m : Nat) (l : List Nat) (ha : at_ ≤ l.length) (hl : l.length < 12) (h : LI s j l) : ∃ f : Nat → Int32, F_L_insert s j (nI at_) (nI m) = some (sI (sR s j f) 19 j 0 (nI (l.length + 1))) ∧ ∀ i p : Nat, (l.take at_ ++ m :: l.drop at_)[i]? = some p → f i = nI p := by
  obtain ⟨f', h1, h2⟩ := insert_loop s j at_ m (l.length - at_) 1000 (fun i => gI s 18 j i) (by omega) (by omega)
  rw [sR_id, show at_ + (l.length - at_) = l.length by omega] at h1
  refine ⟨fun x => if x = at_ then nI m else f' x, ?_, ?_⟩
  · unfold F_L_insert
    rw [h.1, if_pos (by rw [lt_12] <;> omega)]
    simp (disch := omega) only [sl_x, h1, sb_some, inb_nI, sg_true, nI_clamp, sI_sR]
    rw [show gI (sR s j (fun x => if x = at_ then nI m else f' x)) 19 j 0 = nI l.length by rw [gI_sR, if_neg (by simp)]; exact h.1, nI_1]
  · intro i p hp
    show (if i = at_ then nI m else f' i) = nI p
    rcases Nat.lt_trichotomy i at_ with h3 | h3 | h3
    · rw [if_neg (by omega), h2, if_neg (by omega)]
      apply h.2
      rw [List.getElem?_append_left (by simp; omega), List.getElem?_take_of_lt h3] at hp
      exact hp
    · subst h3
      rw [List.getElem?_append_right (by simp; omega)] at hp
      simp [Nat.min_eq_left ha] at hp
      rw [if_pos rfl, hp]
    · rw [if_neg (by omega), h2]
      rw [List.getElem?_append_right (by simp; omega)] at hp
      simp [Nat.min_eq_left ha] at hp
      obtain ⟨k, rfl⟩ : ∃ k, i = at_ + 1 + k := ⟨i - at_ - 1, by omega⟩
      rw [show at_ + 1 + k - at_ = k + 1 by omega, List.getElem?_cons_succ, List.getElem?_drop] at hp
      have := (List.getElem?_eq_some_iff.mp hp).1
      rw [if_pos (by omega), show at_ + 1 + k - 1 = at_ + k by omega]
      exact h.2 _ _ hp
