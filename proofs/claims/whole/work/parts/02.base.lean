/-! Words for pure functions that mirror the code: guards, names, binds; and their one use in a walk. -/
def gd {α : Type} (b : Bool) (x : Option α) : Option α := if b = true then x else none
theorem gd_some {α : Type} {b : Bool} {x : Option α} {r : α} (h : gd b x = some r) : b = true ∧ x = some r := by
  unfold gd at h
  split at h
  · rename_i hb
    exact ⟨hb, h⟩
  · cases h
theorem gd_true {α : Type} {x : Option α} : gd true x = x := rfl
theorem gd_of {α : Type} {b : Bool} {x : Option α} (h : b = true) : gd b x = x := by rw [h]; rfl
/-- an index within n places -/
def inb (i : Int32) (n : Nat) : Bool := decide (¬ (i < 0 ∨ n ≤ i.toNatClampNeg))
theorem inb_in {i : Int32} {n : Nat} (h : inb i n = true) : vp_in i n := show ¬ (i < 0 ∨ n ≤ i.toNatClampNeg) from of_decide_eq_true h
theorem inb_lt {i : Int32} {n : Nat} (h : inb i n = true) : i.toNatClampNeg < n := by
  have h1 := of_decide_eq_true h
  omega
theorem inb_nI {k n : Nat} (h : k < n) (hn : n < 2 ^ 31) : inb (nI k) n = true := decide_eq_true (nI_in h hn)
/-- a truth value as an int -/
def bz (x : Int32) : Bool := decide (x = 0 ∨ x = 1)
theorem bz_nar {x : Int32} (h : bz x = true) : narrow .boolean (.int x) = .int x := by
  rcases of_decide_eq_true h with e | e <;> subst e <;> rfl
theorem bz_fit {x : Int32} (h : bz x = true) : fits .boolean (.int x) = true := by
  rcases of_decide_eq_true h with e | e <;> subst e <;> rfl
theorem bz_vp {x : Int32} (h : bz x = true) : vp_nar .boolean x = x := by
  rcases of_decide_eq_true h with e | e <;> subst e <;> rfl
/-- a name for a value -/
def lx {α β : Type} (v : α) (f : α → β) : β := f v
theorem lx_at {α β : Type} {v : α} {f : α → β} {r : β} (h : lx v f = r) (y : α) (e : y = v) : f y = r := by
  subst e
  exact h
theorem lx_ex {α β : Type} {v : α} {f : α → β} {r : β} (h : lx v f = r) : ∃ y, y = v ∧ f y = r := ⟨v, rfl, h⟩
def bd {α β : Type} (x : Option α) (f : α → Option β) : Option β := match x with
  | none => none
  | some a => f a
theorem bd_some {α β : Type} {x : Option α} {f : α → Option β} {r : β} (h : bd x f = some r) : ∃ a, x = some a ∧ f a = some r := by
  cases x with
  | none => cases h
  | some a => exact ⟨a, rfl, h⟩
theorem bd_of {α β : Type} {x : Option α} {f : α → Option β} {a : α} (h : x = some a) : bd x f = f a := by rw [h]; rfl
theorem ie_t {c : Prop} [Decidable c] {α : Type} {a b r : α} (h : (if c then a else b) = r) (hc : c) : a = r := by
  rw [if_pos hc] at h
  exact h
theorem ie_f {c : Prop} [Decidable c] {α : Type} {a b r : α} (h : (if c then a else b) = r) (hc : ¬ c) : b = r := by
  rw [if_neg hc] at h
  exact h
/-- a pure state: numbers and long numbers by kind, object and element -/
abbrev kS : Type := (Nat → Nat → Nat → Int32) × (Nat → Nat → Nat → Int64)
def gI (s : kS) (k j i : Nat) : Int32 := s.1 k j i
def gL (s : kS) (k j i : Nat) : Int64 := s.2 k j i
def sI (s : kS) (k j i : Nat) (v : Int32) : kS := (fun a b c => if a = k ∧ b = j ∧ c = i then v else s.1 a b c, s.2)
def sL (s : kS) (k j i : Nat) (v : Int64) : kS := (s.1, fun a b c => if a = k ∧ b = j ∧ c = i then v else s.2 a b c)
theorem gI_sI (s : kS) (k j i : Nat) (v : Int32) (a b c : Nat) : gI (sI s k j i v) a b c = if a = k ∧ b = j ∧ c = i then v else gI s a b c := rfl
theorem gL_sL (s : kS) (k j i : Nat) (v : Int64) (a b c : Nat) : gL (sL s k j i v) a b c = if a = k ∧ b = j ∧ c = i then v else gL s a b c := rfl
theorem gI_sL (s : kS) (k j i : Nat) (v : Int64) (a b c : Nat) : gI (sL s k j i v) a b c = gI s a b c := rfl
theorem gL_sI (s : kS) (k j i : Nat) (v : Int32) (a b c : Nat) : gL (sI s k j i v) a b c = gL s a b c := rfl
theorem gI_self (s : kS) (k j i : Nat) (v : Int32) : gI (sI s k j i v) k j i = v := by rw [gI_sI, if_pos ⟨rfl, rfl, rfl⟩]
theorem gL_self (s : kS) (k j i : Nat) (v : Int64) : gL (sL s k j i v) k j i = v := by rw [gL_sL, if_pos ⟨rfl, rfl, rfl⟩]
theorem gI_kind (s : kS) {k j i : Nat} {v : Int32} {a b c : Nat} (h : a ≠ k) : gI (sI s k j i v) a b c = gI s a b c := by rw [gI_sI, if_neg (fun q => h q.1)]
theorem gL_kind (s : kS) {k j i : Nat} {v : Int64} {a b c : Nat} (h : a ≠ k) : gL (sL s k j i v) a b c = gL s a b c := by rw [gL_sL, if_neg (fun q => h q.1)]
/-- a world: cells by family and number, at addresses by family and number -/
def wmap (cs : List (Nat × Nat)) (aa : Nat → Nat → Nat) (ce : Nat → Nat → va_E) : va_W := cs.map (fun x => (aa x.1 x.2, ce x.1 x.2))
theorem wmap_at {cs : List (Nat × Nat)} {aa : Nat → Nat → Nat} {ce : Nat → Nat → va_E} {k f n : Nat} (h : cs[k]? = some (f, n)) : (wmap cs aa ce)[k]? = some (aa f n, ce f n) := by
  unfold wmap
  rw [List.getElem?_map, h]
  rfl
theorem wmap_of {cs : List (Nat × Nat)} {aa : Nat → Nat → Nat} {ce : Nat → Nat → va_E} {k : Nat} {q : Nat × va_E} (h : (wmap cs aa ce)[k]? = some q) : ∃ f n, cs[k]? = some (f, n) ∧ q = (aa f n, ce f n) := by
  unfold wmap at h
  rw [List.getElem?_map] at h
  cases e : cs[k]? with
  | none => rw [e] at h; cases h
  | some x =>
    rw [e] at h
    obtain ⟨f, n⟩ := x
    exact ⟨f, n, rfl, (Option.some.inj h).symm⟩
theorem wmap_set {cs : List (Nat × Nat)} {aa : Nat → Nat → Nat} {ce ce' : Nat → Nat → va_E} {k f n : Nat} {e : va_E} (hn : cs.Nodup) (h : cs[k]? = some (f, n)) (h1 : ce' f n = e) (h2 : ∀ f' n' : Nat, ¬ (f' = f ∧ n' = n) → ce' f' n' = ce f' n') : (wmap cs aa ce).set k (aa f n, e) = wmap cs aa ce' := by
  apply List.ext_getElem?
  intro i
  by_cases hi : i = k
  · subst hi
    have hlt : i < (wmap cs aa ce).length := by
      unfold wmap
      rw [List.length_map]
      exact (List.getElem?_eq_some_iff.mp h).1
    rw [List.getElem?_set_self hlt, wmap_at h, h1]
  · rw [List.getElem?_set_ne (Ne.symm hi)]
    unfold wmap
    rw [List.getElem?_map, List.getElem?_map]
    cases e : cs[i]? with
    | none => rfl
    | some x =>
      obtain ⟨f', n'⟩ := x
      have hne : ¬ (f' = f ∧ n' = n) := by
        rintro ⟨rfl, rfl⟩
        obtain ⟨a1, b1⟩ := List.getElem?_eq_some_iff.mp h
        obtain ⟨a2, b2⟩ := List.getElem?_eq_some_iff.mp e
        rcases Nat.lt_or_gt_of_ne hi with z | z
        · exact (List.pairwise_iff_getElem.mp hn i k a2 a1 z) (b2.trans b1.symm)
        · exact (List.pairwise_iff_getElem.mp hn k i a1 a2 z) (b1.trans b2.symm)
      show some (aa f' n', ce f' n') = some (aa f' n', ce' f' n')
      rw [h2 f' n' hne]
/-- the addresses of a world's cells -/
def wA (cs : List (Nat × Nat)) (aa : Nat → Nat → Nat) : Nat → Prop := fun a => ∃ (k f n : Nat), cs[k]? = some (f, n) ∧ a = aa f n
def wJ (cs : List (Nat × Nat)) (aa : Nat → Nat → Nat) : Prop := ∀ (k k' f n f' n' : Nat), cs[k]? = some (f, n) → cs[k']? = some (f', n') → aa f n = aa f' n' → k = k'
theorem wmap_D {cs : List (Nat × Nat)} {aa : Nat → Nat → Nat} {ce : Nat → Nat → va_E} (hJ : wJ cs aa) : va_D (wA cs aa) (wmap cs aa ce) := by
  refine ⟨fun i j p q hp hq e => ?_, fun k q hq => ?_⟩
  · obtain ⟨f, n, h1, rfl⟩ := wmap_of hp
    obtain ⟨f', n', h2, rfl⟩ := wmap_of hq
    exact hJ i j f n f' n' h1 h2 e
  · obtain ⟨f, n, h1, rfl⟩ := wmap_of hq
    exact ⟨k, f, n, h1, rfl⟩
theorem ii_p1 (x : Int32) : x + Int32.ofInt 1 = x + 1 := rfl
theorem ii_m1 (x : Int32) : x + Int32.ofInt (-1) = x + (-1) := rfl
theorem ii_p5 (x : Int32) : x + Int32.ofInt 5 = x + 5 := rfl
