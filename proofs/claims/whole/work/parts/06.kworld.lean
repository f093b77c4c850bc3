abbrev kCl : List vw_C := [(bR_K, bT_K, 9), (bR_P, bT_P, 16), (bR_L, bT_L, 2), (bR_E, bT_E, 6), (bR_T, bT_T, 2), (bR_C, bT_C, 3)]
abbrev kT (q : Nat → ClassId) : List (ClassId × FieldType) := [(q 0, .int), (q 1, .object bR_P), (q 2, .object bR_E), (q 3, .object bR_T)]
def kC : List (Nat × Nat) := [(0, 0), (1, 0), (2, 0), (3, 0), (4, 4), (5, 4), (6, 0), (7, 0), (8, 0), (9, 0), (10, 0), (11, 0), (12, 0), (13, 0), (9, 1), (10, 1), (11, 1), (12, 1), (13, 1), (9, 2), (10, 2), (11, 2), (12, 2), (13, 2), (9, 3), (10, 3), (11, 3), (12, 3), (13, 3), (9, 4), (10, 4), (11, 4), (12, 4), (13, 4), (9, 5), (10, 5), (11, 5), (12, 5), (13, 5), (9, 6), (10, 6), (11, 6), (12, 6), (13, 6), (9, 7), (10, 7), (11, 7), (12, 7), (13, 7), (9, 8), (10, 8), (11, 8), (12, 8), (13, 8), (9, 9), (10, 9), (11, 9), (12, 9), (13, 9), (9, 10), (10, 10), (11, 10), (12, 10), (13, 10), (9, 11), (10, 11), (11, 11), (12, 11), (13, 11), (14, 0), (4, 0), (5, 0), (14, 1), (4, 1), (5, 1), (14, 2), (4, 2), (5, 2), (14, 3), (4, 3), (5, 3), (15, 0), (15, 1), (15, 2), (15, 3)]
set_option maxRecDepth 20000 in
theorem kC_nd : kC.Nodup := by decide +kernel
def kF0 (aa : Nat → Nat → Nat) (σ : kS) (n : Nat) : List Value := [.ref (aa 1 0), .ref (aa 2 0), .ref (aa 3 0), .ref (aa 4 4), .ref (aa 6 0), .ref (aa 8 0), .int (gI σ 0 n 0), .long (gL σ 0 n 0), .long (gL σ 1 n 0)]
def kF4 (aa : Nat → Nat → Nat) (σ : kS) (n : Nat) : List Value := [.ref (aa 5 n), .int (gI σ 19 n 0)]
def kF6 (aa : Nat → Nat → Nat) (σ : kS) (n : Nat) : List Value := [.ref (aa 7 0), .int (gI σ 23 n 0), .int (gI σ 24 n 0)]
def kF9 (aa : Nat → Nat → Nat) (σ : kS) (n : Nat) : List Value := [.int (gI σ 2 n 0), .ref (aa 10 n), .ref (aa 11 n), .ref (aa 12 n), .ref (aa 13 n), .int (gI σ 3 n 0), .int (gI σ 4 n 0), .int (gI σ 5 n 0), .int (gI σ 6 n 0), .int (gI σ 7 n 0), .int (gI σ 8 n 0), .int (gI σ 9 n 0), .int (gI σ 10 n 0), .long (gL σ 2 n 0), .long (gL σ 3 n 0), .long (gL σ 4 n 0)]
def kF14 (aa : Nat → Nat → Nat) (σ : kS) (n : Nat) : List Value := [.ref (aa 4 n), .int (gI σ 15 n 0), .int (gI σ 16 n 0), .int (gI σ 17 n 0), .long (gL σ 5 n 0), .long (gL σ 6 n 0)]
def kF15 (aa : Nat → Nat → Nat) (σ : kS) (n : Nat) : List Value := [.int (gI σ 20 n 0), .int (gI σ 21 n 0)]
def kE (aa : Nat → Nat → Nat) (q : Nat → ClassId) (σ : kS) (f n : Nat) : va_E := match f with
  | 0 => .inr (0, kF0 aa σ n)
  | 1 => .inl (q 1, 12, .inr (.inr (.inr (.inr (fun j => some (aa 9 j))))))
  | 2 => .inl (q 2, 4, .inr (.inr (.inr (.inr (fun j => some (aa 14 j))))))
  | 3 => .inl (q 3, 4, .inr (.inr (.inr (.inr (fun j => some (aa 15 j))))))
  | 4 => .inr (2, kF4 aa σ n)
  | 5 => .inl (q 0, 12, .inl (fun i => gI σ 18 n i))
  | 6 => .inr (5, kF6 aa σ n)
  | 7 => .inl (q 0, 64, .inl (fun i => gI σ 22 n i))
  | 8 => .inl (q 0, 12, .inl (fun i => gI σ 1 n i))
  | 9 => .inr (1, kF9 aa σ n)
  | 10 => .inl (q 0, 10, .inl (fun i => gI σ 11 n i))
  | 11 => .inl (q 0, 10, .inl (fun i => gI σ 12 n i))
  | 12 => .inl (q 0, 10, .inl (fun i => gI σ 13 n i))
  | 13 => .inl (q 0, 4, .inl (fun i => gI σ 14 n i))
  | 14 => .inr (3, kF14 aa σ n)
  | 15 => .inr (4, kF15 aa σ n)
  | _ => .inr (0, [])
def kW (aa : Nat → Nat → Nat) (q : Nat → ClassId) (σ : kS) : va_W := wmap kC aa (kE aa q σ)
def kPre (D : va_G) (aa : Nat → Nat → Nat) (q : Nat → ClassId) (σ : kS) (U : State) : Prop := va_P D kCl (kW aa q σ) U.heap ∧ va_K D kCl (kT q) U
def kB (D : va_G) (aa : Nat → Nat → Nat) (q : Nat → ClassId) (u : kS) (t : State) : Prop := va_P D kCl (kW aa q u) t.heap ∧ va_K D kCl (kT q) t
theorem upd_sI (σ : kS) (k n i0 : Nat) (v : Int32) : upd (fun i => gI σ k n i) i0 v = fun i => gI (sI σ k n i0 v) k n i := by
  funext i
  show (if i = i0 then v else gI σ k n i) = _
  rw [gI_sI]
  by_cases h : i = i0
  · rw [if_pos h, if_pos ⟨rfl, rfl, h⟩]
  · rw [if_neg h, if_neg (fun q => h q.2.2)]
theorem upd_sL (σ : kS) (k n i0 : Nat) (v : Int64) : vp_updL (fun i => gL σ k n i) i0 v = fun i => gL (sL σ k n i0 v) k n i := by
  funext i
  show (if i = i0 then v else gL σ k n i) = _
  rw [gL_sL]
  by_cases h : i = i0
  · rw [if_pos h, if_pos ⟨rfl, rfl, h⟩]
  · rw [if_neg h, if_neg (fun q => h q.2.2)]
set_option maxRecDepth 20000 in
theorem kpos_0 : ∀ n, n < 1 → kC[0]? = some (0, n) := by decide +kernel
set_option maxRecDepth 20000 in
theorem kpos_1 : ∀ n, n < 1 → kC[1]? = some (1, n) := by decide +kernel
set_option maxRecDepth 20000 in
theorem kpos_2 : ∀ n, n < 1 → kC[2]? = some (2, n) := by decide +kernel
set_option maxRecDepth 20000 in
theorem kpos_3 : ∀ n, n < 1 → kC[3]? = some (3, n) := by decide +kernel
set_option maxRecDepth 20000 in
theorem kpos_4 : ∀ n, n < 5 → kC[if n = 4 then 4 else 70 + 3 * n]? = some (4, n) := by decide +kernel
set_option maxRecDepth 20000 in
theorem kpos_5 : ∀ n, n < 5 → kC[if n = 4 then 5 else 71 + 3 * n]? = some (5, n) := by decide +kernel
set_option maxRecDepth 20000 in
theorem kpos_6 : ∀ n, n < 1 → kC[6]? = some (6, n) := by decide +kernel
set_option maxRecDepth 20000 in
theorem kpos_7 : ∀ n, n < 1 → kC[7]? = some (7, n) := by decide +kernel
set_option maxRecDepth 20000 in
theorem kpos_8 : ∀ n, n < 1 → kC[8]? = some (8, n) := by decide +kernel
set_option maxRecDepth 20000 in
theorem kpos_9 : ∀ n, n < 12 → kC[9 + 5 * n]? = some (9, n) := by decide +kernel
set_option maxRecDepth 20000 in
theorem kpos_10 : ∀ n, n < 12 → kC[10 + 5 * n]? = some (10, n) := by decide +kernel
set_option maxRecDepth 20000 in
theorem kpos_11 : ∀ n, n < 12 → kC[11 + 5 * n]? = some (11, n) := by decide +kernel
set_option maxRecDepth 20000 in
theorem kpos_12 : ∀ n, n < 12 → kC[12 + 5 * n]? = some (12, n) := by decide +kernel
set_option maxRecDepth 20000 in
theorem kpos_13 : ∀ n, n < 12 → kC[13 + 5 * n]? = some (13, n) := by decide +kernel
set_option maxRecDepth 20000 in
theorem kpos_14 : ∀ n, n < 4 → kC[69 + 3 * n]? = some (14, n) := by decide +kernel
set_option maxRecDepth 20000 in
theorem kpos_15 : ∀ n, n < 4 → kC[81 + n]? = some (15, n) := by decide +kernel
section
variable {p : Program} {l : Launch} {e : Env} {R : Room} {s : State} {m : MethodId} {args : Array Value} {below : List Frame} {meth : Method} {c : Code} {H : Heap} {locs : List Loc} {cells slots : Nat} {Q : State → Prop}
variable {cc : ByteArray} {pc : Nat} {ls : Array Slot} {rest st0 : List Value} {own : String} {index : Nat} {D : va_G} {aa : Nat → Nat → Nat} {q : Nat → ClassId} {σ : kS} {n : Nat}
theorem kat_0 (hn : n < 1) : (kW aa q σ)[0]? = some (aa 0 n, .inr (0, kF0 aa σ n)) := wmap_at (kpos_0 n hn)
theorem kat_1 (hn : n < 1) : (kW aa q σ)[1]? = some (aa 1 n, .inl (q 1, 12, .inr (.inr (.inr (.inr (fun j => some (aa 9 j))))))) := wmap_at (kpos_1 n hn)
theorem kat_2 (hn : n < 1) : (kW aa q σ)[2]? = some (aa 2 n, .inl (q 2, 4, .inr (.inr (.inr (.inr (fun j => some (aa 14 j))))))) := wmap_at (kpos_2 n hn)
theorem kat_3 (hn : n < 1) : (kW aa q σ)[3]? = some (aa 3 n, .inl (q 3, 4, .inr (.inr (.inr (.inr (fun j => some (aa 15 j))))))) := wmap_at (kpos_3 n hn)
theorem kat_4 (hn : n < 5) : (kW aa q σ)[if n = 4 then 4 else 70 + 3 * n]? = some (aa 4 n, .inr (2, kF4 aa σ n)) := wmap_at (kpos_4 n hn)
theorem kat_5 (hn : n < 5) : (kW aa q σ)[if n = 4 then 5 else 71 + 3 * n]? = some (aa 5 n, .inl (q 0, 12, .inl (fun i => gI σ 18 n i))) := wmap_at (kpos_5 n hn)
theorem kat_6 (hn : n < 1) : (kW aa q σ)[6]? = some (aa 6 n, .inr (5, kF6 aa σ n)) := wmap_at (kpos_6 n hn)
theorem kat_7 (hn : n < 1) : (kW aa q σ)[7]? = some (aa 7 n, .inl (q 0, 64, .inl (fun i => gI σ 22 n i))) := wmap_at (kpos_7 n hn)
theorem kat_8 (hn : n < 1) : (kW aa q σ)[8]? = some (aa 8 n, .inl (q 0, 12, .inl (fun i => gI σ 1 n i))) := wmap_at (kpos_8 n hn)
theorem kat_9 (hn : n < 12) : (kW aa q σ)[9 + 5 * n]? = some (aa 9 n, .inr (1, kF9 aa σ n)) := wmap_at (kpos_9 n hn)
theorem kat_10 (hn : n < 12) : (kW aa q σ)[10 + 5 * n]? = some (aa 10 n, .inl (q 0, 10, .inl (fun i => gI σ 11 n i))) := wmap_at (kpos_10 n hn)
theorem kat_11 (hn : n < 12) : (kW aa q σ)[11 + 5 * n]? = some (aa 11 n, .inl (q 0, 10, .inl (fun i => gI σ 12 n i))) := wmap_at (kpos_11 n hn)
theorem kat_12 (hn : n < 12) : (kW aa q σ)[12 + 5 * n]? = some (aa 12 n, .inl (q 0, 10, .inl (fun i => gI σ 13 n i))) := wmap_at (kpos_12 n hn)
theorem kat_13 (hn : n < 12) : (kW aa q σ)[13 + 5 * n]? = some (aa 13 n, .inl (q 0, 4, .inl (fun i => gI σ 14 n i))) := wmap_at (kpos_13 n hn)
theorem kat_14 (hn : n < 4) : (kW aa q σ)[69 + 3 * n]? = some (aa 14 n, .inr (3, kF14 aa σ n)) := wmap_at (kpos_14 n hn)
theorem kat_15 (hn : n < 4) : (kW aa q σ)[81 + n]? = some (aa 15 n, .inr (4, kF15 aa σ n)) := wmap_at (kpos_15 n hn)
theorem kg_0 (hx : p.tables.exec = Jvm.exec) (hb : c.code = cc) (ht : ∀ w ∈ lw_g, w.before args s = true) (hown : s.vm.findClass own = some m.cls) (hK : va_K D kCl (kT q) s) (hP : va_P D kCl (kW aa q σ) H) (hn : n < 1) (k : Nat) (hk : k < 9) (hl : Cond.fieldLink own index bR_K (bT_K k).2.1 (bT_K k).2.2.1 ∈ lw_g) {v : Value} (hv : (kF0 aa σ n)[k]? = some v) (hd : decode cc pc = .ok (.getfield index, 3)) (kk : W p l e R s m args below meth c H locs cells slots Q (F0 m (pc + 3) ls (v :: rest))) : W p l e R s m args below meth c H locs cells slots Q (F0 m pc ls (.ref (aa 0 n) :: rest)) :=
  va_get (D := D) (C := bR_K) (T := bT_K) (N := 9) hx hb ht bin_K hown hK hP 0 (kat_0 hn) rfl k hk (ht _ hl) (fun y9 h9 => by rw [bcl_K] at h9; exact h9) hv hd kk
theorem kr_0 (hK : va_K D kCl (kT q) s) (hP : va_P D kCl (kW aa q σ) H) (hn : n < 1) : ∃ cell : Cell, H[aa 0 n]? = some cell ∧ cell.vm.isStatics = false ∧ s.vm.findClass bR_K = some cell.cls := va_recv (q := (bR_K, bT_K, 9)) hK hP rfl (kat_0 hn)
theorem kset_0_made {v : Int32} (hn : n < 1) : (kW aa q σ).set 0 (aa 0 n, .inr (0, (kF0 aa σ n).set 6 (.int v))) = kW aa q (sI σ 0 n 0 v) := by
  refine wmap_set kC_nd (kpos_0 n hn) ?_ ?_
  · simp [kE, kF0, gI_sI, gL_sL, gI_sL, gL_sI]
  · intro f9 n9 hne
    match f9, hne with
    | 0, hne =>
      have hn9 : ¬ n9 = n := fun e9 => hne ⟨rfl, e9⟩
      simp [kE, kF0, gI_sI, gL_sL, gI_sL, gL_sI, hn9]
    | 1, _ => rfl
    | 2, _ => rfl
    | 3, _ => rfl
    | 4, _ => rfl
    | 5, _ => rfl
    | 6, _ => rfl
    | 7, _ => rfl
    | 8, _ => rfl
    | 9, _ => rfl
    | 10, _ => rfl
    | 11, _ => rfl
    | 12, _ => rfl
    | 13, _ => rfl
    | 14, _ => rfl
    | 15, _ => rfl
    | k9 + 16, _ => rfl
theorem kp_0_made (hx : p.tables.exec = Jvm.exec) (hb : c.code = cc) (ht : ∀ w ∈ lw_g, w.before args s = true) (hown : s.vm.findClass own = some m.cls) (hK : va_K D kCl (kT q) s) (hP : va_P D kCl (kW aa q σ) H) (hJ : wJ kC aa) (hS : va_S (wA kC aa) s.heap H locs) (hn : n < 1) {v : Int32} (hl : Cond.fieldLink own index bR_K "made" "I" ∈ lw_g) (hd : decode cc pc = .ok (.putfield index, 3)) (kk : ∀ (H1 : Heap) (locs1 : List Loc), va_P D kCl (kW aa q (sI σ 0 n 0 v)) H1 → va_S (wA kC aa) s.heap H1 locs1 → W p l e R s m args below meth c H1 locs1 cells slots Q (F0 m (pc + 3) ls rest)) : W p l e R s m args below meth c H locs cells slots Q (F0 m pc ls (.int v :: .ref (aa 0 n) :: rest)) := by
  refine va_put (D := D) (v := .int v) (ty := .int) (C := bR_K) (T := bT_K) (N := 9) hx hb ht bin_K bty_K bo_K bn_K hown hK hP (wmap_D hJ) hS 0 (kat_0 hn) rfl 6 (by decide) (ht _ hl) (fun _ h9 => h9) rfl (by decide +kernel) rfl rfl (Nat.le_of_ble_eq_true rfl) hd (fun H1 locs1 hP1 _ hS1 => kk H1 locs1 ?_ hS1)
  rw [← kset_0_made hn]
  exact hP1
theorem kset_0_clock {v : Int64} (hn : n < 1) : (kW aa q σ).set 0 (aa 0 n, .inr (0, (kF0 aa σ n).set 7 (.long v))) = kW aa q (sL σ 0 n 0 v) := by
  refine wmap_set kC_nd (kpos_0 n hn) ?_ ?_
  · simp [kE, kF0, gI_sI, gL_sL, gI_sL, gL_sI]
  · intro f9 n9 hne
    match f9, hne with
    | 0, hne =>
      have hn9 : ¬ n9 = n := fun e9 => hne ⟨rfl, e9⟩
      simp [kE, kF0, gI_sI, gL_sL, gI_sL, gL_sI, hn9]
    | 1, _ => rfl
    | 2, _ => rfl
    | 3, _ => rfl
    | 4, _ => rfl
    | 5, _ => rfl
    | 6, _ => rfl
    | 7, _ => rfl
    | 8, _ => rfl
    | 9, _ => rfl
    | 10, _ => rfl
    | 11, _ => rfl
    | 12, _ => rfl
    | 13, _ => rfl
    | 14, _ => rfl
    | 15, _ => rfl
    | k9 + 16, _ => rfl
theorem kp_0_clock (hx : p.tables.exec = Jvm.exec) (hb : c.code = cc) (ht : ∀ w ∈ lw_g, w.before args s = true) (hown : s.vm.findClass own = some m.cls) (hK : va_K D kCl (kT q) s) (hP : va_P D kCl (kW aa q σ) H) (hJ : wJ kC aa) (hS : va_S (wA kC aa) s.heap H locs) (hn : n < 1) {v : Int64} (hl : Cond.fieldLink own index bR_K "clock" "J" ∈ lw_g) (hd : decode cc pc = .ok (.putfield index, 3)) (kk : ∀ (H1 : Heap) (locs1 : List Loc), va_P D kCl (kW aa q (sL σ 0 n 0 v)) H1 → va_S (wA kC aa) s.heap H1 locs1 → W p l e R s m args below meth c H1 locs1 cells slots Q (F0 m (pc + 3) ls rest)) : W p l e R s m args below meth c H locs cells slots Q (F0 m pc ls (.long v :: .ref (aa 0 n) :: rest)) := by
  refine va_put (D := D) (v := .long v) (ty := .long) (C := bR_K) (T := bT_K) (N := 9) hx hb ht bin_K bty_K bo_K bn_K hown hK hP (wmap_D hJ) hS 0 (kat_0 hn) rfl 7 (by decide) (ht _ hl) (fun _ h9 => h9) rfl (by decide +kernel) rfl rfl (Nat.le_of_ble_eq_true rfl) hd (fun H1 locs1 hP1 _ hS1 => kk H1 locs1 ?_ hS1)
  rw [← kset_0_clock hn]
  exact hP1
theorem kset_0_entries {v : Int64} (hn : n < 1) : (kW aa q σ).set 0 (aa 0 n, .inr (0, (kF0 aa σ n).set 8 (.long v))) = kW aa q (sL σ 1 n 0 v) := by
  refine wmap_set kC_nd (kpos_0 n hn) ?_ ?_
  · simp [kE, kF0, gI_sI, gL_sL, gI_sL, gL_sI]
  · intro f9 n9 hne
    match f9, hne with
    | 0, hne =>
      have hn9 : ¬ n9 = n := fun e9 => hne ⟨rfl, e9⟩
      simp [kE, kF0, gI_sI, gL_sL, gI_sL, gL_sI, hn9]
    | 1, _ => rfl
    | 2, _ => rfl
    | 3, _ => rfl
    | 4, _ => rfl
    | 5, _ => rfl
    | 6, _ => rfl
    | 7, _ => rfl
    | 8, _ => rfl
    | 9, _ => rfl
    | 10, _ => rfl
    | 11, _ => rfl
    | 12, _ => rfl
    | 13, _ => rfl
    | 14, _ => rfl
    | 15, _ => rfl
    | k9 + 16, _ => rfl
theorem kp_0_entries (hx : p.tables.exec = Jvm.exec) (hb : c.code = cc) (ht : ∀ w ∈ lw_g, w.before args s = true) (hown : s.vm.findClass own = some m.cls) (hK : va_K D kCl (kT q) s) (hP : va_P D kCl (kW aa q σ) H) (hJ : wJ kC aa) (hS : va_S (wA kC aa) s.heap H locs) (hn : n < 1) {v : Int64} (hl : Cond.fieldLink own index bR_K "entries" "J" ∈ lw_g) (hd : decode cc pc = .ok (.putfield index, 3)) (kk : ∀ (H1 : Heap) (locs1 : List Loc), va_P D kCl (kW aa q (sL σ 1 n 0 v)) H1 → va_S (wA kC aa) s.heap H1 locs1 → W p l e R s m args below meth c H1 locs1 cells slots Q (F0 m (pc + 3) ls rest)) : W p l e R s m args below meth c H locs cells slots Q (F0 m pc ls (.long v :: .ref (aa 0 n) :: rest)) := by
  refine va_put (D := D) (v := .long v) (ty := .long) (C := bR_K) (T := bT_K) (N := 9) hx hb ht bin_K bty_K bo_K bn_K hown hK hP (wmap_D hJ) hS 0 (kat_0 hn) rfl 8 (by decide) (ht _ hl) (fun _ h9 => h9) rfl (by decide +kernel) rfl rfl (Nat.le_of_ble_eq_true rfl) hd (fun H1 locs1 hP1 _ hS1 => kk H1 locs1 ?_ hS1)
  rw [← kset_0_entries hn]
  exact hP1
theorem kg_4 (hx : p.tables.exec = Jvm.exec) (hb : c.code = cc) (ht : ∀ w ∈ lw_g, w.before args s = true) (hown : s.vm.findClass own = some m.cls) (hK : va_K D kCl (kT q) s) (hP : va_P D kCl (kW aa q σ) H) (hn : n < 5) (k : Nat) (hk : k < 2) (hl : Cond.fieldLink own index bR_L (bT_L k).2.1 (bT_L k).2.2.1 ∈ lw_g) {v : Value} (hv : (kF4 aa σ n)[k]? = some v) (hd : decode cc pc = .ok (.getfield index, 3)) (kk : W p l e R s m args below meth c H locs cells slots Q (F0 m (pc + 3) ls (v :: rest))) : W p l e R s m args below meth c H locs cells slots Q (F0 m pc ls (.ref (aa 4 n) :: rest)) :=
  va_get (D := D) (C := bR_L) (T := bT_L) (N := 2) hx hb ht bin_L hown hK hP (if n = 4 then 4 else 70 + 3 * n) (kat_4 hn) rfl k hk (ht _ hl) (fun y9 h9 => by rw [bcl_L] at h9; exact h9) hv hd kk
theorem kr_4 (hK : va_K D kCl (kT q) s) (hP : va_P D kCl (kW aa q σ) H) (hn : n < 5) : ∃ cell : Cell, H[aa 4 n]? = some cell ∧ cell.vm.isStatics = false ∧ s.vm.findClass bR_L = some cell.cls := va_recv (q := (bR_L, bT_L, 2)) hK hP rfl (kat_4 hn)
theorem kset_4_size {v : Int32} (hn : n < 5) : (kW aa q σ).set (if n = 4 then 4 else 70 + 3 * n) (aa 4 n, .inr (2, (kF4 aa σ n).set 1 (.int v))) = kW aa q (sI σ 19 n 0 v) := by
  refine wmap_set kC_nd (kpos_4 n hn) ?_ ?_
  · simp [kE, kF4, gI_sI, gL_sL, gI_sL, gL_sI]
  · intro f9 n9 hne
    match f9, hne with
    | 0, _ => rfl
    | 1, _ => rfl
    | 2, _ => rfl
    | 3, _ => rfl
    | 4, hne =>
      have hn9 : ¬ n9 = n := fun e9 => hne ⟨rfl, e9⟩
      simp [kE, kF4, gI_sI, gL_sL, gI_sL, gL_sI, hn9]
    | 5, _ => rfl
    | 6, _ => rfl
    | 7, _ => rfl
    | 8, _ => rfl
    | 9, _ => rfl
    | 10, _ => rfl
    | 11, _ => rfl
    | 12, _ => rfl
    | 13, _ => rfl
    | 14, _ => rfl
    | 15, _ => rfl
    | k9 + 16, _ => rfl
theorem kp_4_size (hx : p.tables.exec = Jvm.exec) (hb : c.code = cc) (ht : ∀ w ∈ lw_g, w.before args s = true) (hown : s.vm.findClass own = some m.cls) (hK : va_K D kCl (kT q) s) (hP : va_P D kCl (kW aa q σ) H) (hJ : wJ kC aa) (hS : va_S (wA kC aa) s.heap H locs) (hn : n < 5) {v : Int32} (hl : Cond.fieldLink own index bR_L "size" "I" ∈ lw_g) (hd : decode cc pc = .ok (.putfield index, 3)) (kk : ∀ (H1 : Heap) (locs1 : List Loc), va_P D kCl (kW aa q (sI σ 19 n 0 v)) H1 → va_S (wA kC aa) s.heap H1 locs1 → W p l e R s m args below meth c H1 locs1 cells slots Q (F0 m (pc + 3) ls rest)) : W p l e R s m args below meth c H locs cells slots Q (F0 m pc ls (.int v :: .ref (aa 4 n) :: rest)) := by
  refine va_put (D := D) (v := .int v) (ty := .int) (C := bR_L) (T := bT_L) (N := 2) hx hb ht bin_L bty_L bo_L bn_L hown hK hP (wmap_D hJ) hS (if n = 4 then 4 else 70 + 3 * n) (kat_4 hn) rfl 1 (by decide) (ht _ hl) (fun _ h9 => h9) rfl (by decide +kernel) rfl rfl (Nat.le_of_ble_eq_true rfl) hd (fun H1 locs1 hP1 _ hS1 => kk H1 locs1 ?_ hS1)
  rw [← kset_4_size hn]
  exact hP1
theorem kg_6 (hx : p.tables.exec = Jvm.exec) (hb : c.code = cc) (ht : ∀ w ∈ lw_g, w.before args s = true) (hown : s.vm.findClass own = some m.cls) (hK : va_K D kCl (kT q) s) (hP : va_P D kCl (kW aa q σ) H) (hn : n < 1) (k : Nat) (hk : k < 3) (hl : Cond.fieldLink own index bR_C (bT_C k).2.1 (bT_C k).2.2.1 ∈ lw_g) {v : Value} (hv : (kF6 aa σ n)[k]? = some v) (hd : decode cc pc = .ok (.getfield index, 3)) (kk : W p l e R s m args below meth c H locs cells slots Q (F0 m (pc + 3) ls (v :: rest))) : W p l e R s m args below meth c H locs cells slots Q (F0 m pc ls (.ref (aa 6 n) :: rest)) :=
  va_get (D := D) (C := bR_C) (T := bT_C) (N := 3) hx hb ht bin_C hown hK hP 6 (kat_6 hn) rfl k hk (ht _ hl) (fun y9 h9 => by rw [bcl_C] at h9; exact h9) hv hd kk
theorem kr_6 (hK : va_K D kCl (kT q) s) (hP : va_P D kCl (kW aa q σ) H) (hn : n < 1) : ∃ cell : Cell, H[aa 6 n]? = some cell ∧ cell.vm.isStatics = false ∧ s.vm.findClass bR_C = some cell.cls := va_recv (q := (bR_C, bT_C, 3)) hK hP rfl (kat_6 hn)
theorem kset_6_latest {v : Int32} (hn : n < 1) : (kW aa q σ).set 6 (aa 6 n, .inr (5, (kF6 aa σ n).set 1 (.int v))) = kW aa q (sI σ 23 n 0 v) := by
  refine wmap_set kC_nd (kpos_6 n hn) ?_ ?_
  · simp [kE, kF6, gI_sI, gL_sL, gI_sL, gL_sI]
  · intro f9 n9 hne
    match f9, hne with
    | 0, _ => rfl
    | 1, _ => rfl
    | 2, _ => rfl
    | 3, _ => rfl
    | 4, _ => rfl
    | 5, _ => rfl
    | 6, hne =>
      have hn9 : ¬ n9 = n := fun e9 => hne ⟨rfl, e9⟩
      simp [kE, kF6, gI_sI, gL_sL, gI_sL, gL_sI, hn9]
    | 7, _ => rfl
    | 8, _ => rfl
    | 9, _ => rfl
    | 10, _ => rfl
    | 11, _ => rfl
    | 12, _ => rfl
    | 13, _ => rfl
    | 14, _ => rfl
    | 15, _ => rfl
    | k9 + 16, _ => rfl
theorem kp_6_latest (hx : p.tables.exec = Jvm.exec) (hb : c.code = cc) (ht : ∀ w ∈ lw_g, w.before args s = true) (hown : s.vm.findClass own = some m.cls) (hK : va_K D kCl (kT q) s) (hP : va_P D kCl (kW aa q σ) H) (hJ : wJ kC aa) (hS : va_S (wA kC aa) s.heap H locs) (hn : n < 1) {v : Int32} (hl : Cond.fieldLink own index bR_C "latest" "I" ∈ lw_g) (hd : decode cc pc = .ok (.putfield index, 3)) (kk : ∀ (H1 : Heap) (locs1 : List Loc), va_P D kCl (kW aa q (sI σ 23 n 0 v)) H1 → va_S (wA kC aa) s.heap H1 locs1 → W p l e R s m args below meth c H1 locs1 cells slots Q (F0 m (pc + 3) ls rest)) : W p l e R s m args below meth c H locs cells slots Q (F0 m pc ls (.int v :: .ref (aa 6 n) :: rest)) := by
  refine va_put (D := D) (v := .int v) (ty := .int) (C := bR_C) (T := bT_C) (N := 3) hx hb ht bin_C bty_C bo_C bn_C hown hK hP (wmap_D hJ) hS 6 (kat_6 hn) rfl 1 (by decide) (ht _ hl) (fun _ h9 => h9) rfl (by decide +kernel) rfl rfl (Nat.le_of_ble_eq_true rfl) hd (fun H1 locs1 hP1 _ hS1 => kk H1 locs1 ?_ hS1)
  rw [← kset_6_latest hn]
  exact hP1
theorem kset_6_size {v : Int32} (hn : n < 1) : (kW aa q σ).set 6 (aa 6 n, .inr (5, (kF6 aa σ n).set 2 (.int v))) = kW aa q (sI σ 24 n 0 v) := by
  refine wmap_set kC_nd (kpos_6 n hn) ?_ ?_
  · simp [kE, kF6, gI_sI, gL_sL, gI_sL, gL_sI]
  · intro f9 n9 hne
    match f9, hne with
    | 0, _ => rfl
    | 1, _ => rfl
    | 2, _ => rfl
    | 3, _ => rfl
    | 4, _ => rfl
    | 5, _ => rfl
    | 6, hne =>
      have hn9 : ¬ n9 = n := fun e9 => hne ⟨rfl, e9⟩
      simp [kE, kF6, gI_sI, gL_sL, gI_sL, gL_sI, hn9]
    | 7, _ => rfl
    | 8, _ => rfl
    | 9, _ => rfl
    | 10, _ => rfl
    | 11, _ => rfl
    | 12, _ => rfl
    | 13, _ => rfl
    | 14, _ => rfl
    | 15, _ => rfl
    | k9 + 16, _ => rfl
theorem kp_6_size (hx : p.tables.exec = Jvm.exec) (hb : c.code = cc) (ht : ∀ w ∈ lw_g, w.before args s = true) (hown : s.vm.findClass own = some m.cls) (hK : va_K D kCl (kT q) s) (hP : va_P D kCl (kW aa q σ) H) (hJ : wJ kC aa) (hS : va_S (wA kC aa) s.heap H locs) (hn : n < 1) {v : Int32} (hl : Cond.fieldLink own index bR_C "size" "I" ∈ lw_g) (hd : decode cc pc = .ok (.putfield index, 3)) (kk : ∀ (H1 : Heap) (locs1 : List Loc), va_P D kCl (kW aa q (sI σ 24 n 0 v)) H1 → va_S (wA kC aa) s.heap H1 locs1 → W p l e R s m args below meth c H1 locs1 cells slots Q (F0 m (pc + 3) ls rest)) : W p l e R s m args below meth c H locs cells slots Q (F0 m pc ls (.int v :: .ref (aa 6 n) :: rest)) := by
  refine va_put (D := D) (v := .int v) (ty := .int) (C := bR_C) (T := bT_C) (N := 3) hx hb ht bin_C bty_C bo_C bn_C hown hK hP (wmap_D hJ) hS 6 (kat_6 hn) rfl 2 (by decide) (ht _ hl) (fun _ h9 => h9) rfl (by decide +kernel) rfl rfl (Nat.le_of_ble_eq_true rfl) hd (fun H1 locs1 hP1 _ hS1 => kk H1 locs1 ?_ hS1)
  rw [← kset_6_size hn]
  exact hP1
theorem kg_9 (hx : p.tables.exec = Jvm.exec) (hb : c.code = cc) (ht : ∀ w ∈ lw_g, w.before args s = true) (hown : s.vm.findClass own = some m.cls) (hK : va_K D kCl (kT q) s) (hP : va_P D kCl (kW aa q σ) H) (hn : n < 12) (k : Nat) (hk : k < 16) (hl : Cond.fieldLink own index bR_P (bT_P k).2.1 (bT_P k).2.2.1 ∈ lw_g) {v : Value} (hv : (kF9 aa σ n)[k]? = some v) (hd : decode cc pc = .ok (.getfield index, 3)) (kk : W p l e R s m args below meth c H locs cells slots Q (F0 m (pc + 3) ls (v :: rest))) : W p l e R s m args below meth c H locs cells slots Q (F0 m pc ls (.ref (aa 9 n) :: rest)) :=
  va_get (D := D) (C := bR_P) (T := bT_P) (N := 16) hx hb ht bin_P hown hK hP (9 + 5 * n) (kat_9 hn) rfl k hk (ht _ hl) (fun y9 h9 => by rw [bcl_P] at h9; exact h9) hv hd kk
theorem kr_9 (hK : va_K D kCl (kT q) s) (hP : va_P D kCl (kW aa q σ) H) (hn : n < 12) : ∃ cell : Cell, H[aa 9 n]? = some cell ∧ cell.vm.isStatics = false ∧ s.vm.findClass bR_P = some cell.cls := va_recv (q := (bR_P, bT_P, 16)) hK hP rfl (kat_9 hn)
theorem kset_9_length {v : Int32} (hn : n < 12) : (kW aa q σ).set (9 + 5 * n) (aa 9 n, .inr (1, (kF9 aa σ n).set 5 (.int v))) = kW aa q (sI σ 3 n 0 v) := by
  refine wmap_set kC_nd (kpos_9 n hn) ?_ ?_
  · simp [kE, kF9, gI_sI, gL_sL, gI_sL, gL_sI]
  · intro f9 n9 hne
    match f9, hne with
    | 0, _ => rfl
    | 1, _ => rfl
    | 2, _ => rfl
    | 3, _ => rfl
    | 4, _ => rfl
    | 5, _ => rfl
    | 6, _ => rfl
    | 7, _ => rfl
    | 8, _ => rfl
    | 9, hne =>
      have hn9 : ¬ n9 = n := fun e9 => hne ⟨rfl, e9⟩
      simp [kE, kF9, gI_sI, gL_sL, gI_sL, gL_sI, hn9]
    | 10, _ => rfl
    | 11, _ => rfl
    | 12, _ => rfl
    | 13, _ => rfl
    | 14, _ => rfl
    | 15, _ => rfl
    | k9 + 16, _ => rfl
theorem kp_9_length (hx : p.tables.exec = Jvm.exec) (hb : c.code = cc) (ht : ∀ w ∈ lw_g, w.before args s = true) (hown : s.vm.findClass own = some m.cls) (hK : va_K D kCl (kT q) s) (hP : va_P D kCl (kW aa q σ) H) (hJ : wJ kC aa) (hS : va_S (wA kC aa) s.heap H locs) (hn : n < 12) {v : Int32} (hl : Cond.fieldLink own index bR_P "length" "I" ∈ lw_g) (hd : decode cc pc = .ok (.putfield index, 3)) (kk : ∀ (H1 : Heap) (locs1 : List Loc), va_P D kCl (kW aa q (sI σ 3 n 0 v)) H1 → va_S (wA kC aa) s.heap H1 locs1 → W p l e R s m args below meth c H1 locs1 cells slots Q (F0 m (pc + 3) ls rest)) : W p l e R s m args below meth c H locs cells slots Q (F0 m pc ls (.int v :: .ref (aa 9 n) :: rest)) := by
  refine va_put (D := D) (v := .int v) (ty := .int) (C := bR_P) (T := bT_P) (N := 16) hx hb ht bin_P bty_P bo_P bn_P hown hK hP (wmap_D hJ) hS (9 + 5 * n) (kat_9 hn) rfl 5 (by decide) (ht _ hl) (fun _ h9 => h9) rfl (by decide +kernel) rfl rfl (Nat.le_of_ble_eq_true rfl) hd (fun H1 locs1 hP1 _ hS1 => kk H1 locs1 ?_ hS1)
  rw [← kset_9_length hn]
  exact hP1
theorem kset_9_priority {v : Int32} (hn : n < 12) : (kW aa q σ).set (9 + 5 * n) (aa 9 n, .inr (1, (kF9 aa σ n).set 6 (.int v))) = kW aa q (sI σ 4 n 0 v) := by
  refine wmap_set kC_nd (kpos_9 n hn) ?_ ?_
  · simp [kE, kF9, gI_sI, gL_sL, gI_sL, gL_sI]
  · intro f9 n9 hne
    match f9, hne with
    | 0, _ => rfl
    | 1, _ => rfl
    | 2, _ => rfl
    | 3, _ => rfl
    | 4, _ => rfl
    | 5, _ => rfl
    | 6, _ => rfl
    | 7, _ => rfl
    | 8, _ => rfl
    | 9, hne =>
      have hn9 : ¬ n9 = n := fun e9 => hne ⟨rfl, e9⟩
      simp [kE, kF9, gI_sI, gL_sL, gI_sL, gL_sI, hn9]
    | 10, _ => rfl
    | 11, _ => rfl
    | 12, _ => rfl
    | 13, _ => rfl
    | 14, _ => rfl
    | 15, _ => rfl
    | k9 + 16, _ => rfl
theorem kp_9_priority (hx : p.tables.exec = Jvm.exec) (hb : c.code = cc) (ht : ∀ w ∈ lw_g, w.before args s = true) (hown : s.vm.findClass own = some m.cls) (hK : va_K D kCl (kT q) s) (hP : va_P D kCl (kW aa q σ) H) (hJ : wJ kC aa) (hS : va_S (wA kC aa) s.heap H locs) (hn : n < 12) {v : Int32} (hl : Cond.fieldLink own index bR_P "priority" "I" ∈ lw_g) (hd : decode cc pc = .ok (.putfield index, 3)) (kk : ∀ (H1 : Heap) (locs1 : List Loc), va_P D kCl (kW aa q (sI σ 4 n 0 v)) H1 → va_S (wA kC aa) s.heap H1 locs1 → W p l e R s m args below meth c H1 locs1 cells slots Q (F0 m (pc + 3) ls rest)) : W p l e R s m args below meth c H locs cells slots Q (F0 m pc ls (.int v :: .ref (aa 9 n) :: rest)) := by
  refine va_put (D := D) (v := .int v) (ty := .int) (C := bR_P) (T := bT_P) (N := 16) hx hb ht bin_P bty_P bo_P bn_P hown hK hP (wmap_D hJ) hS (9 + 5 * n) (kat_9 hn) rfl 6 (by decide) (ht _ hl) (fun _ h9 => h9) rfl (by decide +kernel) rfl rfl (Nat.le_of_ble_eq_true rfl) hd (fun H1 locs1 hP1 _ hS1 => kk H1 locs1 ?_ hS1)
  rw [← kset_9_priority hn]
  exact hP1
theorem kset_9_roundsLeft {v : Int32} (hn : n < 12) : (kW aa q σ).set (9 + 5 * n) (aa 9 n, .inr (1, (kF9 aa σ n).set 7 (.int v))) = kW aa q (sI σ 5 n 0 v) := by
  refine wmap_set kC_nd (kpos_9 n hn) ?_ ?_
  · simp [kE, kF9, gI_sI, gL_sL, gI_sL, gL_sI]
  · intro f9 n9 hne
    match f9, hne with
    | 0, _ => rfl
    | 1, _ => rfl
    | 2, _ => rfl
    | 3, _ => rfl
    | 4, _ => rfl
    | 5, _ => rfl
    | 6, _ => rfl
    | 7, _ => rfl
    | 8, _ => rfl
    | 9, hne =>
      have hn9 : ¬ n9 = n := fun e9 => hne ⟨rfl, e9⟩
      simp [kE, kF9, gI_sI, gL_sL, gI_sL, gL_sI, hn9]
    | 10, _ => rfl
    | 11, _ => rfl
    | 12, _ => rfl
    | 13, _ => rfl
    | 14, _ => rfl
    | 15, _ => rfl
    | k9 + 16, _ => rfl
theorem kp_9_roundsLeft (hx : p.tables.exec = Jvm.exec) (hb : c.code = cc) (ht : ∀ w ∈ lw_g, w.before args s = true) (hown : s.vm.findClass own = some m.cls) (hK : va_K D kCl (kT q) s) (hP : va_P D kCl (kW aa q σ) H) (hJ : wJ kC aa) (hS : va_S (wA kC aa) s.heap H locs) (hn : n < 12) {v : Int32} (hl : Cond.fieldLink own index bR_P "roundsLeft" "I" ∈ lw_g) (hd : decode cc pc = .ok (.putfield index, 3)) (kk : ∀ (H1 : Heap) (locs1 : List Loc), va_P D kCl (kW aa q (sI σ 5 n 0 v)) H1 → va_S (wA kC aa) s.heap H1 locs1 → W p l e R s m args below meth c H1 locs1 cells slots Q (F0 m (pc + 3) ls rest)) : W p l e R s m args below meth c H locs cells slots Q (F0 m pc ls (.int v :: .ref (aa 9 n) :: rest)) := by
  refine va_put (D := D) (v := .int v) (ty := .int) (C := bR_P) (T := bT_P) (N := 16) hx hb ht bin_P bty_P bo_P bn_P hown hK hP (wmap_D hJ) hS (9 + 5 * n) (kat_9 hn) rfl 7 (by decide) (ht _ hl) (fun _ h9 => h9) rfl (by decide +kernel) rfl rfl (Nat.le_of_ble_eq_true rfl) hd (fun H1 locs1 hP1 _ hS1 => kk H1 locs1 ?_ hS1)
  rw [← kset_9_roundsLeft hn]
  exact hP1
theorem kset_9_handler {v : Int32} (hn : n < 12) : (kW aa q σ).set (9 + 5 * n) (aa 9 n, .inr (1, (kF9 aa σ n).set 8 (.int v))) = kW aa q (sI σ 6 n 0 v) := by
  refine wmap_set kC_nd (kpos_9 n hn) ?_ ?_
  · simp [kE, kF9, gI_sI, gL_sL, gI_sL, gL_sI]
  · intro f9 n9 hne
    match f9, hne with
    | 0, _ => rfl
    | 1, _ => rfl
    | 2, _ => rfl
    | 3, _ => rfl
    | 4, _ => rfl
    | 5, _ => rfl
    | 6, _ => rfl
    | 7, _ => rfl
    | 8, _ => rfl
    | 9, hne =>
      have hn9 : ¬ n9 = n := fun e9 => hne ⟨rfl, e9⟩
      simp [kE, kF9, gI_sI, gL_sL, gI_sL, gL_sI, hn9]
    | 10, _ => rfl
    | 11, _ => rfl
    | 12, _ => rfl
    | 13, _ => rfl
    | 14, _ => rfl
    | 15, _ => rfl
    | k9 + 16, _ => rfl
theorem kp_9_handler (hx : p.tables.exec = Jvm.exec) (hb : c.code = cc) (ht : ∀ w ∈ lw_g, w.before args s = true) (hown : s.vm.findClass own = some m.cls) (hK : va_K D kCl (kT q) s) (hP : va_P D kCl (kW aa q σ) H) (hJ : wJ kC aa) (hS : va_S (wA kC aa) s.heap H locs) (hn : n < 12) {v : Int32} (hl : Cond.fieldLink own index bR_P "handler" "I" ∈ lw_g) (hd : decode cc pc = .ok (.putfield index, 3)) (kk : ∀ (H1 : Heap) (locs1 : List Loc), va_P D kCl (kW aa q (sI σ 6 n 0 v)) H1 → va_S (wA kC aa) s.heap H1 locs1 → W p l e R s m args below meth c H1 locs1 cells slots Q (F0 m (pc + 3) ls rest)) : W p l e R s m args below meth c H locs cells slots Q (F0 m pc ls (.int v :: .ref (aa 9 n) :: rest)) := by
  refine va_put (D := D) (v := .int v) (ty := .int) (C := bR_P) (T := bT_P) (N := 16) hx hb ht bin_P bty_P bo_P bn_P hown hK hP (wmap_D hJ) hS (9 + 5 * n) (kat_9 hn) rfl 8 (by decide) (ht _ hl) (fun _ h9 => h9) rfl (by decide +kernel) rfl rfl (Nat.le_of_ble_eq_true rfl) hd (fun H1 locs1 hP1 _ hS1 => kk H1 locs1 ?_ hS1)
  rw [← kset_9_handler hn]
  exact hP1
theorem kset_9_state {v : Int32} (hn : n < 12) : (kW aa q σ).set (9 + 5 * n) (aa 9 n, .inr (1, (kF9 aa σ n).set 9 (.int v))) = kW aa q (sI σ 7 n 0 v) := by
  refine wmap_set kC_nd (kpos_9 n hn) ?_ ?_
  · simp [kE, kF9, gI_sI, gL_sL, gI_sL, gL_sI]
  · intro f9 n9 hne
    match f9, hne with
    | 0, _ => rfl
    | 1, _ => rfl
    | 2, _ => rfl
    | 3, _ => rfl
    | 4, _ => rfl
    | 5, _ => rfl
    | 6, _ => rfl
    | 7, _ => rfl
    | 8, _ => rfl
    | 9, hne =>
      have hn9 : ¬ n9 = n := fun e9 => hne ⟨rfl, e9⟩
      simp [kE, kF9, gI_sI, gL_sL, gI_sL, gL_sI, hn9]
    | 10, _ => rfl
    | 11, _ => rfl
    | 12, _ => rfl
    | 13, _ => rfl
    | 14, _ => rfl
    | 15, _ => rfl
    | k9 + 16, _ => rfl
theorem kp_9_state (hx : p.tables.exec = Jvm.exec) (hb : c.code = cc) (ht : ∀ w ∈ lw_g, w.before args s = true) (hown : s.vm.findClass own = some m.cls) (hK : va_K D kCl (kT q) s) (hP : va_P D kCl (kW aa q σ) H) (hJ : wJ kC aa) (hS : va_S (wA kC aa) s.heap H locs) (hn : n < 12) {v : Int32} (hl : Cond.fieldLink own index bR_P "state" "I" ∈ lw_g) (hd : decode cc pc = .ok (.putfield index, 3)) (kk : ∀ (H1 : Heap) (locs1 : List Loc), va_P D kCl (kW aa q (sI σ 7 n 0 v)) H1 → va_S (wA kC aa) s.heap H1 locs1 → W p l e R s m args below meth c H1 locs1 cells slots Q (F0 m (pc + 3) ls rest)) : W p l e R s m args below meth c H locs cells slots Q (F0 m pc ls (.int v :: .ref (aa 9 n) :: rest)) := by
  refine va_put (D := D) (v := .int v) (ty := .int) (C := bR_P) (T := bT_P) (N := 16) hx hb ht bin_P bty_P bo_P bn_P hown hK hP (wmap_D hJ) hS (9 + 5 * n) (kat_9 hn) rfl 9 (by decide) (ht _ hl) (fun _ h9 => h9) rfl (by decide +kernel) rfl rfl (Nat.le_of_ble_eq_true rfl) hd (fun H1 locs1 hP1 _ hS1 => kk H1 locs1 ?_ hS1)
  rw [← kset_9_state hn]
  exact hP1
theorem kset_9_place {v : Int32} (hn : n < 12) : (kW aa q σ).set (9 + 5 * n) (aa 9 n, .inr (1, (kF9 aa σ n).set 10 (.int v))) = kW aa q (sI σ 8 n 0 v) := by
  refine wmap_set kC_nd (kpos_9 n hn) ?_ ?_
  · simp [kE, kF9, gI_sI, gL_sL, gI_sL, gL_sI]
  · intro f9 n9 hne
    match f9, hne with
    | 0, _ => rfl
    | 1, _ => rfl
    | 2, _ => rfl
    | 3, _ => rfl
    | 4, _ => rfl
    | 5, _ => rfl
    | 6, _ => rfl
    | 7, _ => rfl
    | 8, _ => rfl
    | 9, hne =>
      have hn9 : ¬ n9 = n := fun e9 => hne ⟨rfl, e9⟩
      simp [kE, kF9, gI_sI, gL_sL, gI_sL, gL_sI, hn9]
    | 10, _ => rfl
    | 11, _ => rfl
    | 12, _ => rfl
    | 13, _ => rfl
    | 14, _ => rfl
    | 15, _ => rfl
    | k9 + 16, _ => rfl
theorem kp_9_place (hx : p.tables.exec = Jvm.exec) (hb : c.code = cc) (ht : ∀ w ∈ lw_g, w.before args s = true) (hown : s.vm.findClass own = some m.cls) (hK : va_K D kCl (kT q) s) (hP : va_P D kCl (kW aa q σ) H) (hJ : wJ kC aa) (hS : va_S (wA kC aa) s.heap H locs) (hn : n < 12) {v : Int32} (hl : Cond.fieldLink own index bR_P "place" "I" ∈ lw_g) (hd : decode cc pc = .ok (.putfield index, 3)) (kk : ∀ (H1 : Heap) (locs1 : List Loc), va_P D kCl (kW aa q (sI σ 8 n 0 v)) H1 → va_S (wA kC aa) s.heap H1 locs1 → W p l e R s m args below meth c H1 locs1 cells slots Q (F0 m (pc + 3) ls rest)) : W p l e R s m args below meth c H locs cells slots Q (F0 m pc ls (.int v :: .ref (aa 9 n) :: rest)) := by
  refine va_put (D := D) (v := .int v) (ty := .int) (C := bR_P) (T := bT_P) (N := 16) hx hb ht bin_P bty_P bo_P bn_P hown hK hP (wmap_D hJ) hS (9 + 5 * n) (kat_9 hn) rfl 10 (by decide) (ht _ hl) (fun _ h9 => h9) rfl (by decide +kernel) rfl rfl (Nat.le_of_ble_eq_true rfl) hd (fun H1 locs1 hP1 _ hS1 => kk H1 locs1 ?_ hS1)
  rw [← kset_9_place hn]
  exact hP1
theorem kset_9_doing {v : Int32} (hn : n < 12) : (kW aa q σ).set (9 + 5 * n) (aa 9 n, .inr (1, (kF9 aa σ n).set 11 (.int v))) = kW aa q (sI σ 9 n 0 v) := by
  refine wmap_set kC_nd (kpos_9 n hn) ?_ ?_
  · simp [kE, kF9, gI_sI, gL_sL, gI_sL, gL_sI]
  · intro f9 n9 hne
    match f9, hne with
    | 0, _ => rfl
    | 1, _ => rfl
    | 2, _ => rfl
    | 3, _ => rfl
    | 4, _ => rfl
    | 5, _ => rfl
    | 6, _ => rfl
    | 7, _ => rfl
    | 8, _ => rfl
    | 9, hne =>
      have hn9 : ¬ n9 = n := fun e9 => hne ⟨rfl, e9⟩
      simp [kE, kF9, gI_sI, gL_sL, gI_sL, gL_sI, hn9]
    | 10, _ => rfl
    | 11, _ => rfl
    | 12, _ => rfl
    | 13, _ => rfl
    | 14, _ => rfl
    | 15, _ => rfl
    | k9 + 16, _ => rfl
theorem kp_9_doing (hx : p.tables.exec = Jvm.exec) (hb : c.code = cc) (ht : ∀ w ∈ lw_g, w.before args s = true) (hown : s.vm.findClass own = some m.cls) (hK : va_K D kCl (kT q) s) (hP : va_P D kCl (kW aa q σ) H) (hJ : wJ kC aa) (hS : va_S (wA kC aa) s.heap H locs) (hn : n < 12) {v : Int32} (hl : Cond.fieldLink own index bR_P "doing" "I" ∈ lw_g) (hd : decode cc pc = .ok (.putfield index, 3)) (kk : ∀ (H1 : Heap) (locs1 : List Loc), va_P D kCl (kW aa q (sI σ 9 n 0 v)) H1 → va_S (wA kC aa) s.heap H1 locs1 → W p l e R s m args below meth c H1 locs1 cells slots Q (F0 m (pc + 3) ls rest)) : W p l e R s m args below meth c H locs cells slots Q (F0 m pc ls (.int v :: .ref (aa 9 n) :: rest)) := by
  refine va_put (D := D) (v := .int v) (ty := .int) (C := bR_P) (T := bT_P) (N := 16) hx hb ht bin_P bty_P bo_P bn_P hown hK hP (wmap_D hJ) hS (9 + 5 * n) (kat_9 hn) rfl 11 (by decide) (ht _ hl) (fun _ h9 => h9) rfl (by decide +kernel) rfl rfl (Nat.le_of_ble_eq_true rfl) hd (fun H1 locs1 hP1 _ hS1 => kk H1 locs1 ?_ hS1)
  rw [← kset_9_doing hn]
  exact hP1
theorem kset_9_listed {v : Int32} (hn : n < 12) : (kW aa q σ).set (9 + 5 * n) (aa 9 n, .inr (1, (kF9 aa σ n).set 12 (.int v))) = kW aa q (sI σ 10 n 0 v) := by
  refine wmap_set kC_nd (kpos_9 n hn) ?_ ?_
  · simp [kE, kF9, gI_sI, gL_sL, gI_sL, gL_sI]
  · intro f9 n9 hne
    match f9, hne with
    | 0, _ => rfl
    | 1, _ => rfl
    | 2, _ => rfl
    | 3, _ => rfl
    | 4, _ => rfl
    | 5, _ => rfl
    | 6, _ => rfl
    | 7, _ => rfl
    | 8, _ => rfl
    | 9, hne =>
      have hn9 : ¬ n9 = n := fun e9 => hne ⟨rfl, e9⟩
      simp [kE, kF9, gI_sI, gL_sL, gI_sL, gL_sI, hn9]
    | 10, _ => rfl
    | 11, _ => rfl
    | 12, _ => rfl
    | 13, _ => rfl
    | 14, _ => rfl
    | 15, _ => rfl
    | k9 + 16, _ => rfl
theorem kp_9_listed (hx : p.tables.exec = Jvm.exec) (hb : c.code = cc) (ht : ∀ w ∈ lw_g, w.before args s = true) (hown : s.vm.findClass own = some m.cls) (hK : va_K D kCl (kT q) s) (hP : va_P D kCl (kW aa q σ) H) (hJ : wJ kC aa) (hS : va_S (wA kC aa) s.heap H locs) (hn : n < 12) {v : Int32} (hz : bz v = true) (hl : Cond.fieldLink own index bR_P "listed" "Z" ∈ lw_g) (hd : decode cc pc = .ok (.putfield index, 3)) (kk : ∀ (H1 : Heap) (locs1 : List Loc), va_P D kCl (kW aa q (sI σ 10 n 0 v)) H1 → va_S (wA kC aa) s.heap H1 locs1 → W p l e R s m args below meth c H1 locs1 cells slots Q (F0 m (pc + 3) ls rest)) : W p l e R s m args below meth c H locs cells slots Q (F0 m pc ls (.int v :: .ref (aa 9 n) :: rest)) := by
  refine va_put (D := D) (v := .int v) (ty := .boolean) (C := bR_P) (T := bT_P) (N := 16) hx hb ht bin_P bty_P bo_P bn_P hown hK hP (wmap_D hJ) hS (9 + 5 * n) (kat_9 hn) rfl 12 (by decide) (ht _ hl) (fun _ h9 => h9) rfl (by decide +kernel) (bz_nar hz) (bz_fit hz) (Nat.le_of_ble_eq_true rfl) hd (fun H1 locs1 hP1 _ hS1 => kk H1 locs1 ?_ hS1)
  rw [← kset_9_listed hn]
  exact hP1
theorem kset_9_time {v : Int64} (hn : n < 12) : (kW aa q σ).set (9 + 5 * n) (aa 9 n, .inr (1, (kF9 aa σ n).set 13 (.long v))) = kW aa q (sL σ 2 n 0 v) := by
  refine wmap_set kC_nd (kpos_9 n hn) ?_ ?_
  · simp [kE, kF9, gI_sI, gL_sL, gI_sL, gL_sI]
  · intro f9 n9 hne
    match f9, hne with
    | 0, _ => rfl
    | 1, _ => rfl
    | 2, _ => rfl
    | 3, _ => rfl
    | 4, _ => rfl
    | 5, _ => rfl
    | 6, _ => rfl
    | 7, _ => rfl
    | 8, _ => rfl
    | 9, hne =>
      have hn9 : ¬ n9 = n := fun e9 => hne ⟨rfl, e9⟩
      simp [kE, kF9, gI_sI, gL_sL, gI_sL, gL_sI, hn9]
    | 10, _ => rfl
    | 11, _ => rfl
    | 12, _ => rfl
    | 13, _ => rfl
    | 14, _ => rfl
    | 15, _ => rfl
    | k9 + 16, _ => rfl
theorem kp_9_time (hx : p.tables.exec = Jvm.exec) (hb : c.code = cc) (ht : ∀ w ∈ lw_g, w.before args s = true) (hown : s.vm.findClass own = some m.cls) (hK : va_K D kCl (kT q) s) (hP : va_P D kCl (kW aa q σ) H) (hJ : wJ kC aa) (hS : va_S (wA kC aa) s.heap H locs) (hn : n < 12) {v : Int64} (hl : Cond.fieldLink own index bR_P "time" "J" ∈ lw_g) (hd : decode cc pc = .ok (.putfield index, 3)) (kk : ∀ (H1 : Heap) (locs1 : List Loc), va_P D kCl (kW aa q (sL σ 2 n 0 v)) H1 → va_S (wA kC aa) s.heap H1 locs1 → W p l e R s m args below meth c H1 locs1 cells slots Q (F0 m (pc + 3) ls rest)) : W p l e R s m args below meth c H locs cells slots Q (F0 m pc ls (.long v :: .ref (aa 9 n) :: rest)) := by
  refine va_put (D := D) (v := .long v) (ty := .long) (C := bR_P) (T := bT_P) (N := 16) hx hb ht bin_P bty_P bo_P bn_P hown hK hP (wmap_D hJ) hS (9 + 5 * n) (kat_9 hn) rfl 13 (by decide) (ht _ hl) (fun _ h9 => h9) rfl (by decide +kernel) rfl rfl (Nat.le_of_ble_eq_true rfl) hd (fun H1 locs1 hP1 _ hS1 => kk H1 locs1 ?_ hS1)
  rw [← kset_9_time hn]
  exact hP1
theorem kset_9_entry {v : Int64} (hn : n < 12) : (kW aa q σ).set (9 + 5 * n) (aa 9 n, .inr (1, (kF9 aa σ n).set 14 (.long v))) = kW aa q (sL σ 3 n 0 v) := by
  refine wmap_set kC_nd (kpos_9 n hn) ?_ ?_
  · simp [kE, kF9, gI_sI, gL_sL, gI_sL, gL_sI]
  · intro f9 n9 hne
    match f9, hne with
    | 0, _ => rfl
    | 1, _ => rfl
    | 2, _ => rfl
    | 3, _ => rfl
    | 4, _ => rfl
    | 5, _ => rfl
    | 6, _ => rfl
    | 7, _ => rfl
    | 8, _ => rfl
    | 9, hne =>
      have hn9 : ¬ n9 = n := fun e9 => hne ⟨rfl, e9⟩
      simp [kE, kF9, gI_sI, gL_sL, gI_sL, gL_sI, hn9]
    | 10, _ => rfl
    | 11, _ => rfl
    | 12, _ => rfl
    | 13, _ => rfl
    | 14, _ => rfl
    | 15, _ => rfl
    | k9 + 16, _ => rfl
theorem kp_9_entry (hx : p.tables.exec = Jvm.exec) (hb : c.code = cc) (ht : ∀ w ∈ lw_g, w.before args s = true) (hown : s.vm.findClass own = some m.cls) (hK : va_K D kCl (kT q) s) (hP : va_P D kCl (kW aa q σ) H) (hJ : wJ kC aa) (hS : va_S (wA kC aa) s.heap H locs) (hn : n < 12) {v : Int64} (hl : Cond.fieldLink own index bR_P "entry" "J" ∈ lw_g) (hd : decode cc pc = .ok (.putfield index, 3)) (kk : ∀ (H1 : Heap) (locs1 : List Loc), va_P D kCl (kW aa q (sL σ 3 n 0 v)) H1 → va_S (wA kC aa) s.heap H1 locs1 → W p l e R s m args below meth c H1 locs1 cells slots Q (F0 m (pc + 3) ls rest)) : W p l e R s m args below meth c H locs cells slots Q (F0 m pc ls (.long v :: .ref (aa 9 n) :: rest)) := by
  refine va_put (D := D) (v := .long v) (ty := .long) (C := bR_P) (T := bT_P) (N := 16) hx hb ht bin_P bty_P bo_P bn_P hown hK hP (wmap_D hJ) hS (9 + 5 * n) (kat_9 hn) rfl 14 (by decide) (ht _ hl) (fun _ h9 => h9) rfl (by decide +kernel) rfl rfl (Nat.le_of_ble_eq_true rfl) hd (fun H1 locs1 hP1 _ hS1 => kk H1 locs1 ?_ hS1)
  rw [← kset_9_entry hn]
  exact hP1
theorem kset_9_since {v : Int64} (hn : n < 12) : (kW aa q σ).set (9 + 5 * n) (aa 9 n, .inr (1, (kF9 aa σ n).set 15 (.long v))) = kW aa q (sL σ 4 n 0 v) := by
  refine wmap_set kC_nd (kpos_9 n hn) ?_ ?_
  · simp [kE, kF9, gI_sI, gL_sL, gI_sL, gL_sI]
  · intro f9 n9 hne
    match f9, hne with
    | 0, _ => rfl
    | 1, _ => rfl
    | 2, _ => rfl
    | 3, _ => rfl
    | 4, _ => rfl
    | 5, _ => rfl
    | 6, _ => rfl
    | 7, _ => rfl
    | 8, _ => rfl
    | 9, hne =>
      have hn9 : ¬ n9 = n := fun e9 => hne ⟨rfl, e9⟩
      simp [kE, kF9, gI_sI, gL_sL, gI_sL, gL_sI, hn9]
    | 10, _ => rfl
    | 11, _ => rfl
    | 12, _ => rfl
    | 13, _ => rfl
    | 14, _ => rfl
    | 15, _ => rfl
    | k9 + 16, _ => rfl
theorem kp_9_since (hx : p.tables.exec = Jvm.exec) (hb : c.code = cc) (ht : ∀ w ∈ lw_g, w.before args s = true) (hown : s.vm.findClass own = some m.cls) (hK : va_K D kCl (kT q) s) (hP : va_P D kCl (kW aa q σ) H) (hJ : wJ kC aa) (hS : va_S (wA kC aa) s.heap H locs) (hn : n < 12) {v : Int64} (hl : Cond.fieldLink own index bR_P "since" "J" ∈ lw_g) (hd : decode cc pc = .ok (.putfield index, 3)) (kk : ∀ (H1 : Heap) (locs1 : List Loc), va_P D kCl (kW aa q (sL σ 4 n 0 v)) H1 → va_S (wA kC aa) s.heap H1 locs1 → W p l e R s m args below meth c H1 locs1 cells slots Q (F0 m (pc + 3) ls rest)) : W p l e R s m args below meth c H locs cells slots Q (F0 m pc ls (.long v :: .ref (aa 9 n) :: rest)) := by
  refine va_put (D := D) (v := .long v) (ty := .long) (C := bR_P) (T := bT_P) (N := 16) hx hb ht bin_P bty_P bo_P bn_P hown hK hP (wmap_D hJ) hS (9 + 5 * n) (kat_9 hn) rfl 15 (by decide) (ht _ hl) (fun _ h9 => h9) rfl (by decide +kernel) rfl rfl (Nat.le_of_ble_eq_true rfl) hd (fun H1 locs1 hP1 _ hS1 => kk H1 locs1 ?_ hS1)
  rw [← kset_9_since hn]
  exact hP1
theorem kg_14 (hx : p.tables.exec = Jvm.exec) (hb : c.code = cc) (ht : ∀ w ∈ lw_g, w.before args s = true) (hown : s.vm.findClass own = some m.cls) (hK : va_K D kCl (kT q) s) (hP : va_P D kCl (kW aa q σ) H) (hn : n < 4) (k : Nat) (hk : k < 6) (hl : Cond.fieldLink own index bR_E (bT_E k).2.1 (bT_E k).2.2.1 ∈ lw_g) {v : Value} (hv : (kF14 aa σ n)[k]? = some v) (hd : decode cc pc = .ok (.getfield index, 3)) (kk : W p l e R s m args below meth c H locs cells slots Q (F0 m (pc + 3) ls (v :: rest))) : W p l e R s m args below meth c H locs cells slots Q (F0 m pc ls (.ref (aa 14 n) :: rest)) :=
  va_get (D := D) (C := bR_E) (T := bT_E) (N := 6) hx hb ht bin_E hown hK hP (69 + 3 * n) (kat_14 hn) rfl k hk (ht _ hl) (fun y9 h9 => by rw [bcl_E] at h9; exact h9) hv hd kk
theorem kr_14 (hK : va_K D kCl (kT q) s) (hP : va_P D kCl (kW aa q σ) H) (hn : n < 4) : ∃ cell : Cell, H[aa 14 n]? = some cell ∧ cell.vm.isStatics = false ∧ s.vm.findClass bR_E = some cell.cls := va_recv (q := (bR_E, bT_E, 6)) hK hP rfl (kat_14 hn)
theorem kset_14_capacity {v : Int32} (hn : n < 4) : (kW aa q σ).set (69 + 3 * n) (aa 14 n, .inr (3, (kF14 aa σ n).set 1 (.int v))) = kW aa q (sI σ 15 n 0 v) := by
  refine wmap_set kC_nd (kpos_14 n hn) ?_ ?_
  · simp [kE, kF14, gI_sI, gL_sL, gI_sL, gL_sI]
  · intro f9 n9 hne
    match f9, hne with
    | 0, _ => rfl
    | 1, _ => rfl
    | 2, _ => rfl
    | 3, _ => rfl
    | 4, _ => rfl
    | 5, _ => rfl
    | 6, _ => rfl
    | 7, _ => rfl
    | 8, _ => rfl
    | 9, _ => rfl
    | 10, _ => rfl
    | 11, _ => rfl
    | 12, _ => rfl
    | 13, _ => rfl
    | 14, hne =>
      have hn9 : ¬ n9 = n := fun e9 => hne ⟨rfl, e9⟩
      simp [kE, kF14, gI_sI, gL_sL, gI_sL, gL_sI, hn9]
    | 15, _ => rfl
    | k9 + 16, _ => rfl
theorem kp_14_capacity (hx : p.tables.exec = Jvm.exec) (hb : c.code = cc) (ht : ∀ w ∈ lw_g, w.before args s = true) (hown : s.vm.findClass own = some m.cls) (hK : va_K D kCl (kT q) s) (hP : va_P D kCl (kW aa q σ) H) (hJ : wJ kC aa) (hS : va_S (wA kC aa) s.heap H locs) (hn : n < 4) {v : Int32} (hl : Cond.fieldLink own index bR_E "capacity" "I" ∈ lw_g) (hd : decode cc pc = .ok (.putfield index, 3)) (kk : ∀ (H1 : Heap) (locs1 : List Loc), va_P D kCl (kW aa q (sI σ 15 n 0 v)) H1 → va_S (wA kC aa) s.heap H1 locs1 → W p l e R s m args below meth c H1 locs1 cells slots Q (F0 m (pc + 3) ls rest)) : W p l e R s m args below meth c H locs cells slots Q (F0 m pc ls (.int v :: .ref (aa 14 n) :: rest)) := by
  refine va_put (D := D) (v := .int v) (ty := .int) (C := bR_E) (T := bT_E) (N := 6) hx hb ht bin_E bty_E bo_E bn_E hown hK hP (wmap_D hJ) hS (69 + 3 * n) (kat_14 hn) rfl 1 (by decide) (ht _ hl) (fun _ h9 => h9) rfl (by decide +kernel) rfl rfl (Nat.le_of_ble_eq_true rfl) hd (fun H1 locs1 hP1 _ hS1 => kk H1 locs1 ?_ hS1)
  rw [← kset_14_capacity hn]
  exact hP1
theorem kset_14_seized {v : Int32} (hn : n < 4) : (kW aa q σ).set (69 + 3 * n) (aa 14 n, .inr (3, (kF14 aa σ n).set 2 (.int v))) = kW aa q (sI σ 16 n 0 v) := by
  refine wmap_set kC_nd (kpos_14 n hn) ?_ ?_
  · simp [kE, kF14, gI_sI, gL_sL, gI_sL, gL_sI]
  · intro f9 n9 hne
    match f9, hne with
    | 0, _ => rfl
    | 1, _ => rfl
    | 2, _ => rfl
    | 3, _ => rfl
    | 4, _ => rfl
    | 5, _ => rfl
    | 6, _ => rfl
    | 7, _ => rfl
    | 8, _ => rfl
    | 9, _ => rfl
    | 10, _ => rfl
    | 11, _ => rfl
    | 12, _ => rfl
    | 13, _ => rfl
    | 14, hne =>
      have hn9 : ¬ n9 = n := fun e9 => hne ⟨rfl, e9⟩
      simp [kE, kF14, gI_sI, gL_sL, gI_sL, gL_sI, hn9]
    | 15, _ => rfl
    | k9 + 16, _ => rfl
theorem kp_14_seized (hx : p.tables.exec = Jvm.exec) (hb : c.code = cc) (ht : ∀ w ∈ lw_g, w.before args s = true) (hown : s.vm.findClass own = some m.cls) (hK : va_K D kCl (kT q) s) (hP : va_P D kCl (kW aa q σ) H) (hJ : wJ kC aa) (hS : va_S (wA kC aa) s.heap H locs) (hn : n < 4) {v : Int32} (hl : Cond.fieldLink own index bR_E "seized" "I" ∈ lw_g) (hd : decode cc pc = .ok (.putfield index, 3)) (kk : ∀ (H1 : Heap) (locs1 : List Loc), va_P D kCl (kW aa q (sI σ 16 n 0 v)) H1 → va_S (wA kC aa) s.heap H1 locs1 → W p l e R s m args below meth c H1 locs1 cells slots Q (F0 m (pc + 3) ls rest)) : W p l e R s m args below meth c H locs cells slots Q (F0 m pc ls (.int v :: .ref (aa 14 n) :: rest)) := by
  refine va_put (D := D) (v := .int v) (ty := .int) (C := bR_E) (T := bT_E) (N := 6) hx hb ht bin_E bty_E bo_E bn_E hown hK hP (wmap_D hJ) hS (69 + 3 * n) (kat_14 hn) rfl 2 (by decide) (ht _ hl) (fun _ h9 => h9) rfl (by decide +kernel) rfl rfl (Nat.le_of_ble_eq_true rfl) hd (fun H1 locs1 hP1 _ hS1 => kk H1 locs1 ?_ hS1)
  rw [← kset_14_seized hn]
  exact hP1
theorem kset_14_preempts {v : Int32} (hn : n < 4) : (kW aa q σ).set (69 + 3 * n) (aa 14 n, .inr (3, (kF14 aa σ n).set 3 (.int v))) = kW aa q (sI σ 17 n 0 v) := by
  refine wmap_set kC_nd (kpos_14 n hn) ?_ ?_
  · simp [kE, kF14, gI_sI, gL_sL, gI_sL, gL_sI]
  · intro f9 n9 hne
    match f9, hne with
    | 0, _ => rfl
    | 1, _ => rfl
    | 2, _ => rfl
    | 3, _ => rfl
    | 4, _ => rfl
    | 5, _ => rfl
    | 6, _ => rfl
    | 7, _ => rfl
    | 8, _ => rfl
    | 9, _ => rfl
    | 10, _ => rfl
    | 11, _ => rfl
    | 12, _ => rfl
    | 13, _ => rfl
    | 14, hne =>
      have hn9 : ¬ n9 = n := fun e9 => hne ⟨rfl, e9⟩
      simp [kE, kF14, gI_sI, gL_sL, gI_sL, gL_sI, hn9]
    | 15, _ => rfl
    | k9 + 16, _ => rfl
theorem kp_14_preempts (hx : p.tables.exec = Jvm.exec) (hb : c.code = cc) (ht : ∀ w ∈ lw_g, w.before args s = true) (hown : s.vm.findClass own = some m.cls) (hK : va_K D kCl (kT q) s) (hP : va_P D kCl (kW aa q σ) H) (hJ : wJ kC aa) (hS : va_S (wA kC aa) s.heap H locs) (hn : n < 4) {v : Int32} (hz : bz v = true) (hl : Cond.fieldLink own index bR_E "preempts" "Z" ∈ lw_g) (hd : decode cc pc = .ok (.putfield index, 3)) (kk : ∀ (H1 : Heap) (locs1 : List Loc), va_P D kCl (kW aa q (sI σ 17 n 0 v)) H1 → va_S (wA kC aa) s.heap H1 locs1 → W p l e R s m args below meth c H1 locs1 cells slots Q (F0 m (pc + 3) ls rest)) : W p l e R s m args below meth c H locs cells slots Q (F0 m pc ls (.int v :: .ref (aa 14 n) :: rest)) := by
  refine va_put (D := D) (v := .int v) (ty := .boolean) (C := bR_E) (T := bT_E) (N := 6) hx hb ht bin_E bty_E bo_E bn_E hown hK hP (wmap_D hJ) hS (69 + 3 * n) (kat_14 hn) rfl 3 (by decide) (ht _ hl) (fun _ h9 => h9) rfl (by decide +kernel) (bz_nar hz) (bz_fit hz) (Nat.le_of_ble_eq_true rfl) hd (fun H1 locs1 hP1 _ hS1 => kk H1 locs1 ?_ hS1)
  rw [← kset_14_preempts hn]
  exact hP1
theorem kset_14_area {v : Int64} (hn : n < 4) : (kW aa q σ).set (69 + 3 * n) (aa 14 n, .inr (3, (kF14 aa σ n).set 4 (.long v))) = kW aa q (sL σ 5 n 0 v) := by
  refine wmap_set kC_nd (kpos_14 n hn) ?_ ?_
  · simp [kE, kF14, gI_sI, gL_sL, gI_sL, gL_sI]
  · intro f9 n9 hne
    match f9, hne with
    | 0, _ => rfl
    | 1, _ => rfl
    | 2, _ => rfl
    | 3, _ => rfl
    | 4, _ => rfl
    | 5, _ => rfl
    | 6, _ => rfl
    | 7, _ => rfl
    | 8, _ => rfl
    | 9, _ => rfl
    | 10, _ => rfl
    | 11, _ => rfl
    | 12, _ => rfl
    | 13, _ => rfl
    | 14, hne =>
      have hn9 : ¬ n9 = n := fun e9 => hne ⟨rfl, e9⟩
      simp [kE, kF14, gI_sI, gL_sL, gI_sL, gL_sI, hn9]
    | 15, _ => rfl
    | k9 + 16, _ => rfl
theorem kp_14_area (hx : p.tables.exec = Jvm.exec) (hb : c.code = cc) (ht : ∀ w ∈ lw_g, w.before args s = true) (hown : s.vm.findClass own = some m.cls) (hK : va_K D kCl (kT q) s) (hP : va_P D kCl (kW aa q σ) H) (hJ : wJ kC aa) (hS : va_S (wA kC aa) s.heap H locs) (hn : n < 4) {v : Int64} (hl : Cond.fieldLink own index bR_E "area" "J" ∈ lw_g) (hd : decode cc pc = .ok (.putfield index, 3)) (kk : ∀ (H1 : Heap) (locs1 : List Loc), va_P D kCl (kW aa q (sL σ 5 n 0 v)) H1 → va_S (wA kC aa) s.heap H1 locs1 → W p l e R s m args below meth c H1 locs1 cells slots Q (F0 m (pc + 3) ls rest)) : W p l e R s m args below meth c H locs cells slots Q (F0 m pc ls (.long v :: .ref (aa 14 n) :: rest)) := by
  refine va_put (D := D) (v := .long v) (ty := .long) (C := bR_E) (T := bT_E) (N := 6) hx hb ht bin_E bty_E bo_E bn_E hown hK hP (wmap_D hJ) hS (69 + 3 * n) (kat_14 hn) rfl 4 (by decide) (ht _ hl) (fun _ h9 => h9) rfl (by decide +kernel) rfl rfl (Nat.le_of_ble_eq_true rfl) hd (fun H1 locs1 hP1 _ hS1 => kk H1 locs1 ?_ hS1)
  rw [← kset_14_area hn]
  exact hP1
theorem kset_14_waited {v : Int64} (hn : n < 4) : (kW aa q σ).set (69 + 3 * n) (aa 14 n, .inr (3, (kF14 aa σ n).set 5 (.long v))) = kW aa q (sL σ 6 n 0 v) := by
  refine wmap_set kC_nd (kpos_14 n hn) ?_ ?_
  · simp [kE, kF14, gI_sI, gL_sL, gI_sL, gL_sI]
  · intro f9 n9 hne
    match f9, hne with
    | 0, _ => rfl
    | 1, _ => rfl
    | 2, _ => rfl
    | 3, _ => rfl
    | 4, _ => rfl
    | 5, _ => rfl
    | 6, _ => rfl
    | 7, _ => rfl
    | 8, _ => rfl
    | 9, _ => rfl
    | 10, _ => rfl
    | 11, _ => rfl
    | 12, _ => rfl
    | 13, _ => rfl
    | 14, hne =>
      have hn9 : ¬ n9 = n := fun e9 => hne ⟨rfl, e9⟩
      simp [kE, kF14, gI_sI, gL_sL, gI_sL, gL_sI, hn9]
    | 15, _ => rfl
    | k9 + 16, _ => rfl
theorem kp_14_waited (hx : p.tables.exec = Jvm.exec) (hb : c.code = cc) (ht : ∀ w ∈ lw_g, w.before args s = true) (hown : s.vm.findClass own = some m.cls) (hK : va_K D kCl (kT q) s) (hP : va_P D kCl (kW aa q σ) H) (hJ : wJ kC aa) (hS : va_S (wA kC aa) s.heap H locs) (hn : n < 4) {v : Int64} (hl : Cond.fieldLink own index bR_E "waited" "J" ∈ lw_g) (hd : decode cc pc = .ok (.putfield index, 3)) (kk : ∀ (H1 : Heap) (locs1 : List Loc), va_P D kCl (kW aa q (sL σ 6 n 0 v)) H1 → va_S (wA kC aa) s.heap H1 locs1 → W p l e R s m args below meth c H1 locs1 cells slots Q (F0 m (pc + 3) ls rest)) : W p l e R s m args below meth c H locs cells slots Q (F0 m pc ls (.long v :: .ref (aa 14 n) :: rest)) := by
  refine va_put (D := D) (v := .long v) (ty := .long) (C := bR_E) (T := bT_E) (N := 6) hx hb ht bin_E bty_E bo_E bn_E hown hK hP (wmap_D hJ) hS (69 + 3 * n) (kat_14 hn) rfl 5 (by decide) (ht _ hl) (fun _ h9 => h9) rfl (by decide +kernel) rfl rfl (Nat.le_of_ble_eq_true rfl) hd (fun H1 locs1 hP1 _ hS1 => kk H1 locs1 ?_ hS1)
  rw [← kset_14_waited hn]
  exact hP1
theorem kg_15 (hx : p.tables.exec = Jvm.exec) (hb : c.code = cc) (ht : ∀ w ∈ lw_g, w.before args s = true) (hown : s.vm.findClass own = some m.cls) (hK : va_K D kCl (kT q) s) (hP : va_P D kCl (kW aa q σ) H) (hn : n < 4) (k : Nat) (hk : k < 2) (hl : Cond.fieldLink own index bR_T (bT_T k).2.1 (bT_T k).2.2.1 ∈ lw_g) {v : Value} (hv : (kF15 aa σ n)[k]? = some v) (hd : decode cc pc = .ok (.getfield index, 3)) (kk : W p l e R s m args below meth c H locs cells slots Q (F0 m (pc + 3) ls (v :: rest))) : W p l e R s m args below meth c H locs cells slots Q (F0 m pc ls (.ref (aa 15 n) :: rest)) :=
  va_get (D := D) (C := bR_T) (T := bT_T) (N := 2) hx hb ht bin_T hown hK hP (81 + n) (kat_15 hn) rfl k hk (ht _ hl) (fun y9 h9 => by rw [bcl_T] at h9; exact h9) hv hd kk
theorem kr_15 (hK : va_K D kCl (kT q) s) (hP : va_P D kCl (kW aa q σ) H) (hn : n < 4) : ∃ cell : Cell, H[aa 15 n]? = some cell ∧ cell.vm.isStatics = false ∧ s.vm.findClass bR_T = some cell.cls := va_recv (q := (bR_T, bT_T, 2)) hK hP rfl (kat_15 hn)
theorem kset_15_capacity {v : Int32} (hn : n < 4) : (kW aa q σ).set (81 + n) (aa 15 n, .inr (4, (kF15 aa σ n).set 0 (.int v))) = kW aa q (sI σ 20 n 0 v) := by
  refine wmap_set kC_nd (kpos_15 n hn) ?_ ?_
  · simp [kE, kF15, gI_sI, gL_sL, gI_sL, gL_sI]
  · intro f9 n9 hne
    match f9, hne with
    | 0, _ => rfl
    | 1, _ => rfl
    | 2, _ => rfl
    | 3, _ => rfl
    | 4, _ => rfl
    | 5, _ => rfl
    | 6, _ => rfl
    | 7, _ => rfl
    | 8, _ => rfl
    | 9, _ => rfl
    | 10, _ => rfl
    | 11, _ => rfl
    | 12, _ => rfl
    | 13, _ => rfl
    | 14, _ => rfl
    | 15, hne =>
      have hn9 : ¬ n9 = n := fun e9 => hne ⟨rfl, e9⟩
      simp [kE, kF15, gI_sI, gL_sL, gI_sL, gL_sI, hn9]
    | k9 + 16, _ => rfl
theorem kp_15_capacity (hx : p.tables.exec = Jvm.exec) (hb : c.code = cc) (ht : ∀ w ∈ lw_g, w.before args s = true) (hown : s.vm.findClass own = some m.cls) (hK : va_K D kCl (kT q) s) (hP : va_P D kCl (kW aa q σ) H) (hJ : wJ kC aa) (hS : va_S (wA kC aa) s.heap H locs) (hn : n < 4) {v : Int32} (hl : Cond.fieldLink own index bR_T "capacity" "I" ∈ lw_g) (hd : decode cc pc = .ok (.putfield index, 3)) (kk : ∀ (H1 : Heap) (locs1 : List Loc), va_P D kCl (kW aa q (sI σ 20 n 0 v)) H1 → va_S (wA kC aa) s.heap H1 locs1 → W p l e R s m args below meth c H1 locs1 cells slots Q (F0 m (pc + 3) ls rest)) : W p l e R s m args below meth c H locs cells slots Q (F0 m pc ls (.int v :: .ref (aa 15 n) :: rest)) := by
  refine va_put (D := D) (v := .int v) (ty := .int) (C := bR_T) (T := bT_T) (N := 2) hx hb ht bin_T bty_T bo_T bn_T hown hK hP (wmap_D hJ) hS (81 + n) (kat_15 hn) rfl 0 (by decide) (ht _ hl) (fun _ h9 => h9) rfl (by decide +kernel) rfl rfl (Nat.le_of_ble_eq_true rfl) hd (fun H1 locs1 hP1 _ hS1 => kk H1 locs1 ?_ hS1)
  rw [← kset_15_capacity hn]
  exact hP1
theorem kset_15_level {v : Int32} (hn : n < 4) : (kW aa q σ).set (81 + n) (aa 15 n, .inr (4, (kF15 aa σ n).set 1 (.int v))) = kW aa q (sI σ 21 n 0 v) := by
  refine wmap_set kC_nd (kpos_15 n hn) ?_ ?_
  · simp [kE, kF15, gI_sI, gL_sL, gI_sL, gL_sI]
  · intro f9 n9 hne
    match f9, hne with
    | 0, _ => rfl
    | 1, _ => rfl
    | 2, _ => rfl
    | 3, _ => rfl
    | 4, _ => rfl
    | 5, _ => rfl
    | 6, _ => rfl
    | 7, _ => rfl
    | 8, _ => rfl
    | 9, _ => rfl
    | 10, _ => rfl
    | 11, _ => rfl
    | 12, _ => rfl
    | 13, _ => rfl
    | 14, _ => rfl
    | 15, hne =>
      have hn9 : ¬ n9 = n := fun e9 => hne ⟨rfl, e9⟩
      simp [kE, kF15, gI_sI, gL_sL, gI_sL, gL_sI, hn9]
    | k9 + 16, _ => rfl
theorem kp_15_level (hx : p.tables.exec = Jvm.exec) (hb : c.code = cc) (ht : ∀ w ∈ lw_g, w.before args s = true) (hown : s.vm.findClass own = some m.cls) (hK : va_K D kCl (kT q) s) (hP : va_P D kCl (kW aa q σ) H) (hJ : wJ kC aa) (hS : va_S (wA kC aa) s.heap H locs) (hn : n < 4) {v : Int32} (hl : Cond.fieldLink own index bR_T "level" "I" ∈ lw_g) (hd : decode cc pc = .ok (.putfield index, 3)) (kk : ∀ (H1 : Heap) (locs1 : List Loc), va_P D kCl (kW aa q (sI σ 21 n 0 v)) H1 → va_S (wA kC aa) s.heap H1 locs1 → W p l e R s m args below meth c H1 locs1 cells slots Q (F0 m (pc + 3) ls rest)) : W p l e R s m args below meth c H locs cells slots Q (F0 m pc ls (.int v :: .ref (aa 15 n) :: rest)) := by
  refine va_put (D := D) (v := .int v) (ty := .int) (C := bR_T) (T := bT_T) (N := 2) hx hb ht bin_T bty_T bo_T bn_T hown hK hP (wmap_D hJ) hS (81 + n) (kat_15 hn) rfl 1 (by decide) (ht _ hl) (fun _ h9 => h9) rfl (by decide +kernel) rfl rfl (Nat.le_of_ble_eq_true rfl) hd (fun H1 locs1 hP1 _ hS1 => kk H1 locs1 ?_ hS1)
  rw [← kset_15_level hn]
  exact hP1
theorem kl_5 (hx : p.tables.exec = Jvm.exec) (hb : c.code = cc) (hK : va_K D kCl (kT q) s) (hP : va_P D kCl (kW aa q σ) H) (hn : n < 5) {i : Int32} (hi : vp_in i 12) (hd : decode cc pc = .ok (.iaload, 1)) (kk : W p l e R s m args below meth c H locs cells slots Q (F0 m (pc + 1) ls (.int (gI σ 18 n i.toNatClampNeg) :: rest))) : W p l e R s m args below meth c H locs cells slots Q (F0 m pc ls (.int i :: .ref (aa 5 n) :: rest)) :=
  va_iald (f := fun i => gI σ 18 n i) hx hb hK hP (if n = 4 then 5 else 71 + 3 * n) 0 (kat_5 hn) rfl hi hd kk
theorem kset_5 {i0 : Nat} {v : Int32} (hn : n < 5) : (kW aa q σ).set (if n = 4 then 5 else 71 + 3 * n) (aa 5 n, .inl (q 0, 12, .inl (upd (fun i => gI σ 18 n i) i0 v))) = kW aa q (sI σ 18 n i0 v) := by
  refine wmap_set kC_nd (kpos_5 n hn) ?_ ?_
  · rw [upd_sI]
    rfl
  · intro f9 n9 hne
    match f9, hne with
    | 0, _ => rfl
    | 1, _ => rfl
    | 2, _ => rfl
    | 3, _ => rfl
    | 4, _ => rfl
    | 5, hne =>
      have hn9 : ¬ n9 = n := fun e9 => hne ⟨rfl, e9⟩
      simp [kE,  gI_sI, gL_sL, gI_sL, gL_sI, hn9]
    | 6, _ => rfl
    | 7, _ => rfl
    | 8, _ => rfl
    | 9, _ => rfl
    | 10, _ => rfl
    | 11, _ => rfl
    | 12, _ => rfl
    | 13, _ => rfl
    | 14, _ => rfl
    | 15, _ => rfl
    | k9 + 16, _ => rfl
theorem kt_5 (hx : p.tables.exec = Jvm.exec) (hb : c.code = cc) (hK : va_K D kCl (kT q) s) (hP : va_P D kCl (kW aa q σ) H) (hJ : wJ kC aa) (hS : va_S (wA kC aa) s.heap H locs) (hn : n < 5) {i : Int32} (hi : vp_in i 12) {v : Int32} (hd : decode cc pc = .ok (.iastore, 1)) (kk : ∀ (H1 : Heap) (locs1 : List Loc), va_P D kCl (kW aa q (sI σ 18 n i.toNatClampNeg v)) H1 → va_S (wA kC aa) s.heap H1 locs1 → W p l e R s m args below meth c H1 locs1 cells slots Q (F0 m (pc + 1) ls rest)) : W p l e R s m args below meth c H locs cells slots Q (F0 m pc ls (.int v :: .int i :: .ref (aa 5 n) :: rest)) := by
  refine va_iast (f := fun i => gI σ 18 n i) hx hb hK hP (wmap_D hJ) hS (if n = 4 then 5 else 71 + 3 * n) 0 (kat_5 hn) rfl hi hd (fun H1 locs1 hP1 _ hS1 => kk H1 locs1 ?_ hS1)
  rw [← kset_5 hn]
  exact hP1
theorem kl_7 (hx : p.tables.exec = Jvm.exec) (hb : c.code = cc) (hK : va_K D kCl (kT q) s) (hP : va_P D kCl (kW aa q σ) H) (hn : n < 1) {i : Int32} (hi : vp_in i 64) (hd : decode cc pc = .ok (.iaload, 1)) (kk : W p l e R s m args below meth c H locs cells slots Q (F0 m (pc + 1) ls (.int (gI σ 22 n i.toNatClampNeg) :: rest))) : W p l e R s m args below meth c H locs cells slots Q (F0 m pc ls (.int i :: .ref (aa 7 n) :: rest)) :=
  va_iald (f := fun i => gI σ 22 n i) hx hb hK hP 7 0 (kat_7 hn) rfl hi hd kk
theorem kset_7 {i0 : Nat} {v : Int32} (hn : n < 1) : (kW aa q σ).set 7 (aa 7 n, .inl (q 0, 64, .inl (upd (fun i => gI σ 22 n i) i0 v))) = kW aa q (sI σ 22 n i0 v) := by
  refine wmap_set kC_nd (kpos_7 n hn) ?_ ?_
  · rw [upd_sI]
    rfl
  · intro f9 n9 hne
    match f9, hne with
    | 0, _ => rfl
    | 1, _ => rfl
    | 2, _ => rfl
    | 3, _ => rfl
    | 4, _ => rfl
    | 5, _ => rfl
    | 6, _ => rfl
    | 7, hne =>
      have hn9 : ¬ n9 = n := fun e9 => hne ⟨rfl, e9⟩
      simp [kE,  gI_sI, gL_sL, gI_sL, gL_sI, hn9]
    | 8, _ => rfl
    | 9, _ => rfl
    | 10, _ => rfl
    | 11, _ => rfl
    | 12, _ => rfl
    | 13, _ => rfl
    | 14, _ => rfl
    | 15, _ => rfl
    | k9 + 16, _ => rfl
theorem kt_7 (hx : p.tables.exec = Jvm.exec) (hb : c.code = cc) (hK : va_K D kCl (kT q) s) (hP : va_P D kCl (kW aa q σ) H) (hJ : wJ kC aa) (hS : va_S (wA kC aa) s.heap H locs) (hn : n < 1) {i : Int32} (hi : vp_in i 64) {v : Int32} (hd : decode cc pc = .ok (.iastore, 1)) (kk : ∀ (H1 : Heap) (locs1 : List Loc), va_P D kCl (kW aa q (sI σ 22 n i.toNatClampNeg v)) H1 → va_S (wA kC aa) s.heap H1 locs1 → W p l e R s m args below meth c H1 locs1 cells slots Q (F0 m (pc + 1) ls rest)) : W p l e R s m args below meth c H locs cells slots Q (F0 m pc ls (.int v :: .int i :: .ref (aa 7 n) :: rest)) := by
  refine va_iast (f := fun i => gI σ 22 n i) hx hb hK hP (wmap_D hJ) hS 7 0 (kat_7 hn) rfl hi hd (fun H1 locs1 hP1 _ hS1 => kk H1 locs1 ?_ hS1)
  rw [← kset_7 hn]
  exact hP1
theorem kl_8 (hx : p.tables.exec = Jvm.exec) (hb : c.code = cc) (hK : va_K D kCl (kT q) s) (hP : va_P D kCl (kW aa q σ) H) (hn : n < 1) {i : Int32} (hi : vp_in i 12) (hd : decode cc pc = .ok (.iaload, 1)) (kk : W p l e R s m args below meth c H locs cells slots Q (F0 m (pc + 1) ls (.int (gI σ 1 n i.toNatClampNeg) :: rest))) : W p l e R s m args below meth c H locs cells slots Q (F0 m pc ls (.int i :: .ref (aa 8 n) :: rest)) :=
  va_iald (f := fun i => gI σ 1 n i) hx hb hK hP 8 0 (kat_8 hn) rfl hi hd kk
theorem kset_8 {i0 : Nat} {v : Int32} (hn : n < 1) : (kW aa q σ).set 8 (aa 8 n, .inl (q 0, 12, .inl (upd (fun i => gI σ 1 n i) i0 v))) = kW aa q (sI σ 1 n i0 v) := by
  refine wmap_set kC_nd (kpos_8 n hn) ?_ ?_
  · rw [upd_sI]
    rfl
  · intro f9 n9 hne
    match f9, hne with
    | 0, _ => rfl
    | 1, _ => rfl
    | 2, _ => rfl
    | 3, _ => rfl
    | 4, _ => rfl
    | 5, _ => rfl
    | 6, _ => rfl
    | 7, _ => rfl
    | 8, hne =>
      have hn9 : ¬ n9 = n := fun e9 => hne ⟨rfl, e9⟩
      simp [kE,  gI_sI, gL_sL, gI_sL, gL_sI, hn9]
    | 9, _ => rfl
    | 10, _ => rfl
    | 11, _ => rfl
    | 12, _ => rfl
    | 13, _ => rfl
    | 14, _ => rfl
    | 15, _ => rfl
    | k9 + 16, _ => rfl
theorem kt_8 (hx : p.tables.exec = Jvm.exec) (hb : c.code = cc) (hK : va_K D kCl (kT q) s) (hP : va_P D kCl (kW aa q σ) H) (hJ : wJ kC aa) (hS : va_S (wA kC aa) s.heap H locs) (hn : n < 1) {i : Int32} (hi : vp_in i 12) {v : Int32} (hd : decode cc pc = .ok (.iastore, 1)) (kk : ∀ (H1 : Heap) (locs1 : List Loc), va_P D kCl (kW aa q (sI σ 1 n i.toNatClampNeg v)) H1 → va_S (wA kC aa) s.heap H1 locs1 → W p l e R s m args below meth c H1 locs1 cells slots Q (F0 m (pc + 1) ls rest)) : W p l e R s m args below meth c H locs cells slots Q (F0 m pc ls (.int v :: .int i :: .ref (aa 8 n) :: rest)) := by
  refine va_iast (f := fun i => gI σ 1 n i) hx hb hK hP (wmap_D hJ) hS 8 0 (kat_8 hn) rfl hi hd (fun H1 locs1 hP1 _ hS1 => kk H1 locs1 ?_ hS1)
  rw [← kset_8 hn]
  exact hP1
theorem kl_10 (hx : p.tables.exec = Jvm.exec) (hb : c.code = cc) (hK : va_K D kCl (kT q) s) (hP : va_P D kCl (kW aa q σ) H) (hn : n < 12) {i : Int32} (hi : vp_in i 10) (hd : decode cc pc = .ok (.iaload, 1)) (kk : W p l e R s m args below meth c H locs cells slots Q (F0 m (pc + 1) ls (.int (gI σ 11 n i.toNatClampNeg) :: rest))) : W p l e R s m args below meth c H locs cells slots Q (F0 m pc ls (.int i :: .ref (aa 10 n) :: rest)) :=
  va_iald (f := fun i => gI σ 11 n i) hx hb hK hP (10 + 5 * n) 0 (kat_10 hn) rfl hi hd kk
theorem kset_10 {i0 : Nat} {v : Int32} (hn : n < 12) : (kW aa q σ).set (10 + 5 * n) (aa 10 n, .inl (q 0, 10, .inl (upd (fun i => gI σ 11 n i) i0 v))) = kW aa q (sI σ 11 n i0 v) := by
  refine wmap_set kC_nd (kpos_10 n hn) ?_ ?_
  · rw [upd_sI]
    rfl
  · intro f9 n9 hne
    match f9, hne with
    | 0, _ => rfl
    | 1, _ => rfl
    | 2, _ => rfl
    | 3, _ => rfl
    | 4, _ => rfl
    | 5, _ => rfl
    | 6, _ => rfl
    | 7, _ => rfl
    | 8, _ => rfl
    | 9, _ => rfl
    | 10, hne =>
      have hn9 : ¬ n9 = n := fun e9 => hne ⟨rfl, e9⟩
      simp [kE,  gI_sI, gL_sL, gI_sL, gL_sI, hn9]
    | 11, _ => rfl
    | 12, _ => rfl
    | 13, _ => rfl
    | 14, _ => rfl
    | 15, _ => rfl
    | k9 + 16, _ => rfl
theorem kt_10 (hx : p.tables.exec = Jvm.exec) (hb : c.code = cc) (hK : va_K D kCl (kT q) s) (hP : va_P D kCl (kW aa q σ) H) (hJ : wJ kC aa) (hS : va_S (wA kC aa) s.heap H locs) (hn : n < 12) {i : Int32} (hi : vp_in i 10) {v : Int32} (hd : decode cc pc = .ok (.iastore, 1)) (kk : ∀ (H1 : Heap) (locs1 : List Loc), va_P D kCl (kW aa q (sI σ 11 n i.toNatClampNeg v)) H1 → va_S (wA kC aa) s.heap H1 locs1 → W p l e R s m args below meth c H1 locs1 cells slots Q (F0 m (pc + 1) ls rest)) : W p l e R s m args below meth c H locs cells slots Q (F0 m pc ls (.int v :: .int i :: .ref (aa 10 n) :: rest)) := by
  refine va_iast (f := fun i => gI σ 11 n i) hx hb hK hP (wmap_D hJ) hS (10 + 5 * n) 0 (kat_10 hn) rfl hi hd (fun H1 locs1 hP1 _ hS1 => kk H1 locs1 ?_ hS1)
  rw [← kset_10 hn]
  exact hP1
theorem kl_11 (hx : p.tables.exec = Jvm.exec) (hb : c.code = cc) (hK : va_K D kCl (kT q) s) (hP : va_P D kCl (kW aa q σ) H) (hn : n < 12) {i : Int32} (hi : vp_in i 10) (hd : decode cc pc = .ok (.iaload, 1)) (kk : W p l e R s m args below meth c H locs cells slots Q (F0 m (pc + 1) ls (.int (gI σ 12 n i.toNatClampNeg) :: rest))) : W p l e R s m args below meth c H locs cells slots Q (F0 m pc ls (.int i :: .ref (aa 11 n) :: rest)) :=
  va_iald (f := fun i => gI σ 12 n i) hx hb hK hP (11 + 5 * n) 0 (kat_11 hn) rfl hi hd kk
theorem kset_11 {i0 : Nat} {v : Int32} (hn : n < 12) : (kW aa q σ).set (11 + 5 * n) (aa 11 n, .inl (q 0, 10, .inl (upd (fun i => gI σ 12 n i) i0 v))) = kW aa q (sI σ 12 n i0 v) := by
  refine wmap_set kC_nd (kpos_11 n hn) ?_ ?_
  · rw [upd_sI]
    rfl
  · intro f9 n9 hne
    match f9, hne with
    | 0, _ => rfl
    | 1, _ => rfl
    | 2, _ => rfl
    | 3, _ => rfl
    | 4, _ => rfl
    | 5, _ => rfl
    | 6, _ => rfl
    | 7, _ => rfl
    | 8, _ => rfl
    | 9, _ => rfl
    | 10, _ => rfl
    | 11, hne =>
      have hn9 : ¬ n9 = n := fun e9 => hne ⟨rfl, e9⟩
      simp [kE,  gI_sI, gL_sL, gI_sL, gL_sI, hn9]
    | 12, _ => rfl
    | 13, _ => rfl
    | 14, _ => rfl
    | 15, _ => rfl
    | k9 + 16, _ => rfl
theorem kt_11 (hx : p.tables.exec = Jvm.exec) (hb : c.code = cc) (hK : va_K D kCl (kT q) s) (hP : va_P D kCl (kW aa q σ) H) (hJ : wJ kC aa) (hS : va_S (wA kC aa) s.heap H locs) (hn : n < 12) {i : Int32} (hi : vp_in i 10) {v : Int32} (hd : decode cc pc = .ok (.iastore, 1)) (kk : ∀ (H1 : Heap) (locs1 : List Loc), va_P D kCl (kW aa q (sI σ 12 n i.toNatClampNeg v)) H1 → va_S (wA kC aa) s.heap H1 locs1 → W p l e R s m args below meth c H1 locs1 cells slots Q (F0 m (pc + 1) ls rest)) : W p l e R s m args below meth c H locs cells slots Q (F0 m pc ls (.int v :: .int i :: .ref (aa 11 n) :: rest)) := by
  refine va_iast (f := fun i => gI σ 12 n i) hx hb hK hP (wmap_D hJ) hS (11 + 5 * n) 0 (kat_11 hn) rfl hi hd (fun H1 locs1 hP1 _ hS1 => kk H1 locs1 ?_ hS1)
  rw [← kset_11 hn]
  exact hP1
theorem kl_12 (hx : p.tables.exec = Jvm.exec) (hb : c.code = cc) (hK : va_K D kCl (kT q) s) (hP : va_P D kCl (kW aa q σ) H) (hn : n < 12) {i : Int32} (hi : vp_in i 10) (hd : decode cc pc = .ok (.iaload, 1)) (kk : W p l e R s m args below meth c H locs cells slots Q (F0 m (pc + 1) ls (.int (gI σ 13 n i.toNatClampNeg) :: rest))) : W p l e R s m args below meth c H locs cells slots Q (F0 m pc ls (.int i :: .ref (aa 12 n) :: rest)) :=
  va_iald (f := fun i => gI σ 13 n i) hx hb hK hP (12 + 5 * n) 0 (kat_12 hn) rfl hi hd kk
theorem kset_12 {i0 : Nat} {v : Int32} (hn : n < 12) : (kW aa q σ).set (12 + 5 * n) (aa 12 n, .inl (q 0, 10, .inl (upd (fun i => gI σ 13 n i) i0 v))) = kW aa q (sI σ 13 n i0 v) := by
  refine wmap_set kC_nd (kpos_12 n hn) ?_ ?_
  · rw [upd_sI]
    rfl
  · intro f9 n9 hne
    match f9, hne with
    | 0, _ => rfl
    | 1, _ => rfl
    | 2, _ => rfl
    | 3, _ => rfl
    | 4, _ => rfl
    | 5, _ => rfl
    | 6, _ => rfl
    | 7, _ => rfl
    | 8, _ => rfl
    | 9, _ => rfl
    | 10, _ => rfl
    | 11, _ => rfl
    | 12, hne =>
      have hn9 : ¬ n9 = n := fun e9 => hne ⟨rfl, e9⟩
      simp [kE,  gI_sI, gL_sL, gI_sL, gL_sI, hn9]
    | 13, _ => rfl
    | 14, _ => rfl
    | 15, _ => rfl
    | k9 + 16, _ => rfl
theorem kt_12 (hx : p.tables.exec = Jvm.exec) (hb : c.code = cc) (hK : va_K D kCl (kT q) s) (hP : va_P D kCl (kW aa q σ) H) (hJ : wJ kC aa) (hS : va_S (wA kC aa) s.heap H locs) (hn : n < 12) {i : Int32} (hi : vp_in i 10) {v : Int32} (hd : decode cc pc = .ok (.iastore, 1)) (kk : ∀ (H1 : Heap) (locs1 : List Loc), va_P D kCl (kW aa q (sI σ 13 n i.toNatClampNeg v)) H1 → va_S (wA kC aa) s.heap H1 locs1 → W p l e R s m args below meth c H1 locs1 cells slots Q (F0 m (pc + 1) ls rest)) : W p l e R s m args below meth c H locs cells slots Q (F0 m pc ls (.int v :: .int i :: .ref (aa 12 n) :: rest)) := by
  refine va_iast (f := fun i => gI σ 13 n i) hx hb hK hP (wmap_D hJ) hS (12 + 5 * n) 0 (kat_12 hn) rfl hi hd (fun H1 locs1 hP1 _ hS1 => kk H1 locs1 ?_ hS1)
  rw [← kset_12 hn]
  exact hP1
theorem kl_13 (hx : p.tables.exec = Jvm.exec) (hb : c.code = cc) (hK : va_K D kCl (kT q) s) (hP : va_P D kCl (kW aa q σ) H) (hn : n < 12) {i : Int32} (hi : vp_in i 4) (hd : decode cc pc = .ok (.iaload, 1)) (kk : W p l e R s m args below meth c H locs cells slots Q (F0 m (pc + 1) ls (.int (gI σ 14 n i.toNatClampNeg) :: rest))) : W p l e R s m args below meth c H locs cells slots Q (F0 m pc ls (.int i :: .ref (aa 13 n) :: rest)) :=
  va_iald (f := fun i => gI σ 14 n i) hx hb hK hP (13 + 5 * n) 0 (kat_13 hn) rfl hi hd kk
theorem kset_13 {i0 : Nat} {v : Int32} (hn : n < 12) : (kW aa q σ).set (13 + 5 * n) (aa 13 n, .inl (q 0, 4, .inl (upd (fun i => gI σ 14 n i) i0 v))) = kW aa q (sI σ 14 n i0 v) := by
  refine wmap_set kC_nd (kpos_13 n hn) ?_ ?_
  · rw [upd_sI]
    rfl
  · intro f9 n9 hne
    match f9, hne with
    | 0, _ => rfl
    | 1, _ => rfl
    | 2, _ => rfl
    | 3, _ => rfl
    | 4, _ => rfl
    | 5, _ => rfl
    | 6, _ => rfl
    | 7, _ => rfl
    | 8, _ => rfl
    | 9, _ => rfl
    | 10, _ => rfl
    | 11, _ => rfl
    | 12, _ => rfl
    | 13, hne =>
      have hn9 : ¬ n9 = n := fun e9 => hne ⟨rfl, e9⟩
      simp [kE,  gI_sI, gL_sL, gI_sL, gL_sI, hn9]
    | 14, _ => rfl
    | 15, _ => rfl
    | k9 + 16, _ => rfl
theorem kt_13 (hx : p.tables.exec = Jvm.exec) (hb : c.code = cc) (hK : va_K D kCl (kT q) s) (hP : va_P D kCl (kW aa q σ) H) (hJ : wJ kC aa) (hS : va_S (wA kC aa) s.heap H locs) (hn : n < 12) {i : Int32} (hi : vp_in i 4) {v : Int32} (hd : decode cc pc = .ok (.iastore, 1)) (kk : ∀ (H1 : Heap) (locs1 : List Loc), va_P D kCl (kW aa q (sI σ 14 n i.toNatClampNeg v)) H1 → va_S (wA kC aa) s.heap H1 locs1 → W p l e R s m args below meth c H1 locs1 cells slots Q (F0 m (pc + 1) ls rest)) : W p l e R s m args below meth c H locs cells slots Q (F0 m pc ls (.int v :: .int i :: .ref (aa 13 n) :: rest)) := by
  refine va_iast (f := fun i => gI σ 14 n i) hx hb hK hP (wmap_D hJ) hS (13 + 5 * n) 0 (kat_13 hn) rfl hi hd (fun H1 locs1 hP1 _ hS1 => kk H1 locs1 ?_ hS1)
  rw [← kset_13 hn]
  exact hP1
theorem kl_1 (hx : p.tables.exec = Jvm.exec) (hb : c.code = cc) (hK : va_K D kCl (kT q) s) (hP : va_P D kCl (kW aa q σ) H) (hn : n < 1) {i : Int32} (hi : vp_in i 12) (hd : decode cc pc = .ok (.aaload, 1)) (kk : ∀ j : Nat, j = i.toNatClampNeg → W p l e R s m args below meth c H locs cells slots Q (F0 m (pc + 1) ls (.ref (aa 9 j) :: rest))) : W p l e R s m args below meth c H locs cells slots Q (F0 m pc ls (.int i :: .ref (aa 1 n) :: rest)) :=
  va_aldq (C := bR_P) (f := fun j => some (aa 9 j)) hx hb hK hP 1 1 (kat_1 hn) rfl hi hd (kk _ rfl)
theorem kl_2 (hx : p.tables.exec = Jvm.exec) (hb : c.code = cc) (hK : va_K D kCl (kT q) s) (hP : va_P D kCl (kW aa q σ) H) (hn : n < 1) {i : Int32} (hi : vp_in i 4) (hd : decode cc pc = .ok (.aaload, 1)) (kk : ∀ j : Nat, j = i.toNatClampNeg → W p l e R s m args below meth c H locs cells slots Q (F0 m (pc + 1) ls (.ref (aa 14 j) :: rest))) : W p l e R s m args below meth c H locs cells slots Q (F0 m pc ls (.int i :: .ref (aa 2 n) :: rest)) :=
  va_aldq (C := bR_E) (f := fun j => some (aa 14 j)) hx hb hK hP 2 2 (kat_2 hn) rfl hi hd (kk _ rfl)
theorem kl_3 (hx : p.tables.exec = Jvm.exec) (hb : c.code = cc) (hK : va_K D kCl (kT q) s) (hP : va_P D kCl (kW aa q σ) H) (hn : n < 1) {i : Int32} (hi : vp_in i 4) (hd : decode cc pc = .ok (.aaload, 1)) (kk : ∀ j : Nat, j = i.toNatClampNeg → W p l e R s m args below meth c H locs cells slots Q (F0 m (pc + 1) ls (.ref (aa 15 j) :: rest))) : W p l e R s m args below meth c H locs cells slots Q (F0 m pc ls (.int i :: .ref (aa 3 n) :: rest)) :=
  va_aldq (C := bR_T) (f := fun j => some (aa 15 j)) hx hb hK hP 3 3 (kat_3 hn) rfl hi hd (kk _ rfl)
theorem kpreV {C : String} {b : Nat} {As : List Value} (hK : va_K D kCl (kT q) s) (hP : va_P D kCl (kW aa q σ) H) (hr : ∃ cell : Cell, H[b]? = some cell ∧ cell.vm.isStatics = false ∧ s.vm.findClass C = some cell.cls) : PreV s H C b (va_Pc (.ref b :: As) (kPre D aa q σ)) As :=
  ⟨fun a U g mk h => ⟨h.1, h.2.1, va_K.moved (u := U) (U := U.calling g mk a) (Vm.Alike.refl U.vm) h.2.2⟩, hr, fun U hU hW => ⟨rfl, by rw [hU]; exact hP, va_K.moved hW.alike hK⟩⟩
theorem kpreS {As : List Value} (hK : va_K D kCl (kT q) s) (hP : va_P D kCl (kW aa q σ) H) : PreS s H (va_Pc As (kPre D aa q σ)) As :=
  ⟨fun a U g mk h => ⟨h.1, h.2.1, va_K.moved (u := U) (U := U.calling g mk a) (Vm.Alike.refl U.vm) h.2.2⟩, fun U hU hW => ⟨rfl, by rw [hU]; exact hP, va_K.moved hW.alike hK⟩⟩
theorem kq_i {a : Array Value} {r0 : Int32} {u0 : kS} (hr : va_Run p l e R s m args below meth c H locs cells slots 0 0 (F0 m pc ls st0) rest (va_Qi (fun (r : Int32) (u : kS) => r = r0 ∧ u = u0) (kB D aa q) (wA kC aa) a) (wA kC aa)) (hS : va_S (wA kC aa) s.heap H locs) (kk : ∀ (H1 : Heap) (locs1 : List Loc), va_P D kCl (kW aa q u0) H1 → va_S (wA kC aa) s.heap H1 locs1 → W p l e R s m args below meth c H1 locs1 cells slots Q (F0 m (pc + 3) ls (.int r0 :: rest))) : W p l e R s m args below meth c H locs cells slots Q (F0 m pc ls st0) := by
  refine va_calli hr hS (fun _ _ h => h) (fun _ h => h) (fun r u t H1 locs1 ht hvm hw hB _ _ hS1 => ?_)
  obtain ⟨rfl, rfl⟩ := hw
  have hP1 := hB.1
  rw [ht] at hP1
  exact kk H1 locs1 hP1 hS1
theorem kq_l {a : Array Value} {r0 : Int64} {u0 : kS} (hr : va_Run p l e R s m args below meth c H locs cells slots 0 0 (F0 m pc ls st0) rest (va_Ql (fun (r : Int64) (u : kS) => r = r0 ∧ u = u0) (kB D aa q) (wA kC aa) a) (wA kC aa)) (hS : va_S (wA kC aa) s.heap H locs) (kk : ∀ (H1 : Heap) (locs1 : List Loc), va_P D kCl (kW aa q u0) H1 → va_S (wA kC aa) s.heap H1 locs1 → W p l e R s m args below meth c H1 locs1 cells slots Q (F0 m (pc + 3) ls (.long r0 :: rest))) : W p l e R s m args below meth c H locs cells slots Q (F0 m pc ls st0) := by
  refine va_calll hr hS (fun _ _ h => h) (fun _ h => h) (fun r u t H1 locs1 ht hvm hw hB _ _ hS1 => ?_)
  obtain ⟨rfl, rfl⟩ := hw
  have hP1 := hB.1
  rw [ht] at hP1
  exact kk H1 locs1 hP1 hS1
theorem kq_v {a : Array Value} {u0 : kS} (hr : va_Run p l e R s m args below meth c H locs cells slots 0 0 (F0 m pc ls st0) rest (va_Qv (fun u : kS => u = u0) (kB D aa q) (wA kC aa) a) (wA kC aa)) (hS : va_S (wA kC aa) s.heap H locs) (kk : ∀ (H1 : Heap) (locs1 : List Loc), va_P D kCl (kW aa q u0) H1 → va_S (wA kC aa) s.heap H1 locs1 → W p l e R s m args below meth c H1 locs1 cells slots Q (F0 m (pc + 3) ls rest)) : W p l e R s m args below meth c H locs cells slots Q (F0 m pc ls st0) := by
  refine va_callv hr hS (fun _ _ h => h) (fun _ h => h) (fun u t H1 locs1 ht hvm hw hB _ _ hS1 => ?_)
  subst hw
  have hP1 := hB.1
  rw [ht] at hP1
  exact kk H1 locs1 hP1 hS1
end
