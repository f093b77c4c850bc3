abbrev mCl : List vw_C := [(bR_M, bT_M, 27)]
abbrev mT (q : Nat → ClassId) : List (ClassId × FieldType) := [(q 0, .int), (q 1, .long), (q 2, .boolean)]
def mC : List (Nat × Nat) := [(0, 0), (1, 0), (2, 0), (3, 0), (4, 0), (5, 0), (6, 0), (7, 0), (8, 0), (9, 0), (10, 0), (11, 0), (12, 0), (13, 0), (14, 0), (15, 0), (16, 0), (17, 0), (18, 0), (19, 0), (20, 0), (21, 0), (22, 0)]
set_option maxRecDepth 20000 in
theorem mC_nd : mC.Nodup := by decide +kernel
def mF0 (aa : Nat → Nat → Nat) (σ : kS) (n : Nat) : List Value := [.int (gI σ 30 n 0), .int (gI σ 31 n 0), .int (gI σ 32 n 0), .int (gI σ 33 n 0), .long (gL σ 0 n 0), .ref (aa 1 0), .ref (aa 2 0), .ref (aa 3 0), .ref (aa 4 0), .ref (aa 5 0), .ref (aa 6 0), .ref (aa 7 0), .ref (aa 8 0), .ref (aa 9 0), .ref (aa 10 0), .ref (aa 11 0), .ref (aa 12 0), .ref (aa 13 0), .ref (aa 14 0), .ref (aa 15 0), .ref (aa 16 0), .ref (aa 17 0), .ref (aa 18 0), .ref (aa 19 0), .ref (aa 20 0), .ref (aa 21 0), .ref (aa 22 0)]
def mE (aa : Nat → Nat → Nat) (q : Nat → ClassId) (σ : kS) (f n : Nat) : va_E := match f with
  | 0 => .inr (0, mF0 aa σ n)
  | 1 => .inl (q 0, 12, .inl (fun i => gI σ 1 n i))
  | 2 => .inl (q 0, 12, .inl (fun i => gI σ 2 n i))
  | 3 => .inl (q 0, 12, .inl (fun i => gI σ 3 n i))
  | 4 => .inl (q 0, 12, .inl (fun i => gI σ 4 n i))
  | 5 => .inl (q 0, 12, .inl (fun i => gI σ 5 n i))
  | 6 => .inl (q 0, 12, .inl (fun i => gI σ 6 n i))
  | 7 => .inl (q 1, 12, .inr (.inl (fun i => gL σ 7 n i)))
  | 8 => .inl (q 0, 12, .inl (fun i => gI σ 8 n i))
  | 9 => .inl (q 0, 12, .inl (fun i => gI σ 9 n i))
  | 10 => .inl (q 1, 12, .inr (.inl (fun i => gL σ 10 n i)))
  | 11 => .inl (q 0, 120, .inl (fun i => gI σ 11 n i))
  | 12 => .inl (q 0, 120, .inl (fun i => gI σ 12 n i))
  | 13 => .inl (q 0, 120, .inl (fun i => gI σ 13 n i))
  | 14 => .inl (q 0, 48, .inl (fun i => gI σ 14 n i))
  | 15 => .inl (q 0, 4, .inl (fun i => gI σ 15 n i))
  | 16 => .inl (q 2, 4, .inl (fun i => gI σ 16 n i))
  | 17 => .inl (q 1, 4, .inr (.inl (fun i => gL σ 17 n i)))
  | 18 => .inl (q 1, 4, .inr (.inl (fun i => gL σ 18 n i)))
  | 19 => .inl (q 0, 4, .inl (fun i => gI σ 19 n i))
  | 20 => .inl (q 0, 4, .inl (fun i => gI σ 20 n i))
  | 21 => .inl (q 0, 12, .inl (fun i => gI σ 21 n i))
  | 22 => .inl (q 0, 64, .inl (fun i => gI σ 22 n i))
  | _ => .inr (0, [])
def mW (aa : Nat → Nat → Nat) (q : Nat → ClassId) (σ : kS) : va_W := wmap mC aa (mE aa q σ)
def mPre (D : va_G) (aa : Nat → Nat → Nat) (q : Nat → ClassId) (σ : kS) (U : State) : Prop := va_P D mCl (mW aa q σ) U.heap ∧ va_K D mCl (mT q) U
def mB (D : va_G) (aa : Nat → Nat → Nat) (q : Nat → ClassId) (u : kS) (t : State) : Prop := va_P D mCl (mW aa q u) t.heap ∧ va_K D mCl (mT q) t
set_option maxRecDepth 20000 in
theorem mpos_0 : ∀ n, n < 1 → mC[0]? = some (0, n) := by decide +kernel
set_option maxRecDepth 20000 in
theorem mpos_1 : ∀ n, n < 1 → mC[1]? = some (1, n) := by decide +kernel
set_option maxRecDepth 20000 in
theorem mpos_2 : ∀ n, n < 1 → mC[2]? = some (2, n) := by decide +kernel
set_option maxRecDepth 20000 in
theorem mpos_3 : ∀ n, n < 1 → mC[3]? = some (3, n) := by decide +kernel
set_option maxRecDepth 20000 in
theorem mpos_4 : ∀ n, n < 1 → mC[4]? = some (4, n) := by decide +kernel
set_option maxRecDepth 20000 in
theorem mpos_5 : ∀ n, n < 1 → mC[5]? = some (5, n) := by decide +kernel
set_option maxRecDepth 20000 in
theorem mpos_6 : ∀ n, n < 1 → mC[6]? = some (6, n) := by decide +kernel
set_option maxRecDepth 20000 in
theorem mpos_7 : ∀ n, n < 1 → mC[7]? = some (7, n) := by decide +kernel
set_option maxRecDepth 20000 in
theorem mpos_8 : ∀ n, n < 1 → mC[8]? = some (8, n) := by decide +kernel
set_option maxRecDepth 20000 in
theorem mpos_9 : ∀ n, n < 1 → mC[9]? = some (9, n) := by decide +kernel
set_option maxRecDepth 20000 in
theorem mpos_10 : ∀ n, n < 1 → mC[10]? = some (10, n) := by decide +kernel
set_option maxRecDepth 20000 in
theorem mpos_11 : ∀ n, n < 1 → mC[11]? = some (11, n) := by decide +kernel
set_option maxRecDepth 20000 in
theorem mpos_12 : ∀ n, n < 1 → mC[12]? = some (12, n) := by decide +kernel
set_option maxRecDepth 20000 in
theorem mpos_13 : ∀ n, n < 1 → mC[13]? = some (13, n) := by decide +kernel
set_option maxRecDepth 20000 in
theorem mpos_14 : ∀ n, n < 1 → mC[14]? = some (14, n) := by decide +kernel
set_option maxRecDepth 20000 in
theorem mpos_15 : ∀ n, n < 1 → mC[15]? = some (15, n) := by decide +kernel
set_option maxRecDepth 20000 in
theorem mpos_16 : ∀ n, n < 1 → mC[16]? = some (16, n) := by decide +kernel
set_option maxRecDepth 20000 in
theorem mpos_17 : ∀ n, n < 1 → mC[17]? = some (17, n) := by decide +kernel
set_option maxRecDepth 20000 in
theorem mpos_18 : ∀ n, n < 1 → mC[18]? = some (18, n) := by decide +kernel
set_option maxRecDepth 20000 in
theorem mpos_19 : ∀ n, n < 1 → mC[19]? = some (19, n) := by decide +kernel
set_option maxRecDepth 20000 in
theorem mpos_20 : ∀ n, n < 1 → mC[20]? = some (20, n) := by decide +kernel
set_option maxRecDepth 20000 in
theorem mpos_21 : ∀ n, n < 1 → mC[21]? = some (21, n) := by decide +kernel
set_option maxRecDepth 20000 in
theorem mpos_22 : ∀ n, n < 1 → mC[22]? = some (22, n) := by decide +kernel
section
variable {p : Program} {l : Launch} {e : Env} {R : Room} {s : State} {m : MethodId} {args : Array Value} {below : List Frame} {meth : Method} {c : Code} {H : Heap} {locs : List Loc} {cells slots : Nat} {Q : State → Prop}
variable {cc : ByteArray} {pc : Nat} {ls : Array Slot} {rest st0 : List Value} {own : String} {index : Nat} {D : va_G} {aa : Nat → Nat → Nat} {q : Nat → ClassId} {σ : kS} {n : Nat}
theorem mat_0 (hn : n < 1) : (mW aa q σ)[0]? = some (aa 0 n, .inr (0, mF0 aa σ n)) := wmap_at (mpos_0 n hn)
theorem mat_1 (hn : n < 1) : (mW aa q σ)[1]? = some (aa 1 n, .inl (q 0, 12, .inl (fun i => gI σ 1 n i))) := wmap_at (mpos_1 n hn)
theorem mat_2 (hn : n < 1) : (mW aa q σ)[2]? = some (aa 2 n, .inl (q 0, 12, .inl (fun i => gI σ 2 n i))) := wmap_at (mpos_2 n hn)
theorem mat_3 (hn : n < 1) : (mW aa q σ)[3]? = some (aa 3 n, .inl (q 0, 12, .inl (fun i => gI σ 3 n i))) := wmap_at (mpos_3 n hn)
theorem mat_4 (hn : n < 1) : (mW aa q σ)[4]? = some (aa 4 n, .inl (q 0, 12, .inl (fun i => gI σ 4 n i))) := wmap_at (mpos_4 n hn)
theorem mat_5 (hn : n < 1) : (mW aa q σ)[5]? = some (aa 5 n, .inl (q 0, 12, .inl (fun i => gI σ 5 n i))) := wmap_at (mpos_5 n hn)
theorem mat_6 (hn : n < 1) : (mW aa q σ)[6]? = some (aa 6 n, .inl (q 0, 12, .inl (fun i => gI σ 6 n i))) := wmap_at (mpos_6 n hn)
theorem mat_7 (hn : n < 1) : (mW aa q σ)[7]? = some (aa 7 n, .inl (q 1, 12, .inr (.inl (fun i => gL σ 7 n i)))) := wmap_at (mpos_7 n hn)
theorem mat_8 (hn : n < 1) : (mW aa q σ)[8]? = some (aa 8 n, .inl (q 0, 12, .inl (fun i => gI σ 8 n i))) := wmap_at (mpos_8 n hn)
theorem mat_9 (hn : n < 1) : (mW aa q σ)[9]? = some (aa 9 n, .inl (q 0, 12, .inl (fun i => gI σ 9 n i))) := wmap_at (mpos_9 n hn)
theorem mat_10 (hn : n < 1) : (mW aa q σ)[10]? = some (aa 10 n, .inl (q 1, 12, .inr (.inl (fun i => gL σ 10 n i)))) := wmap_at (mpos_10 n hn)
theorem mat_11 (hn : n < 1) : (mW aa q σ)[11]? = some (aa 11 n, .inl (q 0, 120, .inl (fun i => gI σ 11 n i))) := wmap_at (mpos_11 n hn)
theorem mat_12 (hn : n < 1) : (mW aa q σ)[12]? = some (aa 12 n, .inl (q 0, 120, .inl (fun i => gI σ 12 n i))) := wmap_at (mpos_12 n hn)
theorem mat_13 (hn : n < 1) : (mW aa q σ)[13]? = some (aa 13 n, .inl (q 0, 120, .inl (fun i => gI σ 13 n i))) := wmap_at (mpos_13 n hn)
theorem mat_14 (hn : n < 1) : (mW aa q σ)[14]? = some (aa 14 n, .inl (q 0, 48, .inl (fun i => gI σ 14 n i))) := wmap_at (mpos_14 n hn)
theorem mat_15 (hn : n < 1) : (mW aa q σ)[15]? = some (aa 15 n, .inl (q 0, 4, .inl (fun i => gI σ 15 n i))) := wmap_at (mpos_15 n hn)
theorem mat_16 (hn : n < 1) : (mW aa q σ)[16]? = some (aa 16 n, .inl (q 2, 4, .inl (fun i => gI σ 16 n i))) := wmap_at (mpos_16 n hn)
theorem mat_17 (hn : n < 1) : (mW aa q σ)[17]? = some (aa 17 n, .inl (q 1, 4, .inr (.inl (fun i => gL σ 17 n i)))) := wmap_at (mpos_17 n hn)
theorem mat_18 (hn : n < 1) : (mW aa q σ)[18]? = some (aa 18 n, .inl (q 1, 4, .inr (.inl (fun i => gL σ 18 n i)))) := wmap_at (mpos_18 n hn)
theorem mat_19 (hn : n < 1) : (mW aa q σ)[19]? = some (aa 19 n, .inl (q 0, 4, .inl (fun i => gI σ 19 n i))) := wmap_at (mpos_19 n hn)
theorem mat_20 (hn : n < 1) : (mW aa q σ)[20]? = some (aa 20 n, .inl (q 0, 4, .inl (fun i => gI σ 20 n i))) := wmap_at (mpos_20 n hn)
theorem mat_21 (hn : n < 1) : (mW aa q σ)[21]? = some (aa 21 n, .inl (q 0, 12, .inl (fun i => gI σ 21 n i))) := wmap_at (mpos_21 n hn)
theorem mat_22 (hn : n < 1) : (mW aa q σ)[22]? = some (aa 22 n, .inl (q 0, 64, .inl (fun i => gI σ 22 n i))) := wmap_at (mpos_22 n hn)
theorem mg_0 (hx : p.tables.exec = Jvm.exec) (hb : c.code = cc) (ht : ∀ w ∈ lw_g, w.before args s = true) (hown : s.vm.findClass own = some m.cls) (hK : va_K D mCl (mT q) s) (hP : va_P D mCl (mW aa q σ) H) (hn : n < 1) (k : Nat) (hk : k < 27) (hl : Cond.fieldLink own index bR_M (bT_M k).2.1 (bT_M k).2.2.1 ∈ lw_g) {v : Value} (hv : (mF0 aa σ n)[k]? = some v) (hd : decode cc pc = .ok (.getfield index, 3)) (kk : W p l e R s m args below meth c H locs cells slots Q (F0 m (pc + 3) ls (v :: rest))) : W p l e R s m args below meth c H locs cells slots Q (F0 m pc ls (.ref (aa 0 n) :: rest)) :=
  va_get (D := D) (C := bR_M) (T := bT_M) (N := 27) hx hb ht bin_M hown hK hP 0 (mat_0 hn) rfl k hk (ht _ hl) (fun y9 h9 => by rw [bcl_M] at h9; exact h9) hv hd kk
theorem mr_0 (hK : va_K D mCl (mT q) s) (hP : va_P D mCl (mW aa q σ) H) (hn : n < 1) : ∃ cell : Cell, H[aa 0 n]? = some cell ∧ cell.vm.isStatics = false ∧ s.vm.findClass bR_M = some cell.cls := va_recv (q := (bR_M, bT_M, 27)) hK hP rfl (mat_0 hn)
theorem mset_0_count {v : Int32} (hn : n < 1) : (mW aa q σ).set 0 (aa 0 n, .inr (0, (mF0 aa σ n).set 0 (.int v))) = mW aa q (sI σ 30 n 0 v) := by
  refine wmap_set mC_nd (mpos_0 n hn) ?_ ?_
  · simp [mE, mF0, gI_sI, gL_sL, gI_sL, gL_sI]
  · intro f9 n9 hne
    match f9, hne with
    | 0, hne =>
      have hn9 : ¬ n9 = n := fun e9 => hne ⟨rfl, e9⟩
      simp [mE, mF0, gI_sI, gL_sL, gI_sL, gL_sI, hn9]
    | 1, _ => rfl
    | 2, _ => rfl
    | 3, _ => rfl
    | 4, _ => rfl
    | 5, _ => rfl
    | 6, _ => rfl
    | 7, _ => rfl
    | 8, _ => rfl
    | 9, _ => rfl
    | 10, _ => rfl
    | 11, _ => rfl
    | 12, _ => rfl
    | 13, _ => rfl
    | 14, _ => rfl
    | 15, _ => rfl
    | 16, _ => rfl
    | 17, _ => rfl
    | 18, _ => rfl
    | 19, _ => rfl
    | 20, _ => rfl
    | 21, _ => rfl
    | 22, _ => rfl
    | k9 + 23, _ => rfl
theorem mp_0_count (hx : p.tables.exec = Jvm.exec) (hb : c.code = cc) (ht : ∀ w ∈ lw_g, w.before args s = true) (hown : s.vm.findClass own = some m.cls) (hK : va_K D mCl (mT q) s) (hP : va_P D mCl (mW aa q σ) H) (hJ : wJ mC aa) (hS : va_S (wA mC aa) s.heap H locs) (hn : n < 1) {v : Int32} (hl : Cond.fieldLink own index bR_M "count" "I" ∈ lw_g) (hd : decode cc pc = .ok (.putfield index, 3)) (kk : ∀ (H1 : Heap) (locs1 : List Loc), va_P D mCl (mW aa q (sI σ 30 n 0 v)) H1 → va_S (wA mC aa) s.heap H1 locs1 → W p l e R s m args below meth c H1 locs1 cells slots Q (F0 m (pc + 3) ls rest)) : W p l e R s m args below meth c H locs cells slots Q (F0 m pc ls (.int v :: .ref (aa 0 n) :: rest)) := by
  refine va_put (D := D) (v := .int v) (ty := .int) (C := bR_M) (T := bT_M) (N := 27) hx hb ht bin_M bty_M bo_M bn_M hown hK hP (wmap_D hJ) hS 0 (mat_0 hn) rfl 0 (by decide) (ht _ hl) (fun _ h9 => h9) rfl (by decide +kernel) rfl rfl (Nat.le_of_ble_eq_true rfl) hd (fun H1 locs1 hP1 _ hS1 => kk H1 locs1 ?_ hS1)
  rw [← mset_0_count hn]
  exact hP1
theorem mset_0_order {v : Int32} (hn : n < 1) : (mW aa q σ).set 0 (aa 0 n, .inr (0, (mF0 aa σ n).set 1 (.int v))) = mW aa q (sI σ 31 n 0 v) := by
  refine wmap_set mC_nd (mpos_0 n hn) ?_ ?_
  · simp [mE, mF0, gI_sI, gL_sL, gI_sL, gL_sI]
  · intro f9 n9 hne
    match f9, hne with
    | 0, hne =>
      have hn9 : ¬ n9 = n := fun e9 => hne ⟨rfl, e9⟩
      simp [mE, mF0, gI_sI, gL_sL, gI_sL, gL_sI, hn9]
    | 1, _ => rfl
    | 2, _ => rfl
    | 3, _ => rfl
    | 4, _ => rfl
    | 5, _ => rfl
    | 6, _ => rfl
    | 7, _ => rfl
    | 8, _ => rfl
    | 9, _ => rfl
    | 10, _ => rfl
    | 11, _ => rfl
    | 12, _ => rfl
    | 13, _ => rfl
    | 14, _ => rfl
    | 15, _ => rfl
    | 16, _ => rfl
    | 17, _ => rfl
    | 18, _ => rfl
    | 19, _ => rfl
    | 20, _ => rfl
    | 21, _ => rfl
    | 22, _ => rfl
    | k9 + 23, _ => rfl
theorem mp_0_order (hx : p.tables.exec = Jvm.exec) (hb : c.code = cc) (ht : ∀ w ∈ lw_g, w.before args s = true) (hown : s.vm.findClass own = some m.cls) (hK : va_K D mCl (mT q) s) (hP : va_P D mCl (mW aa q σ) H) (hJ : wJ mC aa) (hS : va_S (wA mC aa) s.heap H locs) (hn : n < 1) {v : Int32} (hl : Cond.fieldLink own index bR_M "order" "I" ∈ lw_g) (hd : decode cc pc = .ok (.putfield index, 3)) (kk : ∀ (H1 : Heap) (locs1 : List Loc), va_P D mCl (mW aa q (sI σ 31 n 0 v)) H1 → va_S (wA mC aa) s.heap H1 locs1 → W p l e R s m args below meth c H1 locs1 cells slots Q (F0 m (pc + 3) ls rest)) : W p l e R s m args below meth c H locs cells slots Q (F0 m pc ls (.int v :: .ref (aa 0 n) :: rest)) := by
  refine va_put (D := D) (v := .int v) (ty := .int) (C := bR_M) (T := bT_M) (N := 27) hx hb ht bin_M bty_M bo_M bn_M hown hK hP (wmap_D hJ) hS 0 (mat_0 hn) rfl 1 (by decide) (ht _ hl) (fun _ h9 => h9) rfl (by decide +kernel) rfl rfl (Nat.le_of_ble_eq_true rfl) hd (fun H1 locs1 hP1 _ hS1 => kk H1 locs1 ?_ hS1)
  rw [← mset_0_order hn]
  exact hP1
theorem mset_0_coming {v : Int32} (hn : n < 1) : (mW aa q σ).set 0 (aa 0 n, .inr (0, (mF0 aa σ n).set 2 (.int v))) = mW aa q (sI σ 32 n 0 v) := by
  refine wmap_set mC_nd (mpos_0 n hn) ?_ ?_
  · simp [mE, mF0, gI_sI, gL_sL, gI_sL, gL_sI]
  · intro f9 n9 hne
    match f9, hne with
    | 0, hne =>
      have hn9 : ¬ n9 = n := fun e9 => hne ⟨rfl, e9⟩
      simp [mE, mF0, gI_sI, gL_sL, gI_sL, gL_sI, hn9]
    | 1, _ => rfl
    | 2, _ => rfl
    | 3, _ => rfl
    | 4, _ => rfl
    | 5, _ => rfl
    | 6, _ => rfl
    | 7, _ => rfl
    | 8, _ => rfl
    | 9, _ => rfl
    | 10, _ => rfl
    | 11, _ => rfl
    | 12, _ => rfl
    | 13, _ => rfl
    | 14, _ => rfl
    | 15, _ => rfl
    | 16, _ => rfl
    | 17, _ => rfl
    | 18, _ => rfl
    | 19, _ => rfl
    | 20, _ => rfl
    | 21, _ => rfl
    | 22, _ => rfl
    | k9 + 23, _ => rfl
theorem mp_0_coming (hx : p.tables.exec = Jvm.exec) (hb : c.code = cc) (ht : ∀ w ∈ lw_g, w.before args s = true) (hown : s.vm.findClass own = some m.cls) (hK : va_K D mCl (mT q) s) (hP : va_P D mCl (mW aa q σ) H) (hJ : wJ mC aa) (hS : va_S (wA mC aa) s.heap H locs) (hn : n < 1) {v : Int32} (hl : Cond.fieldLink own index bR_M "coming" "I" ∈ lw_g) (hd : decode cc pc = .ok (.putfield index, 3)) (kk : ∀ (H1 : Heap) (locs1 : List Loc), va_P D mCl (mW aa q (sI σ 32 n 0 v)) H1 → va_S (wA mC aa) s.heap H1 locs1 → W p l e R s m args below meth c H1 locs1 cells slots Q (F0 m (pc + 3) ls rest)) : W p l e R s m args below meth c H locs cells slots Q (F0 m pc ls (.int v :: .ref (aa 0 n) :: rest)) := by
  refine va_put (D := D) (v := .int v) (ty := .int) (C := bR_M) (T := bT_M) (N := 27) hx hb ht bin_M bty_M bo_M bn_M hown hK hP (wmap_D hJ) hS 0 (mat_0 hn) rfl 2 (by decide) (ht _ hl) (fun _ h9 => h9) rfl (by decide +kernel) rfl rfl (Nat.le_of_ble_eq_true rfl) hd (fun H1 locs1 hP1 _ hS1 => kk H1 locs1 ?_ hS1)
  rw [← mset_0_coming hn]
  exact hP1
theorem mset_0_events {v : Int32} (hn : n < 1) : (mW aa q σ).set 0 (aa 0 n, .inr (0, (mF0 aa σ n).set 3 (.int v))) = mW aa q (sI σ 33 n 0 v) := by
  refine wmap_set mC_nd (mpos_0 n hn) ?_ ?_
  · simp [mE, mF0, gI_sI, gL_sL, gI_sL, gL_sI]
  · intro f9 n9 hne
    match f9, hne with
    | 0, hne =>
      have hn9 : ¬ n9 = n := fun e9 => hne ⟨rfl, e9⟩
      simp [mE, mF0, gI_sI, gL_sL, gI_sL, gL_sI, hn9]
    | 1, _ => rfl
    | 2, _ => rfl
    | 3, _ => rfl
    | 4, _ => rfl
    | 5, _ => rfl
    | 6, _ => rfl
    | 7, _ => rfl
    | 8, _ => rfl
    | 9, _ => rfl
    | 10, _ => rfl
    | 11, _ => rfl
    | 12, _ => rfl
    | 13, _ => rfl
    | 14, _ => rfl
    | 15, _ => rfl
    | 16, _ => rfl
    | 17, _ => rfl
    | 18, _ => rfl
    | 19, _ => rfl
    | 20, _ => rfl
    | 21, _ => rfl
    | 22, _ => rfl
    | k9 + 23, _ => rfl
theorem mp_0_events (hx : p.tables.exec = Jvm.exec) (hb : c.code = cc) (ht : ∀ w ∈ lw_g, w.before args s = true) (hown : s.vm.findClass own = some m.cls) (hK : va_K D mCl (mT q) s) (hP : va_P D mCl (mW aa q σ) H) (hJ : wJ mC aa) (hS : va_S (wA mC aa) s.heap H locs) (hn : n < 1) {v : Int32} (hl : Cond.fieldLink own index bR_M "events" "I" ∈ lw_g) (hd : decode cc pc = .ok (.putfield index, 3)) (kk : ∀ (H1 : Heap) (locs1 : List Loc), va_P D mCl (mW aa q (sI σ 33 n 0 v)) H1 → va_S (wA mC aa) s.heap H1 locs1 → W p l e R s m args below meth c H1 locs1 cells slots Q (F0 m (pc + 3) ls rest)) : W p l e R s m args below meth c H locs cells slots Q (F0 m pc ls (.int v :: .ref (aa 0 n) :: rest)) := by
  refine va_put (D := D) (v := .int v) (ty := .int) (C := bR_M) (T := bT_M) (N := 27) hx hb ht bin_M bty_M bo_M bn_M hown hK hP (wmap_D hJ) hS 0 (mat_0 hn) rfl 3 (by decide) (ht _ hl) (fun _ h9 => h9) rfl (by decide +kernel) rfl rfl (Nat.le_of_ble_eq_true rfl) hd (fun H1 locs1 hP1 _ hS1 => kk H1 locs1 ?_ hS1)
  rw [← mset_0_events hn]
  exact hP1
theorem mset_0_clock {v : Int64} (hn : n < 1) : (mW aa q σ).set 0 (aa 0 n, .inr (0, (mF0 aa σ n).set 4 (.long v))) = mW aa q (sL σ 0 n 0 v) := by
  refine wmap_set mC_nd (mpos_0 n hn) ?_ ?_
  · simp [mE, mF0, gI_sI, gL_sL, gI_sL, gL_sI]
  · intro f9 n9 hne
    match f9, hne with
    | 0, hne =>
      have hn9 : ¬ n9 = n := fun e9 => hne ⟨rfl, e9⟩
      simp [mE, mF0, gI_sI, gL_sL, gI_sL, gL_sI, hn9]
    | 1, _ => rfl
    | 2, _ => rfl
    | 3, _ => rfl
    | 4, _ => rfl
    | 5, _ => rfl
    | 6, _ => rfl
    | 7, _ => rfl
    | 8, _ => rfl
    | 9, _ => rfl
    | 10, _ => rfl
    | 11, _ => rfl
    | 12, _ => rfl
    | 13, _ => rfl
    | 14, _ => rfl
    | 15, _ => rfl
    | 16, _ => rfl
    | 17, _ => rfl
    | 18, _ => rfl
    | 19, _ => rfl
    | 20, _ => rfl
    | 21, _ => rfl
    | 22, _ => rfl
    | k9 + 23, _ => rfl
theorem mp_0_clock (hx : p.tables.exec = Jvm.exec) (hb : c.code = cc) (ht : ∀ w ∈ lw_g, w.before args s = true) (hown : s.vm.findClass own = some m.cls) (hK : va_K D mCl (mT q) s) (hP : va_P D mCl (mW aa q σ) H) (hJ : wJ mC aa) (hS : va_S (wA mC aa) s.heap H locs) (hn : n < 1) {v : Int64} (hl : Cond.fieldLink own index bR_M "clock" "J" ∈ lw_g) (hd : decode cc pc = .ok (.putfield index, 3)) (kk : ∀ (H1 : Heap) (locs1 : List Loc), va_P D mCl (mW aa q (sL σ 0 n 0 v)) H1 → va_S (wA mC aa) s.heap H1 locs1 → W p l e R s m args below meth c H1 locs1 cells slots Q (F0 m (pc + 3) ls rest)) : W p l e R s m args below meth c H locs cells slots Q (F0 m pc ls (.long v :: .ref (aa 0 n) :: rest)) := by
  refine va_put (D := D) (v := .long v) (ty := .long) (C := bR_M) (T := bT_M) (N := 27) hx hb ht bin_M bty_M bo_M bn_M hown hK hP (wmap_D hJ) hS 0 (mat_0 hn) rfl 4 (by decide) (ht _ hl) (fun _ h9 => h9) rfl (by decide +kernel) rfl rfl (Nat.le_of_ble_eq_true rfl) hd (fun H1 locs1 hP1 _ hS1 => kk H1 locs1 ?_ hS1)
  rw [← mset_0_clock hn]
  exact hP1
theorem ml_1 (hx : p.tables.exec = Jvm.exec) (hb : c.code = cc) (hK : va_K D mCl (mT q) s) (hP : va_P D mCl (mW aa q σ) H) (hn : n < 1) {i : Int32} (hi : vp_in i 12) (hd : decode cc pc = .ok (.iaload, 1)) (kk : W p l e R s m args below meth c H locs cells slots Q (F0 m (pc + 1) ls (.int (gI σ 1 n i.toNatClampNeg) :: rest))) : W p l e R s m args below meth c H locs cells slots Q (F0 m pc ls (.int i :: .ref (aa 1 n) :: rest)) :=
  va_iald (f := fun i => gI σ 1 n i) hx hb hK hP 1 0 (mat_1 hn) rfl hi hd kk
theorem mset_1 {i0 : Nat} {v : Int32} (hn : n < 1) : (mW aa q σ).set 1 (aa 1 n, .inl (q 0, 12, .inl (upd (fun i => gI σ 1 n i) i0 v))) = mW aa q (sI σ 1 n i0 v) := by
  refine wmap_set mC_nd (mpos_1 n hn) ?_ ?_
  · rw [upd_sI]
    rfl
  · intro f9 n9 hne
    match f9, hne with
    | 0, _ => rfl
    | 1, hne =>
      have hn9 : ¬ n9 = n := fun e9 => hne ⟨rfl, e9⟩
      simp [mE,  gI_sI, gL_sL, gI_sL, gL_sI, hn9]
    | 2, _ => rfl
    | 3, _ => rfl
    | 4, _ => rfl
    | 5, _ => rfl
    | 6, _ => rfl
    | 7, _ => rfl
    | 8, _ => rfl
    | 9, _ => rfl
    | 10, _ => rfl
    | 11, _ => rfl
    | 12, _ => rfl
    | 13, _ => rfl
    | 14, _ => rfl
    | 15, _ => rfl
    | 16, _ => rfl
    | 17, _ => rfl
    | 18, _ => rfl
    | 19, _ => rfl
    | 20, _ => rfl
    | 21, _ => rfl
    | 22, _ => rfl
    | k9 + 23, _ => rfl
theorem mt_1 (hx : p.tables.exec = Jvm.exec) (hb : c.code = cc) (hK : va_K D mCl (mT q) s) (hP : va_P D mCl (mW aa q σ) H) (hJ : wJ mC aa) (hS : va_S (wA mC aa) s.heap H locs) (hn : n < 1) {i : Int32} (hi : vp_in i 12) {v : Int32} (hd : decode cc pc = .ok (.iastore, 1)) (kk : ∀ (H1 : Heap) (locs1 : List Loc), va_P D mCl (mW aa q (sI σ 1 n i.toNatClampNeg v)) H1 → va_S (wA mC aa) s.heap H1 locs1 → W p l e R s m args below meth c H1 locs1 cells slots Q (F0 m (pc + 1) ls rest)) : W p l e R s m args below meth c H locs cells slots Q (F0 m pc ls (.int v :: .int i :: .ref (aa 1 n) :: rest)) := by
  refine va_iast (f := fun i => gI σ 1 n i) hx hb hK hP (wmap_D hJ) hS 1 0 (mat_1 hn) rfl hi hd (fun H1 locs1 hP1 _ hS1 => kk H1 locs1 ?_ hS1)
  rw [← mset_1 hn]
  exact hP1
theorem ml_2 (hx : p.tables.exec = Jvm.exec) (hb : c.code = cc) (hK : va_K D mCl (mT q) s) (hP : va_P D mCl (mW aa q σ) H) (hn : n < 1) {i : Int32} (hi : vp_in i 12) (hd : decode cc pc = .ok (.iaload, 1)) (kk : W p l e R s m args below meth c H locs cells slots Q (F0 m (pc + 1) ls (.int (gI σ 2 n i.toNatClampNeg) :: rest))) : W p l e R s m args below meth c H locs cells slots Q (F0 m pc ls (.int i :: .ref (aa 2 n) :: rest)) :=
  va_iald (f := fun i => gI σ 2 n i) hx hb hK hP 2 0 (mat_2 hn) rfl hi hd kk
theorem mset_2 {i0 : Nat} {v : Int32} (hn : n < 1) : (mW aa q σ).set 2 (aa 2 n, .inl (q 0, 12, .inl (upd (fun i => gI σ 2 n i) i0 v))) = mW aa q (sI σ 2 n i0 v) := by
  refine wmap_set mC_nd (mpos_2 n hn) ?_ ?_
  · rw [upd_sI]
    rfl
  · intro f9 n9 hne
    match f9, hne with
    | 0, _ => rfl
    | 1, _ => rfl
    | 2, hne =>
      have hn9 : ¬ n9 = n := fun e9 => hne ⟨rfl, e9⟩
      simp [mE,  gI_sI, gL_sL, gI_sL, gL_sI, hn9]
    | 3, _ => rfl
    | 4, _ => rfl
    | 5, _ => rfl
    | 6, _ => rfl
    | 7, _ => rfl
    | 8, _ => rfl
    | 9, _ => rfl
    | 10, _ => rfl
    | 11, _ => rfl
    | 12, _ => rfl
    | 13, _ => rfl
    | 14, _ => rfl
    | 15, _ => rfl
    | 16, _ => rfl
    | 17, _ => rfl
    | 18, _ => rfl
    | 19, _ => rfl
    | 20, _ => rfl
    | 21, _ => rfl
    | 22, _ => rfl
    | k9 + 23, _ => rfl
theorem mt_2 (hx : p.tables.exec = Jvm.exec) (hb : c.code = cc) (hK : va_K D mCl (mT q) s) (hP : va_P D mCl (mW aa q σ) H) (hJ : wJ mC aa) (hS : va_S (wA mC aa) s.heap H locs) (hn : n < 1) {i : Int32} (hi : vp_in i 12) {v : Int32} (hd : decode cc pc = .ok (.iastore, 1)) (kk : ∀ (H1 : Heap) (locs1 : List Loc), va_P D mCl (mW aa q (sI σ 2 n i.toNatClampNeg v)) H1 → va_S (wA mC aa) s.heap H1 locs1 → W p l e R s m args below meth c H1 locs1 cells slots Q (F0 m (pc + 1) ls rest)) : W p l e R s m args below meth c H locs cells slots Q (F0 m pc ls (.int v :: .int i :: .ref (aa 2 n) :: rest)) := by
  refine va_iast (f := fun i => gI σ 2 n i) hx hb hK hP (wmap_D hJ) hS 2 0 (mat_2 hn) rfl hi hd (fun H1 locs1 hP1 _ hS1 => kk H1 locs1 ?_ hS1)
  rw [← mset_2 hn]
  exact hP1
theorem ml_3 (hx : p.tables.exec = Jvm.exec) (hb : c.code = cc) (hK : va_K D mCl (mT q) s) (hP : va_P D mCl (mW aa q σ) H) (hn : n < 1) {i : Int32} (hi : vp_in i 12) (hd : decode cc pc = .ok (.iaload, 1)) (kk : W p l e R s m args below meth c H locs cells slots Q (F0 m (pc + 1) ls (.int (gI σ 3 n i.toNatClampNeg) :: rest))) : W p l e R s m args below meth c H locs cells slots Q (F0 m pc ls (.int i :: .ref (aa 3 n) :: rest)) :=
  va_iald (f := fun i => gI σ 3 n i) hx hb hK hP 3 0 (mat_3 hn) rfl hi hd kk
theorem mset_3 {i0 : Nat} {v : Int32} (hn : n < 1) : (mW aa q σ).set 3 (aa 3 n, .inl (q 0, 12, .inl (upd (fun i => gI σ 3 n i) i0 v))) = mW aa q (sI σ 3 n i0 v) := by
  refine wmap_set mC_nd (mpos_3 n hn) ?_ ?_
  · rw [upd_sI]
    rfl
  · intro f9 n9 hne
    match f9, hne with
    | 0, _ => rfl
    | 1, _ => rfl
    | 2, _ => rfl
    | 3, hne =>
      have hn9 : ¬ n9 = n := fun e9 => hne ⟨rfl, e9⟩
      simp [mE,  gI_sI, gL_sL, gI_sL, gL_sI, hn9]
    | 4, _ => rfl
    | 5, _ => rfl
    | 6, _ => rfl
    | 7, _ => rfl
    | 8, _ => rfl
    | 9, _ => rfl
    | 10, _ => rfl
    | 11, _ => rfl
    | 12, _ => rfl
    | 13, _ => rfl
    | 14, _ => rfl
    | 15, _ => rfl
    | 16, _ => rfl
    | 17, _ => rfl
    | 18, _ => rfl
    | 19, _ => rfl
    | 20, _ => rfl
    | 21, _ => rfl
    | 22, _ => rfl
    | k9 + 23, _ => rfl
theorem mt_3 (hx : p.tables.exec = Jvm.exec) (hb : c.code = cc) (hK : va_K D mCl (mT q) s) (hP : va_P D mCl (mW aa q σ) H) (hJ : wJ mC aa) (hS : va_S (wA mC aa) s.heap H locs) (hn : n < 1) {i : Int32} (hi : vp_in i 12) {v : Int32} (hd : decode cc pc = .ok (.iastore, 1)) (kk : ∀ (H1 : Heap) (locs1 : List Loc), va_P D mCl (mW aa q (sI σ 3 n i.toNatClampNeg v)) H1 → va_S (wA mC aa) s.heap H1 locs1 → W p l e R s m args below meth c H1 locs1 cells slots Q (F0 m (pc + 1) ls rest)) : W p l e R s m args below meth c H locs cells slots Q (F0 m pc ls (.int v :: .int i :: .ref (aa 3 n) :: rest)) := by
  refine va_iast (f := fun i => gI σ 3 n i) hx hb hK hP (wmap_D hJ) hS 3 0 (mat_3 hn) rfl hi hd (fun H1 locs1 hP1 _ hS1 => kk H1 locs1 ?_ hS1)
  rw [← mset_3 hn]
  exact hP1
theorem ml_4 (hx : p.tables.exec = Jvm.exec) (hb : c.code = cc) (hK : va_K D mCl (mT q) s) (hP : va_P D mCl (mW aa q σ) H) (hn : n < 1) {i : Int32} (hi : vp_in i 12) (hd : decode cc pc = .ok (.iaload, 1)) (kk : W p l e R s m args below meth c H locs cells slots Q (F0 m (pc + 1) ls (.int (gI σ 4 n i.toNatClampNeg) :: rest))) : W p l e R s m args below meth c H locs cells slots Q (F0 m pc ls (.int i :: .ref (aa 4 n) :: rest)) :=
  va_iald (f := fun i => gI σ 4 n i) hx hb hK hP 4 0 (mat_4 hn) rfl hi hd kk
theorem mset_4 {i0 : Nat} {v : Int32} (hn : n < 1) : (mW aa q σ).set 4 (aa 4 n, .inl (q 0, 12, .inl (upd (fun i => gI σ 4 n i) i0 v))) = mW aa q (sI σ 4 n i0 v) := by
  refine wmap_set mC_nd (mpos_4 n hn) ?_ ?_
  · rw [upd_sI]
    rfl
  · intro f9 n9 hne
    match f9, hne with
    | 0, _ => rfl
    | 1, _ => rfl
    | 2, _ => rfl
    | 3, _ => rfl
    | 4, hne =>
      have hn9 : ¬ n9 = n := fun e9 => hne ⟨rfl, e9⟩
      simp [mE,  gI_sI, gL_sL, gI_sL, gL_sI, hn9]
    | 5, _ => rfl
    | 6, _ => rfl
    | 7, _ => rfl
    | 8, _ => rfl
    | 9, _ => rfl
    | 10, _ => rfl
    | 11, _ => rfl
    | 12, _ => rfl
    | 13, _ => rfl
    | 14, _ => rfl
    | 15, _ => rfl
    | 16, _ => rfl
    | 17, _ => rfl
    | 18, _ => rfl
    | 19, _ => rfl
    | 20, _ => rfl
    | 21, _ => rfl
    | 22, _ => rfl
    | k9 + 23, _ => rfl
theorem mt_4 (hx : p.tables.exec = Jvm.exec) (hb : c.code = cc) (hK : va_K D mCl (mT q) s) (hP : va_P D mCl (mW aa q σ) H) (hJ : wJ mC aa) (hS : va_S (wA mC aa) s.heap H locs) (hn : n < 1) {i : Int32} (hi : vp_in i 12) {v : Int32} (hd : decode cc pc = .ok (.iastore, 1)) (kk : ∀ (H1 : Heap) (locs1 : List Loc), va_P D mCl (mW aa q (sI σ 4 n i.toNatClampNeg v)) H1 → va_S (wA mC aa) s.heap H1 locs1 → W p l e R s m args below meth c H1 locs1 cells slots Q (F0 m (pc + 1) ls rest)) : W p l e R s m args below meth c H locs cells slots Q (F0 m pc ls (.int v :: .int i :: .ref (aa 4 n) :: rest)) := by
  refine va_iast (f := fun i => gI σ 4 n i) hx hb hK hP (wmap_D hJ) hS 4 0 (mat_4 hn) rfl hi hd (fun H1 locs1 hP1 _ hS1 => kk H1 locs1 ?_ hS1)
  rw [← mset_4 hn]
  exact hP1
theorem ml_5 (hx : p.tables.exec = Jvm.exec) (hb : c.code = cc) (hK : va_K D mCl (mT q) s) (hP : va_P D mCl (mW aa q σ) H) (hn : n < 1) {i : Int32} (hi : vp_in i 12) (hd : decode cc pc = .ok (.iaload, 1)) (kk : W p l e R s m args below meth c H locs cells slots Q (F0 m (pc + 1) ls (.int (gI σ 5 n i.toNatClampNeg) :: rest))) : W p l e R s m args below meth c H locs cells slots Q (F0 m pc ls (.int i :: .ref (aa 5 n) :: rest)) :=
  va_iald (f := fun i => gI σ 5 n i) hx hb hK hP 5 0 (mat_5 hn) rfl hi hd kk
theorem mset_5 {i0 : Nat} {v : Int32} (hn : n < 1) : (mW aa q σ).set 5 (aa 5 n, .inl (q 0, 12, .inl (upd (fun i => gI σ 5 n i) i0 v))) = mW aa q (sI σ 5 n i0 v) := by
  refine wmap_set mC_nd (mpos_5 n hn) ?_ ?_
  · rw [upd_sI]
    rfl
  · intro f9 n9 hne
    match f9, hne with
    | 0, _ => rfl
    | 1, _ => rfl
    | 2, _ => rfl
    | 3, _ => rfl
    | 4, _ => rfl
    | 5, hne =>
      have hn9 : ¬ n9 = n := fun e9 => hne ⟨rfl, e9⟩
      simp [mE,  gI_sI, gL_sL, gI_sL, gL_sI, hn9]
    | 6, _ => rfl
    | 7, _ => rfl
    | 8, _ => rfl
    | 9, _ => rfl
    | 10, _ => rfl
    | 11, _ => rfl
    | 12, _ => rfl
    | 13, _ => rfl
    | 14, _ => rfl
    | 15, _ => rfl
    | 16, _ => rfl
    | 17, _ => rfl
    | 18, _ => rfl
    | 19, _ => rfl
    | 20, _ => rfl
    | 21, _ => rfl
    | 22, _ => rfl
    | k9 + 23, _ => rfl
theorem mt_5 (hx : p.tables.exec = Jvm.exec) (hb : c.code = cc) (hK : va_K D mCl (mT q) s) (hP : va_P D mCl (mW aa q σ) H) (hJ : wJ mC aa) (hS : va_S (wA mC aa) s.heap H locs) (hn : n < 1) {i : Int32} (hi : vp_in i 12) {v : Int32} (hd : decode cc pc = .ok (.iastore, 1)) (kk : ∀ (H1 : Heap) (locs1 : List Loc), va_P D mCl (mW aa q (sI σ 5 n i.toNatClampNeg v)) H1 → va_S (wA mC aa) s.heap H1 locs1 → W p l e R s m args below meth c H1 locs1 cells slots Q (F0 m (pc + 1) ls rest)) : W p l e R s m args below meth c H locs cells slots Q (F0 m pc ls (.int v :: .int i :: .ref (aa 5 n) :: rest)) := by
  refine va_iast (f := fun i => gI σ 5 n i) hx hb hK hP (wmap_D hJ) hS 5 0 (mat_5 hn) rfl hi hd (fun H1 locs1 hP1 _ hS1 => kk H1 locs1 ?_ hS1)
  rw [← mset_5 hn]
  exact hP1
theorem ml_6 (hx : p.tables.exec = Jvm.exec) (hb : c.code = cc) (hK : va_K D mCl (mT q) s) (hP : va_P D mCl (mW aa q σ) H) (hn : n < 1) {i : Int32} (hi : vp_in i 12) (hd : decode cc pc = .ok (.iaload, 1)) (kk : W p l e R s m args below meth c H locs cells slots Q (F0 m (pc + 1) ls (.int (gI σ 6 n i.toNatClampNeg) :: rest))) : W p l e R s m args below meth c H locs cells slots Q (F0 m pc ls (.int i :: .ref (aa 6 n) :: rest)) :=
  va_iald (f := fun i => gI σ 6 n i) hx hb hK hP 6 0 (mat_6 hn) rfl hi hd kk
theorem mset_6 {i0 : Nat} {v : Int32} (hn : n < 1) : (mW aa q σ).set 6 (aa 6 n, .inl (q 0, 12, .inl (upd (fun i => gI σ 6 n i) i0 v))) = mW aa q (sI σ 6 n i0 v) := by
  refine wmap_set mC_nd (mpos_6 n hn) ?_ ?_
  · rw [upd_sI]
    rfl
  · intro f9 n9 hne
    match f9, hne with
    | 0, _ => rfl
    | 1, _ => rfl
    | 2, _ => rfl
    | 3, _ => rfl
    | 4, _ => rfl
    | 5, _ => rfl
    | 6, hne =>
      have hn9 : ¬ n9 = n := fun e9 => hne ⟨rfl, e9⟩
      simp [mE,  gI_sI, gL_sL, gI_sL, gL_sI, hn9]
    | 7, _ => rfl
    | 8, _ => rfl
    | 9, _ => rfl
    | 10, _ => rfl
    | 11, _ => rfl
    | 12, _ => rfl
    | 13, _ => rfl
    | 14, _ => rfl
    | 15, _ => rfl
    | 16, _ => rfl
    | 17, _ => rfl
    | 18, _ => rfl
    | 19, _ => rfl
    | 20, _ => rfl
    | 21, _ => rfl
    | 22, _ => rfl
    | k9 + 23, _ => rfl
theorem mt_6 (hx : p.tables.exec = Jvm.exec) (hb : c.code = cc) (hK : va_K D mCl (mT q) s) (hP : va_P D mCl (mW aa q σ) H) (hJ : wJ mC aa) (hS : va_S (wA mC aa) s.heap H locs) (hn : n < 1) {i : Int32} (hi : vp_in i 12) {v : Int32} (hd : decode cc pc = .ok (.iastore, 1)) (kk : ∀ (H1 : Heap) (locs1 : List Loc), va_P D mCl (mW aa q (sI σ 6 n i.toNatClampNeg v)) H1 → va_S (wA mC aa) s.heap H1 locs1 → W p l e R s m args below meth c H1 locs1 cells slots Q (F0 m (pc + 1) ls rest)) : W p l e R s m args below meth c H locs cells slots Q (F0 m pc ls (.int v :: .int i :: .ref (aa 6 n) :: rest)) := by
  refine va_iast (f := fun i => gI σ 6 n i) hx hb hK hP (wmap_D hJ) hS 6 0 (mat_6 hn) rfl hi hd (fun H1 locs1 hP1 _ hS1 => kk H1 locs1 ?_ hS1)
  rw [← mset_6 hn]
  exact hP1
theorem ml_8 (hx : p.tables.exec = Jvm.exec) (hb : c.code = cc) (hK : va_K D mCl (mT q) s) (hP : va_P D mCl (mW aa q σ) H) (hn : n < 1) {i : Int32} (hi : vp_in i 12) (hd : decode cc pc = .ok (.iaload, 1)) (kk : W p l e R s m args below meth c H locs cells slots Q (F0 m (pc + 1) ls (.int (gI σ 8 n i.toNatClampNeg) :: rest))) : W p l e R s m args below meth c H locs cells slots Q (F0 m pc ls (.int i :: .ref (aa 8 n) :: rest)) :=
  va_iald (f := fun i => gI σ 8 n i) hx hb hK hP 8 0 (mat_8 hn) rfl hi hd kk
theorem mset_8 {i0 : Nat} {v : Int32} (hn : n < 1) : (mW aa q σ).set 8 (aa 8 n, .inl (q 0, 12, .inl (upd (fun i => gI σ 8 n i) i0 v))) = mW aa q (sI σ 8 n i0 v) := by
  refine wmap_set mC_nd (mpos_8 n hn) ?_ ?_
  · rw [upd_sI]
    rfl
  · intro f9 n9 hne
    match f9, hne with
    | 0, _ => rfl
    | 1, _ => rfl
    | 2, _ => rfl
    | 3, _ => rfl
    | 4, _ => rfl
    | 5, _ => rfl
    | 6, _ => rfl
    | 7, _ => rfl
    | 8, hne =>
      have hn9 : ¬ n9 = n := fun e9 => hne ⟨rfl, e9⟩
      simp [mE,  gI_sI, gL_sL, gI_sL, gL_sI, hn9]
    | 9, _ => rfl
    | 10, _ => rfl
    | 11, _ => rfl
    | 12, _ => rfl
    | 13, _ => rfl
    | 14, _ => rfl
    | 15, _ => rfl
    | 16, _ => rfl
    | 17, _ => rfl
    | 18, _ => rfl
    | 19, _ => rfl
    | 20, _ => rfl
    | 21, _ => rfl
    | 22, _ => rfl
    | k9 + 23, _ => rfl
theorem mt_8 (hx : p.tables.exec = Jvm.exec) (hb : c.code = cc) (hK : va_K D mCl (mT q) s) (hP : va_P D mCl (mW aa q σ) H) (hJ : wJ mC aa) (hS : va_S (wA mC aa) s.heap H locs) (hn : n < 1) {i : Int32} (hi : vp_in i 12) {v : Int32} (hd : decode cc pc = .ok (.iastore, 1)) (kk : ∀ (H1 : Heap) (locs1 : List Loc), va_P D mCl (mW aa q (sI σ 8 n i.toNatClampNeg v)) H1 → va_S (wA mC aa) s.heap H1 locs1 → W p l e R s m args below meth c H1 locs1 cells slots Q (F0 m (pc + 1) ls rest)) : W p l e R s m args below meth c H locs cells slots Q (F0 m pc ls (.int v :: .int i :: .ref (aa 8 n) :: rest)) := by
  refine va_iast (f := fun i => gI σ 8 n i) hx hb hK hP (wmap_D hJ) hS 8 0 (mat_8 hn) rfl hi hd (fun H1 locs1 hP1 _ hS1 => kk H1 locs1 ?_ hS1)
  rw [← mset_8 hn]
  exact hP1
theorem ml_9 (hx : p.tables.exec = Jvm.exec) (hb : c.code = cc) (hK : va_K D mCl (mT q) s) (hP : va_P D mCl (mW aa q σ) H) (hn : n < 1) {i : Int32} (hi : vp_in i 12) (hd : decode cc pc = .ok (.iaload, 1)) (kk : W p l e R s m args below meth c H locs cells slots Q (F0 m (pc + 1) ls (.int (gI σ 9 n i.toNatClampNeg) :: rest))) : W p l e R s m args below meth c H locs cells slots Q (F0 m pc ls (.int i :: .ref (aa 9 n) :: rest)) :=
  va_iald (f := fun i => gI σ 9 n i) hx hb hK hP 9 0 (mat_9 hn) rfl hi hd kk
theorem mset_9 {i0 : Nat} {v : Int32} (hn : n < 1) : (mW aa q σ).set 9 (aa 9 n, .inl (q 0, 12, .inl (upd (fun i => gI σ 9 n i) i0 v))) = mW aa q (sI σ 9 n i0 v) := by
  refine wmap_set mC_nd (mpos_9 n hn) ?_ ?_
  · rw [upd_sI]
    rfl
  · intro f9 n9 hne
    match f9, hne with
    | 0, _ => rfl
    | 1, _ => rfl
    | 2, _ => rfl
    | 3, _ => rfl
    | 4, _ => rfl
    | 5, _ => rfl
    | 6, _ => rfl
    | 7, _ => rfl
    | 8, _ => rfl
    | 9, hne =>
      have hn9 : ¬ n9 = n := fun e9 => hne ⟨rfl, e9⟩
      simp [mE,  gI_sI, gL_sL, gI_sL, gL_sI, hn9]
    | 10, _ => rfl
    | 11, _ => rfl
    | 12, _ => rfl
    | 13, _ => rfl
    | 14, _ => rfl
    | 15, _ => rfl
    | 16, _ => rfl
    | 17, _ => rfl
    | 18, _ => rfl
    | 19, _ => rfl
    | 20, _ => rfl
    | 21, _ => rfl
    | 22, _ => rfl
    | k9 + 23, _ => rfl
theorem mt_9 (hx : p.tables.exec = Jvm.exec) (hb : c.code = cc) (hK : va_K D mCl (mT q) s) (hP : va_P D mCl (mW aa q σ) H) (hJ : wJ mC aa) (hS : va_S (wA mC aa) s.heap H locs) (hn : n < 1) {i : Int32} (hi : vp_in i 12) {v : Int32} (hd : decode cc pc = .ok (.iastore, 1)) (kk : ∀ (H1 : Heap) (locs1 : List Loc), va_P D mCl (mW aa q (sI σ 9 n i.toNatClampNeg v)) H1 → va_S (wA mC aa) s.heap H1 locs1 → W p l e R s m args below meth c H1 locs1 cells slots Q (F0 m (pc + 1) ls rest)) : W p l e R s m args below meth c H locs cells slots Q (F0 m pc ls (.int v :: .int i :: .ref (aa 9 n) :: rest)) := by
  refine va_iast (f := fun i => gI σ 9 n i) hx hb hK hP (wmap_D hJ) hS 9 0 (mat_9 hn) rfl hi hd (fun H1 locs1 hP1 _ hS1 => kk H1 locs1 ?_ hS1)
  rw [← mset_9 hn]
  exact hP1
theorem ml_11 (hx : p.tables.exec = Jvm.exec) (hb : c.code = cc) (hK : va_K D mCl (mT q) s) (hP : va_P D mCl (mW aa q σ) H) (hn : n < 1) {i : Int32} (hi : vp_in i 120) (hd : decode cc pc = .ok (.iaload, 1)) (kk : W p l e R s m args below meth c H locs cells slots Q (F0 m (pc + 1) ls (.int (gI σ 11 n i.toNatClampNeg) :: rest))) : W p l e R s m args below meth c H locs cells slots Q (F0 m pc ls (.int i :: .ref (aa 11 n) :: rest)) :=
  va_iald (f := fun i => gI σ 11 n i) hx hb hK hP 11 0 (mat_11 hn) rfl hi hd kk
theorem mset_11 {i0 : Nat} {v : Int32} (hn : n < 1) : (mW aa q σ).set 11 (aa 11 n, .inl (q 0, 120, .inl (upd (fun i => gI σ 11 n i) i0 v))) = mW aa q (sI σ 11 n i0 v) := by
  refine wmap_set mC_nd (mpos_11 n hn) ?_ ?_
  · rw [upd_sI]
    rfl
  · intro f9 n9 hne
    match f9, hne with
    | 0, _ => rfl
    | 1, _ => rfl
    | 2, _ => rfl
    | 3, _ => rfl
    | 4, _ => rfl
    | 5, _ => rfl
    | 6, _ => rfl
    | 7, _ => rfl
    | 8, _ => rfl
    | 9, _ => rfl
    | 10, _ => rfl
    | 11, hne =>
      have hn9 : ¬ n9 = n := fun e9 => hne ⟨rfl, e9⟩
      simp [mE,  gI_sI, gL_sL, gI_sL, gL_sI, hn9]
    | 12, _ => rfl
    | 13, _ => rfl
    | 14, _ => rfl
    | 15, _ => rfl
    | 16, _ => rfl
    | 17, _ => rfl
    | 18, _ => rfl
    | 19, _ => rfl
    | 20, _ => rfl
    | 21, _ => rfl
    | 22, _ => rfl
    | k9 + 23, _ => rfl
theorem mt_11 (hx : p.tables.exec = Jvm.exec) (hb : c.code = cc) (hK : va_K D mCl (mT q) s) (hP : va_P D mCl (mW aa q σ) H) (hJ : wJ mC aa) (hS : va_S (wA mC aa) s.heap H locs) (hn : n < 1) {i : Int32} (hi : vp_in i 120) {v : Int32} (hd : decode cc pc = .ok (.iastore, 1)) (kk : ∀ (H1 : Heap) (locs1 : List Loc), va_P D mCl (mW aa q (sI σ 11 n i.toNatClampNeg v)) H1 → va_S (wA mC aa) s.heap H1 locs1 → W p l e R s m args below meth c H1 locs1 cells slots Q (F0 m (pc + 1) ls rest)) : W p l e R s m args below meth c H locs cells slots Q (F0 m pc ls (.int v :: .int i :: .ref (aa 11 n) :: rest)) := by
  refine va_iast (f := fun i => gI σ 11 n i) hx hb hK hP (wmap_D hJ) hS 11 0 (mat_11 hn) rfl hi hd (fun H1 locs1 hP1 _ hS1 => kk H1 locs1 ?_ hS1)
  rw [← mset_11 hn]
  exact hP1
theorem ml_12 (hx : p.tables.exec = Jvm.exec) (hb : c.code = cc) (hK : va_K D mCl (mT q) s) (hP : va_P D mCl (mW aa q σ) H) (hn : n < 1) {i : Int32} (hi : vp_in i 120) (hd : decode cc pc = .ok (.iaload, 1)) (kk : W p l e R s m args below meth c H locs cells slots Q (F0 m (pc + 1) ls (.int (gI σ 12 n i.toNatClampNeg) :: rest))) : W p l e R s m args below meth c H locs cells slots Q (F0 m pc ls (.int i :: .ref (aa 12 n) :: rest)) :=
  va_iald (f := fun i => gI σ 12 n i) hx hb hK hP 12 0 (mat_12 hn) rfl hi hd kk
theorem mset_12 {i0 : Nat} {v : Int32} (hn : n < 1) : (mW aa q σ).set 12 (aa 12 n, .inl (q 0, 120, .inl (upd (fun i => gI σ 12 n i) i0 v))) = mW aa q (sI σ 12 n i0 v) := by
  refine wmap_set mC_nd (mpos_12 n hn) ?_ ?_
  · rw [upd_sI]
    rfl
  · intro f9 n9 hne
    match f9, hne with
    | 0, _ => rfl
    | 1, _ => rfl
    | 2, _ => rfl
    | 3, _ => rfl
    | 4, _ => rfl
    | 5, _ => rfl
    | 6, _ => rfl
    | 7, _ => rfl
    | 8, _ => rfl
    | 9, _ => rfl
    | 10, _ => rfl
    | 11, _ => rfl
    | 12, hne =>
      have hn9 : ¬ n9 = n := fun e9 => hne ⟨rfl, e9⟩
      simp [mE,  gI_sI, gL_sL, gI_sL, gL_sI, hn9]
    | 13, _ => rfl
    | 14, _ => rfl
    | 15, _ => rfl
    | 16, _ => rfl
    | 17, _ => rfl
    | 18, _ => rfl
    | 19, _ => rfl
    | 20, _ => rfl
    | 21, _ => rfl
    | 22, _ => rfl
    | k9 + 23, _ => rfl
theorem mt_12 (hx : p.tables.exec = Jvm.exec) (hb : c.code = cc) (hK : va_K D mCl (mT q) s) (hP : va_P D mCl (mW aa q σ) H) (hJ : wJ mC aa) (hS : va_S (wA mC aa) s.heap H locs) (hn : n < 1) {i : Int32} (hi : vp_in i 120) {v : Int32} (hd : decode cc pc = .ok (.iastore, 1)) (kk : ∀ (H1 : Heap) (locs1 : List Loc), va_P D mCl (mW aa q (sI σ 12 n i.toNatClampNeg v)) H1 → va_S (wA mC aa) s.heap H1 locs1 → W p l e R s m args below meth c H1 locs1 cells slots Q (F0 m (pc + 1) ls rest)) : W p l e R s m args below meth c H locs cells slots Q (F0 m pc ls (.int v :: .int i :: .ref (aa 12 n) :: rest)) := by
  refine va_iast (f := fun i => gI σ 12 n i) hx hb hK hP (wmap_D hJ) hS 12 0 (mat_12 hn) rfl hi hd (fun H1 locs1 hP1 _ hS1 => kk H1 locs1 ?_ hS1)
  rw [← mset_12 hn]
  exact hP1
theorem ml_13 (hx : p.tables.exec = Jvm.exec) (hb : c.code = cc) (hK : va_K D mCl (mT q) s) (hP : va_P D mCl (mW aa q σ) H) (hn : n < 1) {i : Int32} (hi : vp_in i 120) (hd : decode cc pc = .ok (.iaload, 1)) (kk : W p l e R s m args below meth c H locs cells slots Q (F0 m (pc + 1) ls (.int (gI σ 13 n i.toNatClampNeg) :: rest))) : W p l e R s m args below meth c H locs cells slots Q (F0 m pc ls (.int i :: .ref (aa 13 n) :: rest)) :=
  va_iald (f := fun i => gI σ 13 n i) hx hb hK hP 13 0 (mat_13 hn) rfl hi hd kk
theorem mset_13 {i0 : Nat} {v : Int32} (hn : n < 1) : (mW aa q σ).set 13 (aa 13 n, .inl (q 0, 120, .inl (upd (fun i => gI σ 13 n i) i0 v))) = mW aa q (sI σ 13 n i0 v) := by
  refine wmap_set mC_nd (mpos_13 n hn) ?_ ?_
  · rw [upd_sI]
    rfl
  · intro f9 n9 hne
    match f9, hne with
    | 0, _ => rfl
    | 1, _ => rfl
    | 2, _ => rfl
    | 3, _ => rfl
    | 4, _ => rfl
    | 5, _ => rfl
    | 6, _ => rfl
    | 7, _ => rfl
    | 8, _ => rfl
    | 9, _ => rfl
    | 10, _ => rfl
    | 11, _ => rfl
    | 12, _ => rfl
    | 13, hne =>
      have hn9 : ¬ n9 = n := fun e9 => hne ⟨rfl, e9⟩
      simp [mE,  gI_sI, gL_sL, gI_sL, gL_sI, hn9]
    | 14, _ => rfl
    | 15, _ => rfl
    | 16, _ => rfl
    | 17, _ => rfl
    | 18, _ => rfl
    | 19, _ => rfl
    | 20, _ => rfl
    | 21, _ => rfl
    | 22, _ => rfl
    | k9 + 23, _ => rfl
theorem mt_13 (hx : p.tables.exec = Jvm.exec) (hb : c.code = cc) (hK : va_K D mCl (mT q) s) (hP : va_P D mCl (mW aa q σ) H) (hJ : wJ mC aa) (hS : va_S (wA mC aa) s.heap H locs) (hn : n < 1) {i : Int32} (hi : vp_in i 120) {v : Int32} (hd : decode cc pc = .ok (.iastore, 1)) (kk : ∀ (H1 : Heap) (locs1 : List Loc), va_P D mCl (mW aa q (sI σ 13 n i.toNatClampNeg v)) H1 → va_S (wA mC aa) s.heap H1 locs1 → W p l e R s m args below meth c H1 locs1 cells slots Q (F0 m (pc + 1) ls rest)) : W p l e R s m args below meth c H locs cells slots Q (F0 m pc ls (.int v :: .int i :: .ref (aa 13 n) :: rest)) := by
  refine va_iast (f := fun i => gI σ 13 n i) hx hb hK hP (wmap_D hJ) hS 13 0 (mat_13 hn) rfl hi hd (fun H1 locs1 hP1 _ hS1 => kk H1 locs1 ?_ hS1)
  rw [← mset_13 hn]
  exact hP1
theorem ml_14 (hx : p.tables.exec = Jvm.exec) (hb : c.code = cc) (hK : va_K D mCl (mT q) s) (hP : va_P D mCl (mW aa q σ) H) (hn : n < 1) {i : Int32} (hi : vp_in i 48) (hd : decode cc pc = .ok (.iaload, 1)) (kk : W p l e R s m args below meth c H locs cells slots Q (F0 m (pc + 1) ls (.int (gI σ 14 n i.toNatClampNeg) :: rest))) : W p l e R s m args below meth c H locs cells slots Q (F0 m pc ls (.int i :: .ref (aa 14 n) :: rest)) :=
  va_iald (f := fun i => gI σ 14 n i) hx hb hK hP 14 0 (mat_14 hn) rfl hi hd kk
theorem mset_14 {i0 : Nat} {v : Int32} (hn : n < 1) : (mW aa q σ).set 14 (aa 14 n, .inl (q 0, 48, .inl (upd (fun i => gI σ 14 n i) i0 v))) = mW aa q (sI σ 14 n i0 v) := by
  refine wmap_set mC_nd (mpos_14 n hn) ?_ ?_
  · rw [upd_sI]
    rfl
  · intro f9 n9 hne
    match f9, hne with
    | 0, _ => rfl
    | 1, _ => rfl
    | 2, _ => rfl
    | 3, _ => rfl
    | 4, _ => rfl
    | 5, _ => rfl
    | 6, _ => rfl
    | 7, _ => rfl
    | 8, _ => rfl
    | 9, _ => rfl
    | 10, _ => rfl
    | 11, _ => rfl
    | 12, _ => rfl
    | 13, _ => rfl
    | 14, hne =>
      have hn9 : ¬ n9 = n := fun e9 => hne ⟨rfl, e9⟩
      simp [mE,  gI_sI, gL_sL, gI_sL, gL_sI, hn9]
    | 15, _ => rfl
    | 16, _ => rfl
    | 17, _ => rfl
    | 18, _ => rfl
    | 19, _ => rfl
    | 20, _ => rfl
    | 21, _ => rfl
    | 22, _ => rfl
    | k9 + 23, _ => rfl
theorem mt_14 (hx : p.tables.exec = Jvm.exec) (hb : c.code = cc) (hK : va_K D mCl (mT q) s) (hP : va_P D mCl (mW aa q σ) H) (hJ : wJ mC aa) (hS : va_S (wA mC aa) s.heap H locs) (hn : n < 1) {i : Int32} (hi : vp_in i 48) {v : Int32} (hd : decode cc pc = .ok (.iastore, 1)) (kk : ∀ (H1 : Heap) (locs1 : List Loc), va_P D mCl (mW aa q (sI σ 14 n i.toNatClampNeg v)) H1 → va_S (wA mC aa) s.heap H1 locs1 → W p l e R s m args below meth c H1 locs1 cells slots Q (F0 m (pc + 1) ls rest)) : W p l e R s m args below meth c H locs cells slots Q (F0 m pc ls (.int v :: .int i :: .ref (aa 14 n) :: rest)) := by
  refine va_iast (f := fun i => gI σ 14 n i) hx hb hK hP (wmap_D hJ) hS 14 0 (mat_14 hn) rfl hi hd (fun H1 locs1 hP1 _ hS1 => kk H1 locs1 ?_ hS1)
  rw [← mset_14 hn]
  exact hP1
theorem ml_15 (hx : p.tables.exec = Jvm.exec) (hb : c.code = cc) (hK : va_K D mCl (mT q) s) (hP : va_P D mCl (mW aa q σ) H) (hn : n < 1) {i : Int32} (hi : vp_in i 4) (hd : decode cc pc = .ok (.iaload, 1)) (kk : W p l e R s m args below meth c H locs cells slots Q (F0 m (pc + 1) ls (.int (gI σ 15 n i.toNatClampNeg) :: rest))) : W p l e R s m args below meth c H locs cells slots Q (F0 m pc ls (.int i :: .ref (aa 15 n) :: rest)) :=
  va_iald (f := fun i => gI σ 15 n i) hx hb hK hP 15 0 (mat_15 hn) rfl hi hd kk
theorem mset_15 {i0 : Nat} {v : Int32} (hn : n < 1) : (mW aa q σ).set 15 (aa 15 n, .inl (q 0, 4, .inl (upd (fun i => gI σ 15 n i) i0 v))) = mW aa q (sI σ 15 n i0 v) := by
  refine wmap_set mC_nd (mpos_15 n hn) ?_ ?_
  · rw [upd_sI]
    rfl
  · intro f9 n9 hne
    match f9, hne with
    | 0, _ => rfl
    | 1, _ => rfl
    | 2, _ => rfl
    | 3, _ => rfl
    | 4, _ => rfl
    | 5, _ => rfl
    | 6, _ => rfl
    | 7, _ => rfl
    | 8, _ => rfl
    | 9, _ => rfl
    | 10, _ => rfl
    | 11, _ => rfl
    | 12, _ => rfl
    | 13, _ => rfl
    | 14, _ => rfl
    | 15, hne =>
      have hn9 : ¬ n9 = n := fun e9 => hne ⟨rfl, e9⟩
      simp [mE,  gI_sI, gL_sL, gI_sL, gL_sI, hn9]
    | 16, _ => rfl
    | 17, _ => rfl
    | 18, _ => rfl
    | 19, _ => rfl
    | 20, _ => rfl
    | 21, _ => rfl
    | 22, _ => rfl
    | k9 + 23, _ => rfl
theorem mt_15 (hx : p.tables.exec = Jvm.exec) (hb : c.code = cc) (hK : va_K D mCl (mT q) s) (hP : va_P D mCl (mW aa q σ) H) (hJ : wJ mC aa) (hS : va_S (wA mC aa) s.heap H locs) (hn : n < 1) {i : Int32} (hi : vp_in i 4) {v : Int32} (hd : decode cc pc = .ok (.iastore, 1)) (kk : ∀ (H1 : Heap) (locs1 : List Loc), va_P D mCl (mW aa q (sI σ 15 n i.toNatClampNeg v)) H1 → va_S (wA mC aa) s.heap H1 locs1 → W p l e R s m args below meth c H1 locs1 cells slots Q (F0 m (pc + 1) ls rest)) : W p l e R s m args below meth c H locs cells slots Q (F0 m pc ls (.int v :: .int i :: .ref (aa 15 n) :: rest)) := by
  refine va_iast (f := fun i => gI σ 15 n i) hx hb hK hP (wmap_D hJ) hS 15 0 (mat_15 hn) rfl hi hd (fun H1 locs1 hP1 _ hS1 => kk H1 locs1 ?_ hS1)
  rw [← mset_15 hn]
  exact hP1
theorem ml_19 (hx : p.tables.exec = Jvm.exec) (hb : c.code = cc) (hK : va_K D mCl (mT q) s) (hP : va_P D mCl (mW aa q σ) H) (hn : n < 1) {i : Int32} (hi : vp_in i 4) (hd : decode cc pc = .ok (.iaload, 1)) (kk : W p l e R s m args below meth c H locs cells slots Q (F0 m (pc + 1) ls (.int (gI σ 19 n i.toNatClampNeg) :: rest))) : W p l e R s m args below meth c H locs cells slots Q (F0 m pc ls (.int i :: .ref (aa 19 n) :: rest)) :=
  va_iald (f := fun i => gI σ 19 n i) hx hb hK hP 19 0 (mat_19 hn) rfl hi hd kk
theorem mset_19 {i0 : Nat} {v : Int32} (hn : n < 1) : (mW aa q σ).set 19 (aa 19 n, .inl (q 0, 4, .inl (upd (fun i => gI σ 19 n i) i0 v))) = mW aa q (sI σ 19 n i0 v) := by
  refine wmap_set mC_nd (mpos_19 n hn) ?_ ?_
  · rw [upd_sI]
    rfl
  · intro f9 n9 hne
    match f9, hne with
    | 0, _ => rfl
    | 1, _ => rfl
    | 2, _ => rfl
    | 3, _ => rfl
    | 4, _ => rfl
    | 5, _ => rfl
    | 6, _ => rfl
    | 7, _ => rfl
    | 8, _ => rfl
    | 9, _ => rfl
    | 10, _ => rfl
    | 11, _ => rfl
    | 12, _ => rfl
    | 13, _ => rfl
    | 14, _ => rfl
    | 15, _ => rfl
    | 16, _ => rfl
    | 17, _ => rfl
    | 18, _ => rfl
    | 19, hne =>
      have hn9 : ¬ n9 = n := fun e9 => hne ⟨rfl, e9⟩
      simp [mE,  gI_sI, gL_sL, gI_sL, gL_sI, hn9]
    | 20, _ => rfl
    | 21, _ => rfl
    | 22, _ => rfl
    | k9 + 23, _ => rfl
theorem mt_19 (hx : p.tables.exec = Jvm.exec) (hb : c.code = cc) (hK : va_K D mCl (mT q) s) (hP : va_P D mCl (mW aa q σ) H) (hJ : wJ mC aa) (hS : va_S (wA mC aa) s.heap H locs) (hn : n < 1) {i : Int32} (hi : vp_in i 4) {v : Int32} (hd : decode cc pc = .ok (.iastore, 1)) (kk : ∀ (H1 : Heap) (locs1 : List Loc), va_P D mCl (mW aa q (sI σ 19 n i.toNatClampNeg v)) H1 → va_S (wA mC aa) s.heap H1 locs1 → W p l e R s m args below meth c H1 locs1 cells slots Q (F0 m (pc + 1) ls rest)) : W p l e R s m args below meth c H locs cells slots Q (F0 m pc ls (.int v :: .int i :: .ref (aa 19 n) :: rest)) := by
  refine va_iast (f := fun i => gI σ 19 n i) hx hb hK hP (wmap_D hJ) hS 19 0 (mat_19 hn) rfl hi hd (fun H1 locs1 hP1 _ hS1 => kk H1 locs1 ?_ hS1)
  rw [← mset_19 hn]
  exact hP1
theorem ml_20 (hx : p.tables.exec = Jvm.exec) (hb : c.code = cc) (hK : va_K D mCl (mT q) s) (hP : va_P D mCl (mW aa q σ) H) (hn : n < 1) {i : Int32} (hi : vp_in i 4) (hd : decode cc pc = .ok (.iaload, 1)) (kk : W p l e R s m args below meth c H locs cells slots Q (F0 m (pc + 1) ls (.int (gI σ 20 n i.toNatClampNeg) :: rest))) : W p l e R s m args below meth c H locs cells slots Q (F0 m pc ls (.int i :: .ref (aa 20 n) :: rest)) :=
  va_iald (f := fun i => gI σ 20 n i) hx hb hK hP 20 0 (mat_20 hn) rfl hi hd kk
theorem mset_20 {i0 : Nat} {v : Int32} (hn : n < 1) : (mW aa q σ).set 20 (aa 20 n, .inl (q 0, 4, .inl (upd (fun i => gI σ 20 n i) i0 v))) = mW aa q (sI σ 20 n i0 v) := by
  refine wmap_set mC_nd (mpos_20 n hn) ?_ ?_
  · rw [upd_sI]
    rfl
  · intro f9 n9 hne
    match f9, hne with
    | 0, _ => rfl
    | 1, _ => rfl
    | 2, _ => rfl
    | 3, _ => rfl
    | 4, _ => rfl
    | 5, _ => rfl
    | 6, _ => rfl
    | 7, _ => rfl
    | 8, _ => rfl
    | 9, _ => rfl
    | 10, _ => rfl
    | 11, _ => rfl
    | 12, _ => rfl
    | 13, _ => rfl
    | 14, _ => rfl
    | 15, _ => rfl
    | 16, _ => rfl
    | 17, _ => rfl
    | 18, _ => rfl
    | 19, _ => rfl
    | 20, hne =>
      have hn9 : ¬ n9 = n := fun e9 => hne ⟨rfl, e9⟩
      simp [mE,  gI_sI, gL_sL, gI_sL, gL_sI, hn9]
    | 21, _ => rfl
    | 22, _ => rfl
    | k9 + 23, _ => rfl
theorem mt_20 (hx : p.tables.exec = Jvm.exec) (hb : c.code = cc) (hK : va_K D mCl (mT q) s) (hP : va_P D mCl (mW aa q σ) H) (hJ : wJ mC aa) (hS : va_S (wA mC aa) s.heap H locs) (hn : n < 1) {i : Int32} (hi : vp_in i 4) {v : Int32} (hd : decode cc pc = .ok (.iastore, 1)) (kk : ∀ (H1 : Heap) (locs1 : List Loc), va_P D mCl (mW aa q (sI σ 20 n i.toNatClampNeg v)) H1 → va_S (wA mC aa) s.heap H1 locs1 → W p l e R s m args below meth c H1 locs1 cells slots Q (F0 m (pc + 1) ls rest)) : W p l e R s m args below meth c H locs cells slots Q (F0 m pc ls (.int v :: .int i :: .ref (aa 20 n) :: rest)) := by
  refine va_iast (f := fun i => gI σ 20 n i) hx hb hK hP (wmap_D hJ) hS 20 0 (mat_20 hn) rfl hi hd (fun H1 locs1 hP1 _ hS1 => kk H1 locs1 ?_ hS1)
  rw [← mset_20 hn]
  exact hP1
theorem ml_21 (hx : p.tables.exec = Jvm.exec) (hb : c.code = cc) (hK : va_K D mCl (mT q) s) (hP : va_P D mCl (mW aa q σ) H) (hn : n < 1) {i : Int32} (hi : vp_in i 12) (hd : decode cc pc = .ok (.iaload, 1)) (kk : W p l e R s m args below meth c H locs cells slots Q (F0 m (pc + 1) ls (.int (gI σ 21 n i.toNatClampNeg) :: rest))) : W p l e R s m args below meth c H locs cells slots Q (F0 m pc ls (.int i :: .ref (aa 21 n) :: rest)) :=
  va_iald (f := fun i => gI σ 21 n i) hx hb hK hP 21 0 (mat_21 hn) rfl hi hd kk
theorem mset_21 {i0 : Nat} {v : Int32} (hn : n < 1) : (mW aa q σ).set 21 (aa 21 n, .inl (q 0, 12, .inl (upd (fun i => gI σ 21 n i) i0 v))) = mW aa q (sI σ 21 n i0 v) := by
  refine wmap_set mC_nd (mpos_21 n hn) ?_ ?_
  · rw [upd_sI]
    rfl
  · intro f9 n9 hne
    match f9, hne with
    | 0, _ => rfl
    | 1, _ => rfl
    | 2, _ => rfl
    | 3, _ => rfl
    | 4, _ => rfl
    | 5, _ => rfl
    | 6, _ => rfl
    | 7, _ => rfl
    | 8, _ => rfl
    | 9, _ => rfl
    | 10, _ => rfl
    | 11, _ => rfl
    | 12, _ => rfl
    | 13, _ => rfl
    | 14, _ => rfl
    | 15, _ => rfl
    | 16, _ => rfl
    | 17, _ => rfl
    | 18, _ => rfl
    | 19, _ => rfl
    | 20, _ => rfl
    | 21, hne =>
      have hn9 : ¬ n9 = n := fun e9 => hne ⟨rfl, e9⟩
      simp [mE,  gI_sI, gL_sL, gI_sL, gL_sI, hn9]
    | 22, _ => rfl
    | k9 + 23, _ => rfl
theorem mt_21 (hx : p.tables.exec = Jvm.exec) (hb : c.code = cc) (hK : va_K D mCl (mT q) s) (hP : va_P D mCl (mW aa q σ) H) (hJ : wJ mC aa) (hS : va_S (wA mC aa) s.heap H locs) (hn : n < 1) {i : Int32} (hi : vp_in i 12) {v : Int32} (hd : decode cc pc = .ok (.iastore, 1)) (kk : ∀ (H1 : Heap) (locs1 : List Loc), va_P D mCl (mW aa q (sI σ 21 n i.toNatClampNeg v)) H1 → va_S (wA mC aa) s.heap H1 locs1 → W p l e R s m args below meth c H1 locs1 cells slots Q (F0 m (pc + 1) ls rest)) : W p l e R s m args below meth c H locs cells slots Q (F0 m pc ls (.int v :: .int i :: .ref (aa 21 n) :: rest)) := by
  refine va_iast (f := fun i => gI σ 21 n i) hx hb hK hP (wmap_D hJ) hS 21 0 (mat_21 hn) rfl hi hd (fun H1 locs1 hP1 _ hS1 => kk H1 locs1 ?_ hS1)
  rw [← mset_21 hn]
  exact hP1
theorem ml_22 (hx : p.tables.exec = Jvm.exec) (hb : c.code = cc) (hK : va_K D mCl (mT q) s) (hP : va_P D mCl (mW aa q σ) H) (hn : n < 1) {i : Int32} (hi : vp_in i 64) (hd : decode cc pc = .ok (.iaload, 1)) (kk : W p l e R s m args below meth c H locs cells slots Q (F0 m (pc + 1) ls (.int (gI σ 22 n i.toNatClampNeg) :: rest))) : W p l e R s m args below meth c H locs cells slots Q (F0 m pc ls (.int i :: .ref (aa 22 n) :: rest)) :=
  va_iald (f := fun i => gI σ 22 n i) hx hb hK hP 22 0 (mat_22 hn) rfl hi hd kk
theorem mset_22 {i0 : Nat} {v : Int32} (hn : n < 1) : (mW aa q σ).set 22 (aa 22 n, .inl (q 0, 64, .inl (upd (fun i => gI σ 22 n i) i0 v))) = mW aa q (sI σ 22 n i0 v) := by
  refine wmap_set mC_nd (mpos_22 n hn) ?_ ?_
  · rw [upd_sI]
    rfl
  · intro f9 n9 hne
    match f9, hne with
    | 0, _ => rfl
    | 1, _ => rfl
    | 2, _ => rfl
    | 3, _ => rfl
    | 4, _ => rfl
    | 5, _ => rfl
    | 6, _ => rfl
    | 7, _ => rfl
    | 8, _ => rfl
    | 9, _ => rfl
    | 10, _ => rfl
    | 11, _ => rfl
    | 12, _ => rfl
    | 13, _ => rfl
    | 14, _ => rfl
    | 15, _ => rfl
    | 16, _ => rfl
    | 17, _ => rfl
    | 18, _ => rfl
    | 19, _ => rfl
    | 20, _ => rfl
    | 21, _ => rfl
    | 22, hne =>
      have hn9 : ¬ n9 = n := fun e9 => hne ⟨rfl, e9⟩
      simp [mE,  gI_sI, gL_sL, gI_sL, gL_sI, hn9]
    | k9 + 23, _ => rfl
theorem mt_22 (hx : p.tables.exec = Jvm.exec) (hb : c.code = cc) (hK : va_K D mCl (mT q) s) (hP : va_P D mCl (mW aa q σ) H) (hJ : wJ mC aa) (hS : va_S (wA mC aa) s.heap H locs) (hn : n < 1) {i : Int32} (hi : vp_in i 64) {v : Int32} (hd : decode cc pc = .ok (.iastore, 1)) (kk : ∀ (H1 : Heap) (locs1 : List Loc), va_P D mCl (mW aa q (sI σ 22 n i.toNatClampNeg v)) H1 → va_S (wA mC aa) s.heap H1 locs1 → W p l e R s m args below meth c H1 locs1 cells slots Q (F0 m (pc + 1) ls rest)) : W p l e R s m args below meth c H locs cells slots Q (F0 m pc ls (.int v :: .int i :: .ref (aa 22 n) :: rest)) := by
  refine va_iast (f := fun i => gI σ 22 n i) hx hb hK hP (wmap_D hJ) hS 22 0 (mat_22 hn) rfl hi hd (fun H1 locs1 hP1 _ hS1 => kk H1 locs1 ?_ hS1)
  rw [← mset_22 hn]
  exact hP1
theorem ml_7 (hx : p.tables.exec = Jvm.exec) (hb : c.code = cc) (hK : va_K D mCl (mT q) s) (hP : va_P D mCl (mW aa q σ) H) (hn : n < 1) {i : Int32} (hi : vp_in i 12) (hd : decode cc pc = .ok (.laload, 1)) (kk : W p l e R s m args below meth c H locs cells slots Q (F0 m (pc + 1) ls (.long (gL σ 7 n i.toNatClampNeg) :: rest))) : W p l e R s m args below meth c H locs cells slots Q (F0 m pc ls (.int i :: .ref (aa 7 n) :: rest)) :=
  va_lald (f := fun i => gL σ 7 n i) hx hb hK hP 7 1 (mat_7 hn) rfl hi hd kk
theorem mset_7 {i0 : Nat} {v : Int64} (hn : n < 1) : (mW aa q σ).set 7 (aa 7 n, .inl (q 1, 12, .inr (.inl (vp_updL (fun i => gL σ 7 n i) i0 v)))) = mW aa q (sL σ 7 n i0 v) := by
  refine wmap_set mC_nd (mpos_7 n hn) ?_ ?_
  · rw [upd_sL]
    rfl
  · intro f9 n9 hne
    match f9, hne with
    | 0, _ => rfl
    | 1, _ => rfl
    | 2, _ => rfl
    | 3, _ => rfl
    | 4, _ => rfl
    | 5, _ => rfl
    | 6, _ => rfl
    | 7, hne =>
      have hn9 : ¬ n9 = n := fun e9 => hne ⟨rfl, e9⟩
      simp [mE,  gI_sI, gL_sL, gI_sL, gL_sI, hn9]
    | 8, _ => rfl
    | 9, _ => rfl
    | 10, _ => rfl
    | 11, _ => rfl
    | 12, _ => rfl
    | 13, _ => rfl
    | 14, _ => rfl
    | 15, _ => rfl
    | 16, _ => rfl
    | 17, _ => rfl
    | 18, _ => rfl
    | 19, _ => rfl
    | 20, _ => rfl
    | 21, _ => rfl
    | 22, _ => rfl
    | k9 + 23, _ => rfl
theorem mt_7 (hx : p.tables.exec = Jvm.exec) (hb : c.code = cc) (hK : va_K D mCl (mT q) s) (hP : va_P D mCl (mW aa q σ) H) (hJ : wJ mC aa) (hS : va_S (wA mC aa) s.heap H locs) (hn : n < 1) {i : Int32} (hi : vp_in i 12) {v : Int64} (hd : decode cc pc = .ok (.lastore, 1)) (kk : ∀ (H1 : Heap) (locs1 : List Loc), va_P D mCl (mW aa q (sL σ 7 n i.toNatClampNeg v)) H1 → va_S (wA mC aa) s.heap H1 locs1 → W p l e R s m args below meth c H1 locs1 cells slots Q (F0 m (pc + 1) ls rest)) : W p l e R s m args below meth c H locs cells slots Q (F0 m pc ls (.long v :: .int i :: .ref (aa 7 n) :: rest)) := by
  refine va_last (f := fun i => gL σ 7 n i) hx hb hK hP (wmap_D hJ) hS 7 1 (mat_7 hn) rfl hi hd (fun H1 locs1 hP1 _ hS1 => kk H1 locs1 ?_ hS1)
  rw [← mset_7 hn]
  exact hP1
theorem ml_10 (hx : p.tables.exec = Jvm.exec) (hb : c.code = cc) (hK : va_K D mCl (mT q) s) (hP : va_P D mCl (mW aa q σ) H) (hn : n < 1) {i : Int32} (hi : vp_in i 12) (hd : decode cc pc = .ok (.laload, 1)) (kk : W p l e R s m args below meth c H locs cells slots Q (F0 m (pc + 1) ls (.long (gL σ 10 n i.toNatClampNeg) :: rest))) : W p l e R s m args below meth c H locs cells slots Q (F0 m pc ls (.int i :: .ref (aa 10 n) :: rest)) :=
  va_lald (f := fun i => gL σ 10 n i) hx hb hK hP 10 1 (mat_10 hn) rfl hi hd kk
theorem mset_10 {i0 : Nat} {v : Int64} (hn : n < 1) : (mW aa q σ).set 10 (aa 10 n, .inl (q 1, 12, .inr (.inl (vp_updL (fun i => gL σ 10 n i) i0 v)))) = mW aa q (sL σ 10 n i0 v) := by
  refine wmap_set mC_nd (mpos_10 n hn) ?_ ?_
  · rw [upd_sL]
    rfl
  · intro f9 n9 hne
    match f9, hne with
    | 0, _ => rfl
    | 1, _ => rfl
    | 2, _ => rfl
    | 3, _ => rfl
    | 4, _ => rfl
    | 5, _ => rfl
    | 6, _ => rfl
    | 7, _ => rfl
    | 8, _ => rfl
    | 9, _ => rfl
    | 10, hne =>
      have hn9 : ¬ n9 = n := fun e9 => hne ⟨rfl, e9⟩
      simp [mE,  gI_sI, gL_sL, gI_sL, gL_sI, hn9]
    | 11, _ => rfl
    | 12, _ => rfl
    | 13, _ => rfl
    | 14, _ => rfl
    | 15, _ => rfl
    | 16, _ => rfl
    | 17, _ => rfl
    | 18, _ => rfl
    | 19, _ => rfl
    | 20, _ => rfl
    | 21, _ => rfl
    | 22, _ => rfl
    | k9 + 23, _ => rfl
theorem mt_10 (hx : p.tables.exec = Jvm.exec) (hb : c.code = cc) (hK : va_K D mCl (mT q) s) (hP : va_P D mCl (mW aa q σ) H) (hJ : wJ mC aa) (hS : va_S (wA mC aa) s.heap H locs) (hn : n < 1) {i : Int32} (hi : vp_in i 12) {v : Int64} (hd : decode cc pc = .ok (.lastore, 1)) (kk : ∀ (H1 : Heap) (locs1 : List Loc), va_P D mCl (mW aa q (sL σ 10 n i.toNatClampNeg v)) H1 → va_S (wA mC aa) s.heap H1 locs1 → W p l e R s m args below meth c H1 locs1 cells slots Q (F0 m (pc + 1) ls rest)) : W p l e R s m args below meth c H locs cells slots Q (F0 m pc ls (.long v :: .int i :: .ref (aa 10 n) :: rest)) := by
  refine va_last (f := fun i => gL σ 10 n i) hx hb hK hP (wmap_D hJ) hS 10 1 (mat_10 hn) rfl hi hd (fun H1 locs1 hP1 _ hS1 => kk H1 locs1 ?_ hS1)
  rw [← mset_10 hn]
  exact hP1
theorem ml_17 (hx : p.tables.exec = Jvm.exec) (hb : c.code = cc) (hK : va_K D mCl (mT q) s) (hP : va_P D mCl (mW aa q σ) H) (hn : n < 1) {i : Int32} (hi : vp_in i 4) (hd : decode cc pc = .ok (.laload, 1)) (kk : W p l e R s m args below meth c H locs cells slots Q (F0 m (pc + 1) ls (.long (gL σ 17 n i.toNatClampNeg) :: rest))) : W p l e R s m args below meth c H locs cells slots Q (F0 m pc ls (.int i :: .ref (aa 17 n) :: rest)) :=
  va_lald (f := fun i => gL σ 17 n i) hx hb hK hP 17 1 (mat_17 hn) rfl hi hd kk
theorem mset_17 {i0 : Nat} {v : Int64} (hn : n < 1) : (mW aa q σ).set 17 (aa 17 n, .inl (q 1, 4, .inr (.inl (vp_updL (fun i => gL σ 17 n i) i0 v)))) = mW aa q (sL σ 17 n i0 v) := by
  refine wmap_set mC_nd (mpos_17 n hn) ?_ ?_
  · rw [upd_sL]
    rfl
  · intro f9 n9 hne
    match f9, hne with
    | 0, _ => rfl
    | 1, _ => rfl
    | 2, _ => rfl
    | 3, _ => rfl
    | 4, _ => rfl
    | 5, _ => rfl
    | 6, _ => rfl
    | 7, _ => rfl
    | 8, _ => rfl
    | 9, _ => rfl
    | 10, _ => rfl
    | 11, _ => rfl
    | 12, _ => rfl
    | 13, _ => rfl
    | 14, _ => rfl
    | 15, _ => rfl
    | 16, _ => rfl
    | 17, hne =>
      have hn9 : ¬ n9 = n := fun e9 => hne ⟨rfl, e9⟩
      simp [mE,  gI_sI, gL_sL, gI_sL, gL_sI, hn9]
    | 18, _ => rfl
    | 19, _ => rfl
    | 20, _ => rfl
    | 21, _ => rfl
    | 22, _ => rfl
    | k9 + 23, _ => rfl
theorem mt_17 (hx : p.tables.exec = Jvm.exec) (hb : c.code = cc) (hK : va_K D mCl (mT q) s) (hP : va_P D mCl (mW aa q σ) H) (hJ : wJ mC aa) (hS : va_S (wA mC aa) s.heap H locs) (hn : n < 1) {i : Int32} (hi : vp_in i 4) {v : Int64} (hd : decode cc pc = .ok (.lastore, 1)) (kk : ∀ (H1 : Heap) (locs1 : List Loc), va_P D mCl (mW aa q (sL σ 17 n i.toNatClampNeg v)) H1 → va_S (wA mC aa) s.heap H1 locs1 → W p l e R s m args below meth c H1 locs1 cells slots Q (F0 m (pc + 1) ls rest)) : W p l e R s m args below meth c H locs cells slots Q (F0 m pc ls (.long v :: .int i :: .ref (aa 17 n) :: rest)) := by
  refine va_last (f := fun i => gL σ 17 n i) hx hb hK hP (wmap_D hJ) hS 17 1 (mat_17 hn) rfl hi hd (fun H1 locs1 hP1 _ hS1 => kk H1 locs1 ?_ hS1)
  rw [← mset_17 hn]
  exact hP1
theorem ml_18 (hx : p.tables.exec = Jvm.exec) (hb : c.code = cc) (hK : va_K D mCl (mT q) s) (hP : va_P D mCl (mW aa q σ) H) (hn : n < 1) {i : Int32} (hi : vp_in i 4) (hd : decode cc pc = .ok (.laload, 1)) (kk : W p l e R s m args below meth c H locs cells slots Q (F0 m (pc + 1) ls (.long (gL σ 18 n i.toNatClampNeg) :: rest))) : W p l e R s m args below meth c H locs cells slots Q (F0 m pc ls (.int i :: .ref (aa 18 n) :: rest)) :=
  va_lald (f := fun i => gL σ 18 n i) hx hb hK hP 18 1 (mat_18 hn) rfl hi hd kk
theorem mset_18 {i0 : Nat} {v : Int64} (hn : n < 1) : (mW aa q σ).set 18 (aa 18 n, .inl (q 1, 4, .inr (.inl (vp_updL (fun i => gL σ 18 n i) i0 v)))) = mW aa q (sL σ 18 n i0 v) := by
  refine wmap_set mC_nd (mpos_18 n hn) ?_ ?_
  · rw [upd_sL]
    rfl
  · intro f9 n9 hne
    match f9, hne with
    | 0, _ => rfl
    | 1, _ => rfl
    | 2, _ => rfl
    | 3, _ => rfl
    | 4, _ => rfl
    | 5, _ => rfl
    | 6, _ => rfl
    | 7, _ => rfl
    | 8, _ => rfl
    | 9, _ => rfl
    | 10, _ => rfl
    | 11, _ => rfl
    | 12, _ => rfl
    | 13, _ => rfl
    | 14, _ => rfl
    | 15, _ => rfl
    | 16, _ => rfl
    | 17, _ => rfl
    | 18, hne =>
      have hn9 : ¬ n9 = n := fun e9 => hne ⟨rfl, e9⟩
      simp [mE,  gI_sI, gL_sL, gI_sL, gL_sI, hn9]
    | 19, _ => rfl
    | 20, _ => rfl
    | 21, _ => rfl
    | 22, _ => rfl
    | k9 + 23, _ => rfl
theorem mt_18 (hx : p.tables.exec = Jvm.exec) (hb : c.code = cc) (hK : va_K D mCl (mT q) s) (hP : va_P D mCl (mW aa q σ) H) (hJ : wJ mC aa) (hS : va_S (wA mC aa) s.heap H locs) (hn : n < 1) {i : Int32} (hi : vp_in i 4) {v : Int64} (hd : decode cc pc = .ok (.lastore, 1)) (kk : ∀ (H1 : Heap) (locs1 : List Loc), va_P D mCl (mW aa q (sL σ 18 n i.toNatClampNeg v)) H1 → va_S (wA mC aa) s.heap H1 locs1 → W p l e R s m args below meth c H1 locs1 cells slots Q (F0 m (pc + 1) ls rest)) : W p l e R s m args below meth c H locs cells slots Q (F0 m pc ls (.long v :: .int i :: .ref (aa 18 n) :: rest)) := by
  refine va_last (f := fun i => gL σ 18 n i) hx hb hK hP (wmap_D hJ) hS 18 1 (mat_18 hn) rfl hi hd (fun H1 locs1 hP1 _ hS1 => kk H1 locs1 ?_ hS1)
  rw [← mset_18 hn]
  exact hP1
theorem ml_16 (hx : p.tables.exec = Jvm.exec) (hb : c.code = cc) (hK : va_K D mCl (mT q) s) (hP : va_P D mCl (mW aa q σ) H) (hn : n < 1) {i : Int32} (hi : vp_in i 4) (hd : decode cc pc = .ok (.baload, 1)) (kk : W p l e R s m args below meth c H locs cells slots Q (F0 m (pc + 1) ls (.int (gI σ 16 n i.toNatClampNeg) :: rest))) : W p l e R s m args below meth c H locs cells slots Q (F0 m pc ls (.int i :: .ref (aa 16 n) :: rest)) :=
  va_zald (f := fun i => gI σ 16 n i) hx hb hK hP 16 2 (mat_16 hn) rfl hi hd kk
theorem mset_16 {i0 : Nat} {v : Int32} (hn : n < 1) : (mW aa q σ).set 16 (aa 16 n, .inl (q 2, 4, .inl (upd (fun i => gI σ 16 n i) i0 v))) = mW aa q (sI σ 16 n i0 v) := by
  refine wmap_set mC_nd (mpos_16 n hn) ?_ ?_
  · rw [upd_sI]
    rfl
  · intro f9 n9 hne
    match f9, hne with
    | 0, _ => rfl
    | 1, _ => rfl
    | 2, _ => rfl
    | 3, _ => rfl
    | 4, _ => rfl
    | 5, _ => rfl
    | 6, _ => rfl
    | 7, _ => rfl
    | 8, _ => rfl
    | 9, _ => rfl
    | 10, _ => rfl
    | 11, _ => rfl
    | 12, _ => rfl
    | 13, _ => rfl
    | 14, _ => rfl
    | 15, _ => rfl
    | 16, hne =>
      have hn9 : ¬ n9 = n := fun e9 => hne ⟨rfl, e9⟩
      simp [mE,  gI_sI, gL_sL, gI_sL, gL_sI, hn9]
    | 17, _ => rfl
    | 18, _ => rfl
    | 19, _ => rfl
    | 20, _ => rfl
    | 21, _ => rfl
    | 22, _ => rfl
    | k9 + 23, _ => rfl
theorem mt_16 (hx : p.tables.exec = Jvm.exec) (hb : c.code = cc) (hK : va_K D mCl (mT q) s) (hP : va_P D mCl (mW aa q σ) H) (hJ : wJ mC aa) (hS : va_S (wA mC aa) s.heap H locs) (hn : n < 1) {i : Int32} (hi : vp_in i 4) {v : Int32} (hz : bz v = true) (hd : decode cc pc = .ok (.bastore, 1)) (kk : ∀ (H1 : Heap) (locs1 : List Loc), va_P D mCl (mW aa q (sI σ 16 n i.toNatClampNeg v)) H1 → va_S (wA mC aa) s.heap H1 locs1 → W p l e R s m args below meth c H1 locs1 cells slots Q (F0 m (pc + 1) ls rest)) : W p l e R s m args below meth c H locs cells slots Q (F0 m pc ls (.int v :: .int i :: .ref (aa 16 n) :: rest)) := by
  refine va_zast (f := fun i => gI σ 16 n i) hx hb hK hP (wmap_D hJ) hS 16 2 (mat_16 hn) rfl hi hd (fun H1 locs1 hP1 _ hS1 => kk H1 locs1 ?_ hS1)
  rw [bz_vp hz] at hP1
  rw [← mset_16 hn]
  exact hP1
theorem mpreV {C : String} {b : Nat} {As : List Value} (hK : va_K D mCl (mT q) s) (hP : va_P D mCl (mW aa q σ) H) (hr : ∃ cell : Cell, H[b]? = some cell ∧ cell.vm.isStatics = false ∧ s.vm.findClass C = some cell.cls) : PreV s H C b (va_Pc (.ref b :: As) (mPre D aa q σ)) As :=
  ⟨fun a U g mk h => ⟨h.1, h.2.1, va_K.moved (u := U) (U := U.calling g mk a) (Vm.Alike.refl U.vm) h.2.2⟩, hr, fun U hU hW => ⟨rfl, by rw [hU]; exact hP, va_K.moved hW.alike hK⟩⟩
theorem mpreS {As : List Value} (hK : va_K D mCl (mT q) s) (hP : va_P D mCl (mW aa q σ) H) : PreS s H (va_Pc As (mPre D aa q σ)) As :=
  ⟨fun a U g mk h => ⟨h.1, h.2.1, va_K.moved (u := U) (U := U.calling g mk a) (Vm.Alike.refl U.vm) h.2.2⟩, fun U hU hW => ⟨rfl, by rw [hU]; exact hP, va_K.moved hW.alike hK⟩⟩
theorem mq_i {a : Array Value} {r0 : Int32} {u0 : kS} (hr : va_Run p l e R s m args below meth c H locs cells slots 0 0 (F0 m pc ls st0) rest (va_Qi (fun (r : Int32) (u : kS) => r = r0 ∧ u = u0) (mB D aa q) (wA mC aa) a) (wA mC aa)) (hS : va_S (wA mC aa) s.heap H locs) (kk : ∀ (H1 : Heap) (locs1 : List Loc), va_P D mCl (mW aa q u0) H1 → va_S (wA mC aa) s.heap H1 locs1 → W p l e R s m args below meth c H1 locs1 cells slots Q (F0 m (pc + 3) ls (.int r0 :: rest))) : W p l e R s m args below meth c H locs cells slots Q (F0 m pc ls st0) := by
  refine va_calli hr hS (fun _ _ h => h) (fun _ h => h) (fun r u t H1 locs1 ht hvm hw hB _ _ hS1 => ?_)
  obtain ⟨rfl, rfl⟩ := hw
  have hP1 := hB.1
  rw [ht] at hP1
  exact kk H1 locs1 hP1 hS1
theorem mq_l {a : Array Value} {r0 : Int64} {u0 : kS} (hr : va_Run p l e R s m args below meth c H locs cells slots 0 0 (F0 m pc ls st0) rest (va_Ql (fun (r : Int64) (u : kS) => r = r0 ∧ u = u0) (mB D aa q) (wA mC aa) a) (wA mC aa)) (hS : va_S (wA mC aa) s.heap H locs) (kk : ∀ (H1 : Heap) (locs1 : List Loc), va_P D mCl (mW aa q u0) H1 → va_S (wA mC aa) s.heap H1 locs1 → W p l e R s m args below meth c H1 locs1 cells slots Q (F0 m (pc + 3) ls (.long r0 :: rest))) : W p l e R s m args below meth c H locs cells slots Q (F0 m pc ls st0) := by
  refine va_calll hr hS (fun _ _ h => h) (fun _ h => h) (fun r u t H1 locs1 ht hvm hw hB _ _ hS1 => ?_)
  obtain ⟨rfl, rfl⟩ := hw
  have hP1 := hB.1
  rw [ht] at hP1
  exact kk H1 locs1 hP1 hS1
theorem mq_v {a : Array Value} {u0 : kS} (hr : va_Run p l e R s m args below meth c H locs cells slots 0 0 (F0 m pc ls st0) rest (va_Qv (fun u : kS => u = u0) (mB D aa q) (wA mC aa) a) (wA mC aa)) (hS : va_S (wA mC aa) s.heap H locs) (kk : ∀ (H1 : Heap) (locs1 : List Loc), va_P D mCl (mW aa q u0) H1 → va_S (wA mC aa) s.heap H1 locs1 → W p l e R s m args below meth c H1 locs1 cells slots Q (F0 m (pc + 3) ls rest)) : W p l e R s m args below meth c H locs cells slots Q (F0 m pc ls st0) := by
  refine va_callv hr hS (fun _ _ h => h) (fun _ h => h) (fun u t H1 locs1 ht hvm hw hB _ _ hS1 => ?_)
  subst hw
  have hP1 := hB.1
  rw [ht] at hP1
  exact kk H1 locs1 hP1 hS1
end
