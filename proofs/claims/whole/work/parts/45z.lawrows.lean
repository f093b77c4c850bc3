theorem l_sld {p : Program} {l : Launch} {e : Env} {R : Room} {s : State} {m : MethodId} {args : Array Value} {below : List Frame} {meth : Method} {c : Code} {H : Heap} {locs : List Loc} {cells slots : Nat} {Q : State → Prop} {cc : ByteArray} {pc : Nat} {ls : Array Slot} {rest : List Value} (hx : p.tables.exec = Jvm.exec) (hb : c.code = cc) {b L : Nat} {xs : Nat → Int32} (hX : va_X b L xs s s.heap) (hbl : b < s.heap.size) (hS : va_S (fun x => s.heap.size ≤ x) s.heap H locs) {j : Nat} (hj : j < L) (hL : L < 2 ^ 31) (hd : decode cc pc = .ok (.iaload, 1)) (kk : W p l e R s m args below meth c H locs cells slots Q (F0 m (pc + 1) ls (.int (xs j) :: rest))) : W p l e R s m args below meth c H locs cells slots Q (F0 m pc ls (.int (nI j) :: .ref b :: rest)) := by
  refine va_sld hx hb hX hbl (Nat.not_le.mpr hbl) hS (vp_in_nI hj hL) hd ?_
  rw [nI_clamp (Nat.lt_trans hj hL)]
  exact kk
theorem lk_i {p : Program} {l : Launch} {e : Env} {R : Room} {s : State} {m : MethodId} {args : Array Value} {below : List Frame} {meth : Method} {c : Code} {H : Heap} {locs : List Loc} {cells slots : Nat} {Q : State → Prop} {pc : Nat} {ls : Array Slot} {rest st0 : List Value} {D1 D2 : va_G} {aa bb : Nat → Nat → Nat} {q1 q2 : Nat → ClassId} {τ : kS} {a : Array Value} {r0 : Int32} {u0 : kS} (hr : va_Run p l e R s m args below meth c H locs cells slots 0 0 (F0 m pc ls st0) rest (va_Qi (fun (r : Int32) (u : kS) => r = r0 ∧ u = u0) (kB D1 aa q1) (wA kC aa) a) (wA kC aa)) (hS : va_S (fun x => s.heap.size ≤ x) s.heap H locs) (hw : ∀ x, wA kC aa x → s.heap.size ≤ x) (hO : va_P D2 mCl (mW bb q2 τ) H) (hdj : ∀ x, wA mC bb x → ¬ wA kC aa x) (kk : ∀ (H : Heap) (locs : List Loc), va_P D1 kCl (kW aa q1 u0) H → va_P D2 mCl (mW bb q2 τ) H → va_S (fun x => s.heap.size ≤ x) s.heap H locs → W p l e R s m args below meth c H locs cells slots Q (F0 m (pc + 3) ls (.int r0 :: rest))) : W p l e R s m args below meth c H locs cells slots Q (F0 m pc ls st0) := by
  refine va_calli hr hS (fun q _ h => hw q h) (fun q h => hw q h) (fun r u t H1 locs1 ht hvm hw1 hB hz hfr hS1 => ?_)
  obtain ⟨rfl, rfl⟩ := hw1
  have hP1 := hB.1
  rw [ht] at hP1
  refine kk H1 locs1 hP1 (hO.kept (fun i x hi => ?_)) hS1
  obtain ⟨f, n, h1, rfl⟩ := wmap_of hi
  exact hfr _ (hO i _ hi).lt (hdj _ ⟨i, f, n, h1, rfl⟩)
theorem lk_l {p : Program} {l : Launch} {e : Env} {R : Room} {s : State} {m : MethodId} {args : Array Value} {below : List Frame} {meth : Method} {c : Code} {H : Heap} {locs : List Loc} {cells slots : Nat} {Q : State → Prop} {pc : Nat} {ls : Array Slot} {rest st0 : List Value} {D1 D2 : va_G} {aa bb : Nat → Nat → Nat} {q1 q2 : Nat → ClassId} {τ : kS} {a : Array Value} {r0 : Int64} {u0 : kS} (hr : va_Run p l e R s m args below meth c H locs cells slots 0 0 (F0 m pc ls st0) rest (va_Ql (fun (r : Int64) (u : kS) => r = r0 ∧ u = u0) (kB D1 aa q1) (wA kC aa) a) (wA kC aa)) (hS : va_S (fun x => s.heap.size ≤ x) s.heap H locs) (hw : ∀ x, wA kC aa x → s.heap.size ≤ x) (hO : va_P D2 mCl (mW bb q2 τ) H) (hdj : ∀ x, wA mC bb x → ¬ wA kC aa x) (kk : ∀ (H : Heap) (locs : List Loc), va_P D1 kCl (kW aa q1 u0) H → va_P D2 mCl (mW bb q2 τ) H → va_S (fun x => s.heap.size ≤ x) s.heap H locs → W p l e R s m args below meth c H locs cells slots Q (F0 m (pc + 3) ls (.long r0 :: rest))) : W p l e R s m args below meth c H locs cells slots Q (F0 m pc ls st0) := by
  refine va_calll hr hS (fun q _ h => hw q h) (fun q h => hw q h) (fun r u t H1 locs1 ht hvm hw1 hB hz hfr hS1 => ?_)
  obtain ⟨rfl, rfl⟩ := hw1
  have hP1 := hB.1
  rw [ht] at hP1
  refine kk H1 locs1 hP1 (hO.kept (fun i x hi => ?_)) hS1
  obtain ⟨f, n, h1, rfl⟩ := wmap_of hi
  exact hfr _ (hO i _ hi).lt (hdj _ ⟨i, f, n, h1, rfl⟩)
theorem lm_i {p : Program} {l : Launch} {e : Env} {R : Room} {s : State} {m : MethodId} {args : Array Value} {below : List Frame} {meth : Method} {c : Code} {H : Heap} {locs : List Loc} {cells slots : Nat} {Q : State → Prop} {pc : Nat} {ls : Array Slot} {rest st0 : List Value} {D1 D2 : va_G} {aa bb : Nat → Nat → Nat} {q1 q2 : Nat → ClassId} {σ : kS} {a : Array Value} {r0 : Int32} {u0 : kS} (hr : va_Run p l e R s m args below meth c H locs cells slots 0 0 (F0 m pc ls st0) rest (va_Qi (fun (r : Int32) (u : kS) => r = r0 ∧ u = u0) (mB D2 bb q2) (wA mC bb) a) (wA mC bb)) (hS : va_S (fun x => s.heap.size ≤ x) s.heap H locs) (hw : ∀ x, wA mC bb x → s.heap.size ≤ x) (hO : va_P D1 kCl (kW aa q1 σ) H) (hdj : ∀ x, wA kC aa x → ¬ wA mC bb x) (kk : ∀ (H : Heap) (locs : List Loc), va_P D2 mCl (mW bb q2 u0) H → va_P D1 kCl (kW aa q1 σ) H → va_S (fun x => s.heap.size ≤ x) s.heap H locs → W p l e R s m args below meth c H locs cells slots Q (F0 m (pc + 3) ls (.int r0 :: rest))) : W p l e R s m args below meth c H locs cells slots Q (F0 m pc ls st0) := by
  refine va_calli hr hS (fun q _ h => hw q h) (fun q h => hw q h) (fun r u t H1 locs1 ht hvm hw1 hB hz hfr hS1 => ?_)
  obtain ⟨rfl, rfl⟩ := hw1
  have hP1 := hB.1
  rw [ht] at hP1
  refine kk H1 locs1 hP1 (hO.kept (fun i x hi => ?_)) hS1
  obtain ⟨f, n, h1, rfl⟩ := wmap_of hi
  exact hfr _ (hO i _ hi).lt (hdj _ ⟨i, f, n, h1, rfl⟩)
theorem lm_l {p : Program} {l : Launch} {e : Env} {R : Room} {s : State} {m : MethodId} {args : Array Value} {below : List Frame} {meth : Method} {c : Code} {H : Heap} {locs : List Loc} {cells slots : Nat} {Q : State → Prop} {pc : Nat} {ls : Array Slot} {rest st0 : List Value} {D1 D2 : va_G} {aa bb : Nat → Nat → Nat} {q1 q2 : Nat → ClassId} {σ : kS} {a : Array Value} {r0 : Int64} {u0 : kS} (hr : va_Run p l e R s m args below meth c H locs cells slots 0 0 (F0 m pc ls st0) rest (va_Ql (fun (r : Int64) (u : kS) => r = r0 ∧ u = u0) (mB D2 bb q2) (wA mC bb) a) (wA mC bb)) (hS : va_S (fun x => s.heap.size ≤ x) s.heap H locs) (hw : ∀ x, wA mC bb x → s.heap.size ≤ x) (hO : va_P D1 kCl (kW aa q1 σ) H) (hdj : ∀ x, wA kC aa x → ¬ wA mC bb x) (kk : ∀ (H : Heap) (locs : List Loc), va_P D2 mCl (mW bb q2 u0) H → va_P D1 kCl (kW aa q1 σ) H → va_S (fun x => s.heap.size ≤ x) s.heap H locs → W p l e R s m args below meth c H locs cells slots Q (F0 m (pc + 3) ls (.long r0 :: rest))) : W p l e R s m args below meth c H locs cells slots Q (F0 m pc ls st0) := by
  refine va_calll hr hS (fun q _ h => hw q h) (fun q h => hw q h) (fun r u t H1 locs1 ht hvm hw1 hB hz hfr hS1 => ?_)
  obtain ⟨rfl, rfl⟩ := hw1
  have hP1 := hB.1
  rw [ht] at hP1
  refine kk H1 locs1 hP1 (hO.kept (fun i x hi => ?_)) hS1
  obtain ⟨f, n, h1, rfl⟩ := wmap_of hi
  exact hfr _ (hO i _ hi).lt (hdj _ ⟨i, f, n, h1, rfl⟩)
