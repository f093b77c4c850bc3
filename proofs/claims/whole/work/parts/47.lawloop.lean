theorem rel_0 : Rel 0 0 0 0 (fun _ => []) kS0 mS0 := by
  have n4 : ¬ (0 : Int32) = 4 := by decide
  have n5 : ¬ (0 : Int32) = 5 := by decide
  refine ⟨⟨by omega, nI_0.symm, nI_0.symm, rfl, by decide +kernel, nI_0.symm, nI_0.symm, by omega, by omega⟩, fun p hp => ⟨rfl, rfl, rfl, rfl⟩, fun p hp i hi => ⟨rfl, rfl, rfl⟩, fun p hp => ⟨rfl, rfl, show (0 : Int32) ≤ 0 by decide, show (0 : Int32) ≤ 7 by decide⟩, fun p hp r hr => rfl, fun p hp => ⟨0, 0, by omega, by omega, nI_0.symm, nI_0.symm, ⟨0, by omega, nI_0.symm⟩, fun i hi => by omega, fun z => absurd z n4, fun z => absurd z n5⟩, fun p hp => by omega, fun p hp z => absurd z n4, fun p hp => by omega, fun p hp hp2 => ⟨rfl, rfl, rfl, fun r hr => rfl⟩, ⟨fun r hr => ⟨nI_0.symm, fun i p h => by simp at h⟩, fun r hr p => ⟨fun h => by simp at h, fun h => absurd h.1 (by omega)⟩, fun p => ⟨fun h => by simp at h, fun h => absurd h.1 (by omega)⟩, fun r hr => List.Pairwise.nil, List.Pairwise.nil, fun p hp => by omega⟩, fun r hr => rfl, ?_, ?_, nI_0.symm, by omega, nI_0.symm, 0, by omega, nI_0.symm, fun k hk hk2 => by omega⟩
  · intro r hr
    match r, hr with
    | 0, _ => exact ⟨by decide +kernel, rfl, rfl, rfl⟩
    | 1, _ => exact ⟨by decide +kernel, rfl, rfl, rfl⟩
    | 2, _ => exact ⟨by decide +kernel, rfl, rfl, rfl⟩
    | 3, _ => exact ⟨by decide +kernel, rfl, rfl, rfl⟩
  · intro r hr
    match r, hr with
    | 0, _ => exact ⟨by decide +kernel, rfl⟩
    | 1, _ => exact ⟨by decide +kernel, rfl⟩
    | 2, _ => exact ⟨by decide +kernel, rfl⟩
    | 3, _ => exact ⟨by decide +kernel, rfl⟩
theorem gt5 {L k : Nat} (hL : L ≤ 2560) (hk : k ≤ 512) : (Int32.ofNat L - 5 < nI (5 * k)) ↔ L < 5 * k + 5 := by
  show (nI L - 5 < nI (5 * k)) ↔ L < 5 * k + 5
  by_cases h : 5 ≤ L
  · obtain ⟨j, rfl⟩ : ∃ j, L = j + 5 := ⟨L - 5, by omega⟩
    have e : nI (j + 5) - 5 = nI j := by
      rw [← nI_add j 5, show nI 5 = 5 from rfl]
      grind
    rw [e, nI_ltI (by omega) (by omega)]
    omega
  · have h0 : ¬ nI (5 * k) < 0 := by
      rw [nI_lt0 (by omega)]
      simp
    have h1 : nI L - 5 < 0 := by
      match L, h with
      | 0, _ => decide
      | 1, _ => decide
      | 2, _ => decide
      | 3, _ => decide
      | 4, _ => decide
      | n + 5, h => omega
    constructor
    · intro _
      omega
    · intro _
      grind
theorem ii_5k (k : Nat) : nI (5 * k) + Int32.ofInt 5 = nI (5 * (k + 1)) := by
  rw [ii_p5, show 5 * (k + 1) = 5 * k + 5 by omega]
  exact nI_add (5 * k) 5
set_option maxHeartbeats 8000000 in
set_option maxRecDepth 100000 in
theorem w_law_18 {p : Program} {l : Launch} {e : Env} {s : State} {m : MethodId} {below : List Frame} {meth : Method} {c : Code} {Q : State → Prop} {D1 D2 : va_G} {aa bb : Nat → Nat → Nat} {q1 q2 : Nat → ClassId} {b L : Nat} {xs : Nat → Int32} (S : CallFix p m c bc_W_law 4 s #[Value.ref b] lw_g bR_W) (hX : va_X b L xs s s.heap) (hbl : b < s.heap.size) (hL : L ≤ 2560) (hJ1 : wJ kC aa) (hJ2 : wJ mC bb) (hw1 : ∀ x, wA kC aa x → s.heap.size ≤ x) (hw2 : ∀ x, wA mC bb x → s.heap.size ≤ x) (hdj : ∀ x, wA mC bb x → ¬ wA kC aa x) (hK1 : va_K D1 kCl (kT q1) s) (hK2 : va_K D2 mCl (mT q2) s) (kx : ∀ (H : Heap) (locs : List Loc) (ls : Array Slot), va_S (fun x => s.heap.size ≤ x) s.heap H locs → W p l e room_1 s m #[Value.ref b] below meth c H locs 108 1465 Q (F0 m 734 ls [])) : ∀ (d k N o9 c9 ev : Nat) (Ln : Nat → List Nat) (σ τ : kS) (H : Heap) (locs : List Loc) (ls : Array Slot), k + d = 512 → Rel N o9 c9 ev Ln σ τ → o9 + 1664400 * d < 2 ^ 31 → c9 + 9900 * d < 2 ^ 31 → ev + 100 * d < 2 ^ 30 → lv_has ls 4 [(3, .int (nI (5 * k))), (2, .ref (bb 0 0)), (1, .ref (aa 0 0)), (0, .ref b)] → va_P D1 kCl (kW aa q1 σ) H → va_P D2 mCl (mW bb q2 τ) H → va_S (fun x => s.heap.size ≤ x) s.heap H locs → W p l e room_1 s m #[Value.ref b] below meth c H locs 108 1465 Q (F0 m 18 ls []) := by
  obtain ⟨hx, hb, hml, hown, ht⟩ := id S
  intro d
  induction d with
  | zero =>
    intro k N o9 c9 ev Ln σ τ H locs ls hkd h ho hc9 hev hl hP1 hP2 hS
    refine lv_iload_n hx hb de_W_law_18 rfl (lv_at hl 0 rfl) ?_
    refine lv_aload_n hx hb de_W_law_19 rfl (lv_at hl 3 rfl) ?_
    refine va_slen hx hb hX hbl (Nat.not_le.mpr hbl) hS de_W_law_20 ?_
    refine lv_iconst (v := 5) hx hb de_W_law_21 (by decide) ?_
    refine lv_isub hx hb de_W_law_22 ?_
    refine lv_icmp_gt (tgt := 734) hx hb de_W_law_23 (by decide) (fun hc => ?_) (fun hc => ?_)
    · exact kx H locs ls hS
    · exact absurd ((gt5 hL (by omega)).mpr (by omega)) hc
  | succ d ih =>
    intro k N o9 c9 ev Ln σ τ H locs ls hkd h ho hc9 hev hl hP1 hP2 hS
    rw [Nat.mul_succ] at ho hc9 hev
    refine lv_iload_n hx hb de_W_law_18 rfl (lv_at hl 0 rfl) ?_
    refine lv_aload_n hx hb de_W_law_19 rfl (lv_at hl 3 rfl) ?_
    refine va_slen hx hb hX hbl (Nat.not_le.mpr hbl) hS de_W_law_20 ?_
    refine lv_iconst (v := 5) hx hb de_W_law_21 (by decide) ?_
    refine lv_isub hx hb de_W_law_22 ?_
    refine lv_icmp_gt (tgt := 734) hx hb de_W_law_23 (by decide) (fun hc => ?_) (fun hc => ?_)
    · exact kx H locs ls hS
    · have hk : 5 * k + 5 ≤ L := by
        have z := mt (gt5 (k := k) hL (by omega)).mpr hc
        omega
      have nxt : ∀ (N1 o1 c1 ev1 : Nat) (L1 : Nat → List Nat) (σ1 τ1 : kS) (H : Heap) (locs : List Loc), Rel N1 o1 c1 ev1 L1 σ1 τ1 → o1 ≤ o9 + 1664400 → c1 ≤ c9 + 9900 → ev1 ≤ ev + 100 → va_P D1 kCl (kW aa q1 σ1) H → va_P D2 mCl (mW bb q2 τ1) H → va_S (fun x => s.heap.size ≤ x) s.heap H locs → W p l e room_1 s m #[Value.ref b] below meth c H locs 108 1465 Q (F0 m 728 ls []) := by
        intro N1 o1 c1 ev1 L1 σ1 τ1 H locs hR b1 b2 b3 a1 a2 a3
        refine lv_iinc (k := 0) (v := nI (5 * (k + 1))) (lv' := [(3, .int (nI (5 * (k + 1)))), (2, .ref (bb 0 0)), (1, .ref (aa 0 0)), (0, .ref b)]) hx hb de_W_law_728 hl rfl (ii_5k k) (by decide) rfl (fun ls hl => ?_)
        refine lv_goto (tgt := 18) hx hb de_W_law_731 (by decide) ?_
        exact ih (k + 1) N1 o1 c1 ev1 L1 σ1 τ1 H locs ls (by omega) hR (by omega) (by omega) (by omega) hl a1 a2 a3
      have b1 : o9 + 1664400 < 2 ^ 31 := Nat.lt_of_le_of_lt (Nat.add_le_add_left (Nat.le_add_left _ _) _) ho
      have b2 : c9 + 9900 < 2 ^ 31 := Nat.lt_of_le_of_lt (Nat.add_le_add_left (Nat.le_add_left _ _) _) hc9
      have b3 : ev + 100 < 2 ^ 30 := Nat.lt_of_le_of_lt (Nat.add_le_add_left (Nat.le_add_left _ _) _) hev
      refine lv_aload_n hx hb de_W_law_26 rfl (lv_at hl 3 rfl) ?_
      refine lv_iload_n hx hb de_W_law_27 rfl (lv_at hl 0 rfl) ?_
      refine l_sld hx hb hX hbl hS (show 5 * k < L by omega) (by omega) de_W_law_28 ?_
      refine lv_bipush (v := 31) hx hb de_W_law_29 (by decide) ?_
      refine lv_iand hx hb de_W_law_31 ?_
      by_cases hk0 : (xs (5 * k) &&& 31) = 0
      · refine lv_tableIn (off := 96) (tgt := 128) hx hb de_W_law_32 (by rw [hk0]; decide) (by rw [hk0]; decide) (by rw [hk0]; rfl) (by decide) ?_
        obtain ⟨r, σ1, τ1, N1, f1, f2, hR⟩ := r_process h (xs (5 * k + 1)) (xs (5 * k + 2)) (xs (5 * k + 3))
        exact w_law_c0 S hX hbl hL hJ1 hJ2 hw1 hw2 hdj hK1 hK2 hk hl hP1 hP2 hS f1 f2 (fun H locs a1 a2 a3 => nxt N1 o9 c9 ev Ln σ1 τ1 H locs hR (by omega) (by omega) (by omega) a1 a2 a3)
      by_cases hk1 : (xs (5 * k) &&& 31) = 1
      · refine lv_tableIn (off := 139) (tgt := 171) hx hb de_W_law_32 (by rw [hk1]; decide) (by rw [hk1]; decide) (by rw [hk1]; rfl) (by decide) ?_
        obtain ⟨r, σ1, τ1, f1, f2, hR⟩ := r_instruct h (xs (5 * k + 1)) (xs (5 * k + 2)) (xs (5 * k + 3)) (xs (5 * k + 4))
        exact w_law_c1 S hX hbl hL hJ1 hJ2 hw1 hw2 hdj hK1 hK2 hk hl hP1 hP2 hS f1 f2 (fun H locs a1 a2 a3 => nxt N o9 c9 ev Ln σ1 τ1 H locs hR (by omega) (by omega) (by omega) a1 a2 a3)
      by_cases hk2 : (xs (5 * k) &&& 31) = 2
      · refine lv_tableIn (off := 192) (tgt := 224) hx hb de_W_law_32 (by rw [hk2]; decide) (by rw [hk2]; decide) (by rw [hk2]; rfl) (by decide) ?_
        by_cases hz : xs (5 * k + 3) = 0
        · obtain ⟨r, σ1, τ1, o1, L1, f1, f2, hR, g1⟩ := r_resource h (xs (5 * k + 1)) (xs (5 * k + 2)) 0 (by decide) (by omega)
          exact w_law_c2z S hX hbl hL hJ1 hJ2 hw1 hw2 hdj hK1 hK2 hk hl hP1 hP2 hS hz f1 f2 (fun H locs a1 a2 a3 => nxt N o1 c9 ev L1 σ1 τ1 H locs hR (by omega) (by omega) (by omega) a1 a2 a3)
        · obtain ⟨r, σ1, τ1, o1, L1, f1, f2, hR, g1⟩ := r_resource h (xs (5 * k + 1)) (xs (5 * k + 2)) 1 (by decide) (by omega)
          exact w_law_c2n S hX hbl hL hJ1 hJ2 hw1 hw2 hdj hK1 hK2 hk hl hP1 hP2 hS hz f1 f2 (fun H locs a1 a2 a3 => nxt N o1 c9 ev L1 σ1 τ1 H locs hR (by omega) (by omega) (by omega) a1 a2 a3)
      by_cases hk3 : (xs (5 * k) &&& 31) = 3
      · refine lv_tableIn (off := 251) (tgt := 283) hx hb de_W_law_32 (by rw [hk3]; decide) (by rw [hk3]; decide) (by rw [hk3]; rfl) (by decide) ?_
        obtain ⟨r, σ1, τ1, f1, f2, hR⟩ := r_tank h (xs (5 * k + 1)) (xs (5 * k + 2)) (xs (5 * k + 3))
        exact w_law_c3 S hX hbl hL hJ1 hJ2 hw1 hw2 hdj hK1 hK2 hk hl hP1 hP2 hS f1 f2 (fun H locs a1 a2 a3 => nxt N o9 c9 ev Ln σ1 τ1 H locs hR (by omega) (by omega) (by omega) a1 a2 a3)
      by_cases hk4 : (xs (5 * k) &&& 31) = 4
      · refine lv_tableIn (off := 294) (tgt := 326) hx hb de_W_law_32 (by rw [hk4]; decide) (by rw [hk4]; decide) (by rw [hk4]; rfl) (by decide) ?_
        obtain ⟨r, σ1, τ1, o1, L1, f1, f2, hR, -, -, g1⟩ := r_activate h (xs (5 * k + 1)) (xs (5 * k + 2)) (by omega)
        exact w_law_c4 S hX hbl hL hJ1 hJ2 hw1 hw2 hdj hK1 hK2 hk hl hP1 hP2 hS f1 f2 (fun H locs a1 a2 a3 => nxt N o1 c9 ev L1 σ1 τ1 H locs hR (by omega) (by omega) (by omega) a1 a2 a3)
      by_cases hk5 : (xs (5 * k) &&& 31) = 5
      · refine lv_tableIn (off := 327) (tgt := 359) hx hb de_W_law_32 (by rw [hk5]; decide) (by rw [hk5]; decide) (by rw [hk5]; rfl) (by decide) ?_
        obtain ⟨r, σ1, τ1, o1, L1, f1, f2, hR, -, -, g1⟩ := r_interrupt h (xs (5 * k + 1)) (by omega)
        exact w_law_c5 S hX hbl hL hJ1 hJ2 hw1 hw2 hdj hK1 hK2 hk hl hP1 hP2 hS f1 f2 (fun H locs a1 a2 a3 => nxt N o1 c9 ev L1 σ1 τ1 H locs hR (by omega) (by omega) (by omega) a1 a2 a3)
      by_cases hk6 : (xs (5 * k) &&& 31) = 6
      · refine lv_tableIn (off := 350) (tgt := 382) hx hb de_W_law_32 (by rw [hk6]; decide) (by rw [hk6]; decide) (by rw [hk6]; rfl) (by decide) ?_
        obtain ⟨r, σ1, τ1, o1, L1, f1, f2, hR, -, -, g1⟩ := r_kill h (xs (5 * k + 1)) (by omega)
        exact w_law_c6 S hX hbl hL hJ1 hJ2 hw1 hw2 hdj hK1 hK2 hk hl hP1 hP2 hS f1 f2 (fun H locs a1 a2 a3 => nxt N o1 c9 ev L1 σ1 τ1 H locs hR (by omega) (by omega) (by omega) a1 a2 a3)
      by_cases hk7 : (xs (5 * k) &&& 31) = 7
      · refine lv_tableIn (off := 373) (tgt := 405) hx hb de_W_law_32 (by rw [hk7]; decide) (by rw [hk7]; decide) (by rw [hk7]; rfl) (by decide) ?_
        obtain ⟨r, σ1, τ1, o1, c1, ev1, L1, f1, f2, hR, g1, g2, g3⟩ := r_run h (xs (5 * k + 1)) ((((xs (5 * k + 2)).toInt64) <<< ((32 : Int32).toInt64 &&& 63)) ||| (((xs (5 * k + 3)).toInt64) &&& 4294967295)) b1 b2 b3
        exact w_law_c7 S hX hbl hL hJ1 hJ2 hw1 hw2 hdj hK1 hK2 hk hl hP1 hP2 hS f1 f2 (fun H locs a1 a2 a3 => nxt N o1 c1 ev1 L1 σ1 τ1 H locs hR g1 g2 g3 a1 a2 a3)
      by_cases hk8 : (xs (5 * k) &&& 31) = 8
      · refine lv_tableIn (off := 436) (tgt := 468) hx hb de_W_law_32 (by rw [hk8]; decide) (by rw [hk8]; decide) (by rw [hk8]; rfl) (by decide) ?_
        obtain ⟨r, f1, f2⟩ := r_now h 
        exact w_law_c8 S hX hbl hL hJ1 hJ2 hw1 hw2 hdj hK1 hK2 hk hl hP1 hP2 hS (σ1 := σ) (τ1 := τ) f1 f2 (fun H locs a1 a2 a3 => nxt N o9 c9 ev Ln σ τ H locs h (by omega) (by omega) (by omega) a1 a2 a3)
      by_cases hk9 : (xs (5 * k) &&& 31) = 9
      · refine lv_tableIn (off := 450) (tgt := 482) hx hb de_W_law_32 (by rw [hk9]; decide) (by rw [hk9]; decide) (by rw [hk9]; rfl) (by decide) ?_
        obtain ⟨r, f1, f2⟩ := r_next h 
        exact w_law_c9 S hX hbl hL hJ1 hJ2 hw1 hw2 hdj hK1 hK2 hk hl hP1 hP2 hS (σ1 := σ) (τ1 := τ) f1 f2 (fun H locs a1 a2 a3 => nxt N o9 c9 ev Ln σ τ H locs h (by omega) (by omega) (by omega) a1 a2 a3)
      by_cases hk10 : (xs (5 * k) &&& 31) = 10
      · refine lv_tableIn (off := 464) (tgt := 496) hx hb de_W_law_32 (by rw [hk10]; decide) (by rw [hk10]; decide) (by rw [hk10]; rfl) (by decide) ?_
        obtain ⟨r, f1, f2⟩ := r_state h (xs (5 * k + 1))
        exact w_law_c10 S hX hbl hL hJ1 hJ2 hw1 hw2 hdj hK1 hK2 hk hl hP1 hP2 hS (σ1 := σ) (τ1 := τ) f1 f2 (fun H locs a1 a2 a3 => nxt N o9 c9 ev Ln σ τ H locs h (by omega) (by omega) (by omega) a1 a2 a3)
      by_cases hk11 : (xs (5 * k) &&& 31) = 11
      · refine lv_tableIn (off := 487) (tgt := 519) hx hb de_W_law_32 (by rw [hk11]; decide) (by rw [hk11]; decide) (by rw [hk11]; rfl) (by decide) ?_
        obtain ⟨r, f1, f2⟩ := r_place h (xs (5 * k + 1))
        exact w_law_c11 S hX hbl hL hJ1 hJ2 hw1 hw2 hdj hK1 hK2 hk hl hP1 hP2 hS (σ1 := σ) (τ1 := τ) f1 f2 (fun H locs a1 a2 a3 => nxt N o9 c9 ev Ln σ τ H locs h (by omega) (by omega) (by omega) a1 a2 a3)
      by_cases hk12 : (xs (5 * k) &&& 31) = 12
      · refine lv_tableIn (off := 510) (tgt := 542) hx hb de_W_law_32 (by rw [hk12]; decide) (by rw [hk12]; decide) (by rw [hk12]; rfl) (by decide) ?_
        obtain ⟨r, f1, f2⟩ := r_held h (xs (5 * k + 1)) (xs (5 * k + 2))
        exact w_law_c12 S hX hbl hL hJ1 hJ2 hw1 hw2 hdj hK1 hK2 hk hl hP1 hP2 hS (σ1 := σ) (τ1 := τ) f1 f2 (fun H locs a1 a2 a3 => nxt N o9 c9 ev Ln σ τ H locs h (by omega) (by omega) (by omega) a1 a2 a3)
      by_cases hk13 : (xs (5 * k) &&& 31) = 13
      · refine lv_tableIn (off := 543) (tgt := 575) hx hb de_W_law_32 (by rw [hk13]; decide) (by rw [hk13]; decide) (by rw [hk13]; rfl) (by decide) ?_
        obtain ⟨r, f1, f2⟩ := r_free h (xs (5 * k + 1))
        exact w_law_c13 S hX hbl hL hJ1 hJ2 hw1 hw2 hdj hK1 hK2 hk hl hP1 hP2 hS (σ1 := σ) (τ1 := τ) f1 f2 (fun H locs a1 a2 a3 => nxt N o9 c9 ev Ln σ τ H locs h (by omega) (by omega) (by omega) a1 a2 a3)
      by_cases hk14 : (xs (5 * k) &&& 31) = 14
      · refine lv_tableIn (off := 566) (tgt := 598) hx hb de_W_law_32 (by rw [hk14]; decide) (by rw [hk14]; decide) (by rw [hk14]; rfl) (by decide) ?_
        obtain ⟨r, f1, f2⟩ := r_waiting h (xs (5 * k + 1))
        exact w_law_c14 S hX hbl hL hJ1 hJ2 hw1 hw2 hdj hK1 hK2 hk hl hP1 hP2 hS (σ1 := σ) (τ1 := τ) f1 f2 (fun H locs a1 a2 a3 => nxt N o9 c9 ev Ln σ τ H locs h (by omega) (by omega) (by omega) a1 a2 a3)
      by_cases hk15 : (xs (5 * k) &&& 31) = 15
      · refine lv_tableIn (off := 589) (tgt := 621) hx hb de_W_law_32 (by rw [hk15]; decide) (by rw [hk15]; decide) (by rw [hk15]; rfl) (by decide) ?_
        obtain ⟨r, f1, f2⟩ := r_area h (xs (5 * k + 1))
        exact w_law_c15 S hX hbl hL hJ1 hJ2 hw1 hw2 hdj hK1 hK2 hk hl hP1 hP2 hS (σ1 := σ) (τ1 := τ) f1 f2 (fun H locs a1 a2 a3 => nxt N o9 c9 ev Ln σ τ H locs h (by omega) (by omega) (by omega) a1 a2 a3)
      by_cases hk16 : (xs (5 * k) &&& 31) = 16
      · refine lv_tableIn (off := 613) (tgt := 645) hx hb de_W_law_32 (by rw [hk16]; decide) (by rw [hk16]; decide) (by rw [hk16]; rfl) (by decide) ?_
        obtain ⟨r, f1, f2⟩ := r_waited h (xs (5 * k + 1))
        exact w_law_c16 S hX hbl hL hJ1 hJ2 hw1 hw2 hdj hK1 hK2 hk hl hP1 hP2 hS (σ1 := σ) (τ1 := τ) f1 f2 (fun H locs a1 a2 a3 => nxt N o9 c9 ev Ln σ τ H locs h (by omega) (by omega) (by omega) a1 a2 a3)
      by_cases hk17 : (xs (5 * k) &&& 31) = 17
      · refine lv_tableIn (off := 637) (tgt := 669) hx hb de_W_law_32 (by rw [hk17]; decide) (by rw [hk17]; decide) (by rw [hk17]; rfl) (by decide) ?_
        obtain ⟨r, f1, f2⟩ := r_level h (xs (5 * k + 1))
        exact w_law_c17 S hX hbl hL hJ1 hJ2 hw1 hw2 hdj hK1 hK2 hk hl hP1 hP2 hS (σ1 := σ) (τ1 := τ) f1 f2 (fun H locs a1 a2 a3 => nxt N o9 c9 ev Ln σ τ H locs h (by omega) (by omega) (by omega) a1 a2 a3)
      by_cases hk18 : (xs (5 * k) &&& 31) = 18
      · refine lv_tableIn (off := 660) (tgt := 692) hx hb de_W_law_32 (by rw [hk18]; decide) (by rw [hk18]; decide) (by rw [hk18]; rfl) (by decide) ?_
        obtain ⟨r, f1, f2⟩ := r_stuck h 
        exact w_law_c18 S hX hbl hL hJ1 hJ2 hw1 hw2 hdj hK1 hK2 hk hl hP1 hP2 hS (σ1 := σ) (τ1 := τ) f1 f2 (fun H locs a1 a2 a3 => nxt N o9 c9 ev Ln σ τ H locs h (by omega) (by omega) (by omega) a1 a2 a3)
      by_cases hk19 : (xs (5 * k) &&& 31) = 19
      · refine lv_tableIn (off := 673) (tgt := 705) hx hb de_W_law_32 (by rw [hk19]; decide) (by rw [hk19]; decide) (by rw [hk19]; rfl) (by decide) ?_
        obtain ⟨r, f1, f2⟩ := r_traced h (xs (5 * k + 1))
        exact w_law_c19 S hX hbl hL hJ1 hJ2 hw1 hw2 hdj hK1 hK2 hk hl hP1 hP2 hS (σ1 := σ) (τ1 := τ) f1 f2 (fun H locs a1 a2 a3 => nxt N o9 c9 ev Ln σ τ H locs h (by omega) (by omega) (by omega) a1 a2 a3)
      refine lv_tableOut (tgt := 728) hx hb de_W_law_32 (by have a0 := lv_neT (a := 0) hk0 (by decide); have a1 := lv_neT (a := 1) hk1 (by decide); have a2 := lv_neT (a := 2) hk2 (by decide); have a3 := lv_neT (a := 3) hk3 (by decide); have a4 := lv_neT (a := 4) hk4 (by decide); have a5 := lv_neT (a := 5) hk5 (by decide); have a6 := lv_neT (a := 6) hk6 (by decide); have a7 := lv_neT (a := 7) hk7 (by decide); have a8 := lv_neT (a := 8) hk8 (by decide); have a9 := lv_neT (a := 9) hk9 (by decide); have a10 := lv_neT (a := 10) hk10 (by decide); have a11 := lv_neT (a := 11) hk11 (by decide); have a12 := lv_neT (a := 12) hk12 (by decide); have a13 := lv_neT (a := 13) hk13 (by decide); have a14 := lv_neT (a := 14) hk14 (by decide); have a15 := lv_neT (a := 15) hk15 (by decide); have a16 := lv_neT (a := 16) hk16 (by decide); have a17 := lv_neT (a := 17) hk17 (by decide); have a18 := lv_neT (a := 18) hk18 (by decide); have a19 := lv_neT (a := 19) hk19 (by decide); omega) (by decide) ?_
      exact nxt N o9 c9 ev Ln σ τ H locs h (by omega) (by omega) (by omega) hP1 hP2 hS
