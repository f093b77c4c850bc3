abbrev t6 : Type := Nat × Nat × Nat × Nat × Nat × Nat
def cP (c : ClassId) (t : t6) : va_W := [(t.2.1, .inr (1, [.int (nI t.1), .ref t.2.2.1, .ref t.2.2.2.1, .ref t.2.2.2.2.1, .ref t.2.2.2.2.2, .int 0, .int 0, .int 1, .int 0, .int 0, .int 0, .int 0, .int 0, .long 0, .long 0, .long 0])), (t.2.2.1, .inl (c, 10, .inl (fun _ => 0))), (t.2.2.2.1, .inl (c, 10, .inl (fun _ => 0))), (t.2.2.2.2.1, .inl (c, 10, .inl (fun _ => 0))), (t.2.2.2.2.2, .inl (c, 4, .inl (fun _ => 0)))]
def cE (c : ClassId) (t : Nat × Nat × Nat) : va_W := [(t.1, .inr (3, [.ref t.2.1, .int 1, .int 0, .int 0, .long 0, .long 0])), (t.2.1, .inr (2, [.ref t.2.2, .int 0])), (t.2.2, .inl (c, 12, .inl (fun _ => 0)))]
def cT (t : Nat) : va_W := [(t, .inr (4, [.int 1000, .int 0]))]
def fP (ps : List t6) : Nat → Option Nat := fun i => (ps[i]?).map (fun t => t.2.1)
def fE (rs : List (Nat × Nat × Nat)) : Nat → Option Nat := fun i => (rs[i]?).map (fun t => t.1)
def fT (ts : List Nat) : Nat → Option Nat := fun i => (ts[i]?).map (fun t => t)
def kTy (cp cr ct q0 : ClassId) : List (ClassId × FieldType) := [(cp, .object bR_P), (cr, .object bR_E), (ct, .object bR_T), (q0, .int)]
def kw9 (h ap ar at_ l4 m4 tr rw_ ls_ : Nat) (cp cr ct q0 : ClassId) (fp fr ft : Nat → Option Nat) : va_W := [(h, .inr (0, [.ref ap, .ref ar, .ref at_, .ref l4, .ref tr, .ref ls_, .int 0, .long 0, .long 0])), (ap, .inl (cp, 12, .inr (.inr (.inr (.inr fp))))), (ar, .inl (cr, 4, .inr (.inr (.inr (.inr fr))))), (at_, .inl (ct, 4, .inr (.inr (.inr (.inr ft))))), (l4, .inr (2, [.ref m4, .int 0])), (m4, .inl (q0, 12, .inl (fun _ => 0))), (tr, .inr (5, [.ref rw_, .int 0, .int 0])), (rw_, .inl (q0, 64, .inl (fun _ => 0))), (ls_, .inl (q0, 12, .inl (fun _ => 0)))]
theorem up_map {α : Type} (xs : List α) (g : α → Nat) (t : α) : va_up (fun i => (xs[i]?).map g) xs.length (some (g t)) = fun i => ((xs ++ [t])[i]?).map g := by
  funext i
  unfold va_up
  by_cases h : i = xs.length
  · subst h; simp
  · rw [if_neg h]
    show (xs[i]?).map g = ((xs ++ [t])[i]?).map g
    by_cases h2 : i < xs.length
    · rw [List.getElem?_append_left h2]
    · rw [List.getElem?_eq_none (show xs.length ≤ i by omega), List.getElem?_eq_none (show (xs ++ [t]).length ≤ i by simp; omega)]
theorem fm_1 {α : Type} (xs : List α) (t : α) (f : α → va_W) : (xs ++ [t]).flatMap f = xs.flatMap f ++ f t := by simp
set_option maxHeartbeats 4000000 in
set_option maxRecDepth 100000 in
theorem w_K_init_76 {p : Program} {l : Launch} {e : Env} {s : State} {m : MethodId} {args : Array Value} {below : List Frame} {meth : Method} {c : Code} {Q : State → Prop} {D : va_G} {A : Nat → Prop} {h ap ar at_ l4 m4 tr rw_ ls_ : Nat} {cp cr ct q0 : ClassId} (S : CallFix p m c bc_K_init 2 s args lw_g bR_K) (hA : ∀ q, s.heap.size ≤ q → A q) (hK : va_K D kCl (kTy cp cr ct q0) s) {fp fr ft : Nat → Option Nat} {X : va_W} : ∀ (d : Nat) (xs : List t6) (H : Heap) (locs : List Loc) (ls : Array Slot), xs.length + d = 12 → (∀ (i : Nat) (t : t6), xs[i]? = some t → t.1 = i) → lv_has ls 2 [(1, .int (nI xs.length)), (0, .ref h)] → va_P D kCl ((kw9 h ap ar at_ l4 m4 tr rw_ ls_ cp cr ct q0 (fP xs) fr ft ++ X) ++ xs.flatMap (cP q0)) H → va_D A ((kw9 h ap ar at_ l4 m4 tr rw_ ls_ cp cr ct q0 (fP xs) fr ft ++ X) ++ xs.flatMap (cP q0)) → va_S A s.heap H locs → (∀ (xs : List t6) (H : Heap) (locs : List Loc) (ls : Array Slot), xs.length = 12 → (∀ (i : Nat) (t : t6), xs[i]? = some t → t.1 = i) → lv_has ls 2 [(1, .int (nI xs.length)), (0, .ref h)] → va_P D kCl ((kw9 h ap ar at_ l4 m4 tr rw_ ls_ cp cr ct q0 (fP xs) fr ft ++ X) ++ xs.flatMap (cP q0)) H → va_D A ((kw9 h ap ar at_ l4 m4 tr rw_ ls_ cp cr ct q0 (fP xs) fr ft ++ X) ++ xs.flatMap (cP q0)) → va_S A s.heap H locs → W p l e brm_K_init s m args below meth c H locs (8 + 5 * xs.length) (113 + 50 * xs.length) Q (F0 m 102 ls [])) → W p l e brm_K_init s m args below meth c H locs (8 + 5 * xs.length) (113 + 50 * xs.length) Q (F0 m 76 ls []) := by
  obtain ⟨hx, hb, hml, hown, ht⟩ := id S
  intro d
  induction d with
  | zero =>
    intro xs H locs ls hd hnum hl hP hD hS kk
    refine lv_iload_n hx hb de_K_init_76 rfl (lv_at hl 0 rfl) ?_
    refine lv_bipush (v := 12) hx hb de_K_init_77 (by decide) ?_
    refine lv_icmp_ge (tgt := 102) hx hb de_K_init_79 (by decide) (fun hc => ?_) (fun hc => ?_)
    · exact kk xs H locs ls (by omega) hnum hl hP hD hS
    · exact absurd (by rw [(show (12 : Int32) = nI 12 from rfl), nI_leI] <;> omega) hc
  | succ d ih =>
    intro xs H locs ls hd hnum hl hP hD hS kk
    refine lv_iload_n hx hb de_K_init_76 rfl (lv_at hl 0 rfl) ?_
    refine lv_bipush (v := 12) hx hb de_K_init_77 (by decide) ?_
    refine lv_icmp_ge (tgt := 102) hx hb de_K_init_79 (by decide) (fun hc => ?_) (fun hc => ?_)
    · exact absurd hc (by rw [(show (12 : Int32) = nI 12 from rfl), nI_leI] <;> omega)
    · refine lv_aload_n hx hb de_K_init_82 rfl (lv_at hl 1 rfl) ?_
      refine va_get (D := D) (v := .ref ap) (C := bR_K) (T := bT_K) (N := 9) hx hb ht bin_K hown hK hP 0 rfl rfl 0 (by decide) (ht _ tw_1_171) (fun y9 h9 => by rw [bcl_K] at h9; exact h9) rfl de_K_init_83 ?_
      refine lv_iload_n hx hb de_K_init_86 rfl (lv_at hl 0 rfl) ?_
      refine va_new (ci := 1) (fs := [.int 0, .null, .null, .null, .null, .int 0, .int 0, .int 0, .int 0, .int 0, .int 0, .int 0, .int 0, .long 0, .long 0, .long 0]) (C := bR_P) (T := bT_P) (N := 16) hx hb ht bin_P bty_P bo_P hown (ht _ tw_1_17) (ht _ tw_1_55) (ht _ tw_1_4) hK hP hD hS hA rfl (by decide) (show 8 + 5 * xs.length + 1 ≤ 84 by omega) (show 113 + 50 * xs.length + 16 ≤ 801 by omega) de_K_init_87 (fun qn H hP hD hS => ?_)
      refine lv_dup hx hb de_K_init_90 rfl ?_
      refine lv_iload_n hx hb de_K_init_91 rfl (lv_at hl 0 rfl) ?_
      refine va_callv (va_runI (As := [.int (nI xs.length)]) (rest := [.ref qn, .int (nI xs.length), .ref ap]) S (c_P_init l D A ((kw9 h ap ar at_ l4 m4 tr rw_ ls_ cp cr ct q0 (fP xs) fr ft ++ X) ++ xs.flatMap (cP q0)) (kTy cp cr ct q0) qn (nI xs.length)) (cwI 1 ht (gi_in tc_P_init) rfl rfl rfl (ht _ tw_1_4) (ht _ tw_1_56) (ht _ tw_1_57) rfl bh_P_init.2 ⟨(Nat.le_of_ble_eq_true rfl), (Nat.le_of_ble_eq_true rfl)⟩) ⟨fun a U g mk h => ⟨h.1, h.2.1, h.2.2.1, va_K.moved (u := U) (U := U.calling g mk a) (Vm.Alike.refl U.vm) h.2.2.2.1, h.2.2.2.2⟩, fun U hU hW => ⟨rfl, fun q h => hA q (Nat.le_trans hS.1 (by rw [← hU]; exact h)), by rw [hU]; exact hP, va_K.moved hW.alike hK, hD⟩⟩ rfl rfl hl.1 rfl (lv_room (Nat.le_of_ble_eq_true rfl)) de_K_init_92 ⟨(show 8 + 5 * xs.length + 1 + 4 ≤ 84 by omega), (show 113 + 50 * xs.length + 16 + 34 ≤ 801 by omega)⟩) hS (fun _ _ h => h) (fun _ h => h) (fun u t H1 locs hth hvm _ hB _ _ hS => ?_)
      obtain ⟨hP, hK1, hD⟩ := hB
      rw [hth] at hP
      have hK := va_K.moved hvm.symm hK1
      generalize H1 = H at hP hS ⊢
      obtain ⟨u1, c1, u2, c2, u3, c3, u4, c4⟩ := u
      have e1 : c1 = q0 := va_same hK (i := 4) (j := 3) rfl rfl
      have e2 : c2 = q0 := va_same hK (i := 5) (j := 3) rfl rfl
      have e3 : c3 = q0 := va_same hK (i := 6) (j := 3) rfl rfl
      have e4 : c4 = q0 := va_same hK (i := 7) (j := 3) rfl rfl
      rw [e1, e2, e3, e4] at hP hD hK
      have hK := hK.sub (tys' := kTy cp cr ct q0) [0, 1, 2, 3] rfl
      have hP : va_P D kCl (((kw9 h ap ar at_ l4 m4 tr rw_ ls_ cp cr ct q0 (fP xs) fr ft ++ X) ++ xs.flatMap (cP q0)) ++ cP q0 (xs.length, qn, u1, u2, u3, u4)) H := hP
      have hD : va_D A (((kw9 h ap ar at_ l4 m4 tr rw_ ls_ cp cr ct q0 (fP xs) fr ft ++ X) ++ xs.flatMap (cP q0)) ++ cP q0 (xs.length, qn, u1, u2, u3, u4)) := hD
      refine va_astq (r := (bR_P, bT_P, 16)) hx hb hK hP hD hS 1 0 ((kw9 h ap ar at_ l4 m4 tr rw_ ls_ cp cr ct q0 (fP xs) fr ft ++ X) ++ xs.flatMap (cP q0)).length 1 rfl rfl (ap_at _ _ _) rfl (vp_in_nI (show xs.length < 12 by omega) (by omega)) de_K_init_95 (fun H locs hP hD hS => ?_)
      have hP : va_P D kCl (((kw9 h ap ar at_ l4 m4 tr rw_ ls_ cp cr ct q0 (va_up (fP xs) (nI xs.length).toNatClampNeg (some qn)) fr ft ++ X) ++ xs.flatMap (cP q0)) ++ cP q0 (xs.length, qn, u1, u2, u3, u4)) H := hP
      have hD : va_D A (((kw9 h ap ar at_ l4 m4 tr rw_ ls_ cp cr ct q0 (va_up (fP xs) (nI xs.length).toNatClampNeg (some qn)) fr ft ++ X) ++ xs.flatMap (cP q0)) ++ cP q0 (xs.length, qn, u1, u2, u3, u4)) := hD
      have hup : va_up (fP xs) (nI xs.length).toNatClampNeg (some qn) = fP (xs ++ [(xs.length, qn, u1, u2, u3, u4)]) := by rw [nI_clamp (by omega)]; exact up_map xs (fun t => t.2.1) (xs.length, qn, u1, u2, u3, u4)
      rw [hup, List.append_assoc, ← fm_1] at hP hD
      refine lv_iinc (k := 0) (v := nI (xs.length + 1)) (lv' := [(1, .int (nI (xs.length + 1))), (0, .ref h)]) hx hb de_K_init_96 hl rfl ((ii_p1 _).trans (nI_1 _)) (by decide) rfl (fun ls hl => ?_)
      refine lv_goto (tgt := 76) hx hb de_K_init_99 (by decide) ?_
      have hlen : (xs ++ [(xs.length, qn, u1, u2, u3, u4)]).length = xs.length + 1 := by simp
      refine W.widen (k := 8 + 5 * (xs ++ [(xs.length, qn, u1, u2, u3, u4)]).length) (n := 113 + 50 * (xs ++ [(xs.length, qn, u1, u2, u3, u4)]).length) (by omega) (by omega) ?_
      have hnum2 : ∀ (i : Nat) (t : t6), (xs ++ [(xs.length, qn, u1, u2, u3, u4)])[i]? = some t → t.1 = i := by
        intro i t hi
        by_cases hil : i < xs.length
        · rw [List.getElem?_append_left hil] at hi
          exact hnum i t hi
        · have h2 := (List.getElem?_eq_some_iff.mp hi).1
          have h3 : i = xs.length := by omega
          subst h3
          simp at hi
          rw [← hi]
      exact ih (xs ++ [(xs.length, qn, u1, u2, u3, u4)]) H locs ls (by omega) hnum2 (by rw [hlen]; exact hl) hP hD hS kk
set_option maxHeartbeats 4000000 in
set_option maxRecDepth 100000 in
theorem w_K_init_104 {p : Program} {l : Launch} {e : Env} {s : State} {m : MethodId} {args : Array Value} {below : List Frame} {meth : Method} {c : Code} {Q : State → Prop} {D : va_G} {A : Nat → Prop} {h ap ar at_ l4 m4 tr rw_ ls_ : Nat} {cp cr ct q0 : ClassId} (S : CallFix p m c bc_K_init 2 s args lw_g bR_K) (hA : ∀ q, s.heap.size ≤ q → A q) (hK : va_K D kCl (kTy cp cr ct q0) s) {fp fr ft : Nat → Option Nat} {X : va_W} (hN : va_Nw (.methodLinkNest bR_K 59 by_E_init bR_K) s) (hN2 : va_Nw (.methodLinkNest bR_E 9 by_L_init bR_K) s) : ∀ (d : Nat) (xs : List (Nat × Nat × Nat)) (H : Heap) (locs : List Loc) (ls : Array Slot), xs.length + d = 4 → lv_has ls 2 [(1, .int (nI xs.length)), (0, .ref h)] → va_P D kCl ((kw9 h ap ar at_ l4 m4 tr rw_ ls_ cp cr ct q0 fp (fE xs) ft ++ X) ++ xs.flatMap (cE q0)) H → va_D A ((kw9 h ap ar at_ l4 m4 tr rw_ ls_ cp cr ct q0 fp (fE xs) ft ++ X) ++ xs.flatMap (cE q0)) → va_S A s.heap H locs → (∀ (xs : List (Nat × Nat × Nat)) (H : Heap) (locs : List Loc) (ls : Array Slot), xs.length = 4 → lv_has ls 2 [(1, .int (nI xs.length)), (0, .ref h)] → va_P D kCl ((kw9 h ap ar at_ l4 m4 tr rw_ ls_ cp cr ct q0 fp (fE xs) ft ++ X) ++ xs.flatMap (cE q0)) H → va_D A ((kw9 h ap ar at_ l4 m4 tr rw_ ls_ cp cr ct q0 fp (fE xs) ft ++ X) ++ xs.flatMap (cE q0)) → va_S A s.heap H locs → W p l e brm_K_init s m args below meth c H locs (68 + 3 * xs.length) (713 + 20 * xs.length) Q (F0 m 128 ls [])) → W p l e brm_K_init s m args below meth c H locs (68 + 3 * xs.length) (713 + 20 * xs.length) Q (F0 m 104 ls []) := by
  obtain ⟨hx, hb, hml, hown, ht⟩ := id S
  intro d
  induction d with
  | zero =>
    intro xs H locs ls hd hl hP hD hS kk
    refine lv_iload_n hx hb de_K_init_104 rfl (lv_at hl 0 rfl) ?_
    refine lv_iconst (v := 4) hx hb de_K_init_105 (by decide) ?_
    refine lv_icmp_ge (tgt := 128) hx hb de_K_init_106 (by decide) (fun hc => ?_) (fun hc => ?_)
    · exact kk xs H locs ls (by omega) hl hP hD hS
    · exact absurd (by rw [(show (4 : Int32) = nI 4 from rfl), nI_leI] <;> omega) hc
  | succ d ih =>
    intro xs H locs ls hd hl hP hD hS kk
    refine lv_iload_n hx hb de_K_init_104 rfl (lv_at hl 0 rfl) ?_
    refine lv_iconst (v := 4) hx hb de_K_init_105 (by decide) ?_
    refine lv_icmp_ge (tgt := 128) hx hb de_K_init_106 (by decide) (fun hc => ?_) (fun hc => ?_)
    · exact absurd hc (by rw [(show (4 : Int32) = nI 4 from rfl), nI_leI] <;> omega)
    · refine lv_aload_n hx hb de_K_init_109 rfl (lv_at hl 1 rfl) ?_
      refine va_get (D := D) (v := .ref ar) (C := bR_K) (T := bT_K) (N := 9) hx hb ht bin_K hown hK hP 0 rfl rfl 1 (by decide) (ht _ tw_1_172) (fun y9 h9 => by rw [bcl_K] at h9; exact h9) rfl de_K_init_110 ?_
      refine lv_iload_n hx hb de_K_init_113 rfl (lv_at hl 0 rfl) ?_
      refine va_new (ci := 3) (fs := [.null, .int 0, .int 0, .int 0, .long 0, .long 0]) (C := bR_E) (T := bT_E) (N := 6) hx hb ht bin_E bty_E bo_E hown (ht _ tw_1_19) (ht _ tw_1_125) (ht _ tw_1_5) hK hP hD hS hA rfl (by decide) (show 68 + 3 * xs.length + 1 ≤ 84 by omega) (show 713 + 20 * xs.length + 6 ≤ 801 by omega) de_K_init_114 (fun qn H hP hD hS => ?_)
      refine lv_dup hx hb de_K_init_117 rfl ?_
      refine va_callv (va_runIN (As := []) (rest := [.ref qn, .int (nI xs.length), .ref ar]) S (c_E_init l D A ((kw9 h ap ar at_ l4 m4 tr rw_ ls_ cp cr ct q0 fp (fE xs) ft ++ X) ++ xs.flatMap (cE q0)) (kTy cp cr ct q0) qn) ⟨va_cnB 0 ht (gi_in tc_E_init) rfl rfl rfl hN (ht _ tw_1_5) bh_E_init.2 ⟨(Nat.le_of_ble_eq_true rfl), (Nat.le_of_ble_eq_true rfl)⟩, rfl, ht _ tw_1_127⟩ ⟨fun a U g mk h => ⟨h.1, h.2.1, h.2.2.1, va_K.moved (u := U) (U := U.calling g mk a) (Vm.Alike.refl U.vm) h.2.2.2.1, h.2.2.2.2.1, va_Nw.same rfl rfl h.2.2.2.2.2⟩, fun U hU hW => ⟨rfl, fun q h => hA q (Nat.le_trans hS.1 (by rw [← hU]; exact h)), by rw [hU]; exact hP, va_K.moved hW.alike hK, hD, va_Nw.warmM hW hN2⟩⟩ rfl rfl hl.1 rfl (lv_room (Nat.le_of_ble_eq_true rfl)) de_K_init_118 ⟨(show 68 + 3 * xs.length + 1 + 2 ≤ 84 by omega), (show 713 + 20 * xs.length + 6 + 14 ≤ 801 by omega)⟩) hS (fun _ _ h => h) (fun _ h => h) (fun u t H1 locs hth hvm _ hB _ _ hS => ?_)
      obtain ⟨hP, hK1, hD⟩ := hB
      rw [hth] at hP
      have hK := va_K.moved hvm.symm hK1
      generalize H1 = H at hP hS ⊢
      obtain ⟨u1, u2, c1⟩ := u
      have e1 : c1 = q0 := va_same hK (i := 4) (j := 3) rfl rfl
      rw [e1] at hP hD hK
      have hK := hK.sub (tys' := kTy cp cr ct q0) [0, 1, 2, 3] rfl
      have hP : va_P D kCl (((kw9 h ap ar at_ l4 m4 tr rw_ ls_ cp cr ct q0 fp (fE xs) ft ++ X) ++ xs.flatMap (cE q0)) ++ cE q0 (qn, u1, u2)) H := hP
      have hD : va_D A (((kw9 h ap ar at_ l4 m4 tr rw_ ls_ cp cr ct q0 fp (fE xs) ft ++ X) ++ xs.flatMap (cE q0)) ++ cE q0 (qn, u1, u2)) := hD
      refine va_astq (r := (bR_E, bT_E, 6)) hx hb hK hP hD hS 2 1 ((kw9 h ap ar at_ l4 m4 tr rw_ ls_ cp cr ct q0 fp (fE xs) ft ++ X) ++ xs.flatMap (cE q0)).length 3 rfl rfl (ap_at _ _ _) rfl (vp_in_nI (show xs.length < 4 by omega) (by omega)) de_K_init_121 (fun H locs hP hD hS => ?_)
      have hP : va_P D kCl (((kw9 h ap ar at_ l4 m4 tr rw_ ls_ cp cr ct q0 fp (va_up (fE xs) (nI xs.length).toNatClampNeg (some qn)) ft ++ X) ++ xs.flatMap (cE q0)) ++ cE q0 (qn, u1, u2)) H := hP
      have hD : va_D A (((kw9 h ap ar at_ l4 m4 tr rw_ ls_ cp cr ct q0 fp (va_up (fE xs) (nI xs.length).toNatClampNeg (some qn)) ft ++ X) ++ xs.flatMap (cE q0)) ++ cE q0 (qn, u1, u2)) := hD
      have hup : va_up (fE xs) (nI xs.length).toNatClampNeg (some qn) = fE (xs ++ [(qn, u1, u2)]) := by rw [nI_clamp (by omega)]; exact up_map xs (fun t => t.1) (qn, u1, u2)
      rw [hup, List.append_assoc, ← fm_1] at hP hD
      refine lv_iinc (k := 0) (v := nI (xs.length + 1)) (lv' := [(1, .int (nI (xs.length + 1))), (0, .ref h)]) hx hb de_K_init_122 hl rfl ((ii_p1 _).trans (nI_1 _)) (by decide) rfl (fun ls hl => ?_)
      refine lv_goto (tgt := 104) hx hb de_K_init_125 (by decide) ?_
      have hlen : (xs ++ [(qn, u1, u2)]).length = xs.length + 1 := by simp
      refine W.widen (k := 68 + 3 * (xs ++ [(qn, u1, u2)]).length) (n := 713 + 20 * (xs ++ [(qn, u1, u2)]).length) (by omega) (by omega) ?_
      exact ih (xs ++ [(qn, u1, u2)]) H locs ls (by omega) (by rw [hlen]; exact hl) hP hD hS kk
set_option maxHeartbeats 4000000 in
set_option maxRecDepth 100000 in
theorem w_K_init_130 {p : Program} {l : Launch} {e : Env} {s : State} {m : MethodId} {args : Array Value} {below : List Frame} {meth : Method} {c : Code} {Q : State → Prop} {D : va_G} {A : Nat → Prop} {h ap ar at_ l4 m4 tr rw_ ls_ : Nat} {cp cr ct q0 : ClassId} (S : CallFix p m c bc_K_init 2 s args lw_g bR_K) (hA : ∀ q, s.heap.size ≤ q → A q) (hK : va_K D kCl (kTy cp cr ct q0) s) {fp fr ft : Nat → Option Nat} {X : va_W} (hN : va_Nw (.methodLinkNest bR_K 60 by_T_init bR_K) s) : ∀ (d : Nat) (xs : List Nat) (H : Heap) (locs : List Loc) (ls : Array Slot), xs.length + d = 4 → lv_has ls 2 [(1, .int (nI xs.length)), (0, .ref h)] → va_P D kCl ((kw9 h ap ar at_ l4 m4 tr rw_ ls_ cp cr ct q0 fp fr (fT xs) ++ X) ++ xs.flatMap (cT)) H → va_D A ((kw9 h ap ar at_ l4 m4 tr rw_ ls_ cp cr ct q0 fp fr (fT xs) ++ X) ++ xs.flatMap (cT)) → va_S A s.heap H locs → (∀ (xs : List Nat) (H : Heap) (locs : List Loc) (ls : Array Slot), xs.length = 4 → lv_has ls 2 [(1, .int (nI xs.length)), (0, .ref h)] → va_P D kCl ((kw9 h ap ar at_ l4 m4 tr rw_ ls_ cp cr ct q0 fp fr (fT xs) ++ X) ++ xs.flatMap (cT)) H → va_D A ((kw9 h ap ar at_ l4 m4 tr rw_ ls_ cp cr ct q0 fp fr (fT xs) ++ X) ++ xs.flatMap (cT)) → va_S A s.heap H locs → W p l e brm_K_init s m args below meth c H locs (80 + 1 * xs.length) (793 + 2 * xs.length) Q (F0 m 154 ls [])) → W p l e brm_K_init s m args below meth c H locs (80 + 1 * xs.length) (793 + 2 * xs.length) Q (F0 m 130 ls []) := by
  obtain ⟨hx, hb, hml, hown, ht⟩ := id S
  intro d
  induction d with
  | zero =>
    intro xs H locs ls hd hl hP hD hS kk
    refine lv_iload_n hx hb de_K_init_130 rfl (lv_at hl 0 rfl) ?_
    refine lv_iconst (v := 4) hx hb de_K_init_131 (by decide) ?_
    refine lv_icmp_ge (tgt := 154) hx hb de_K_init_132 (by decide) (fun hc => ?_) (fun hc => ?_)
    · exact kk xs H locs ls (by omega) hl hP hD hS
    · exact absurd (by rw [(show (4 : Int32) = nI 4 from rfl), nI_leI] <;> omega) hc
  | succ d ih =>
    intro xs H locs ls hd hl hP hD hS kk
    refine lv_iload_n hx hb de_K_init_130 rfl (lv_at hl 0 rfl) ?_
    refine lv_iconst (v := 4) hx hb de_K_init_131 (by decide) ?_
    refine lv_icmp_ge (tgt := 154) hx hb de_K_init_132 (by decide) (fun hc => ?_) (fun hc => ?_)
    · exact absurd hc (by rw [(show (4 : Int32) = nI 4 from rfl), nI_leI] <;> omega)
    · refine lv_aload_n hx hb de_K_init_135 rfl (lv_at hl 1 rfl) ?_
      refine va_get (D := D) (v := .ref at_) (C := bR_K) (T := bT_K) (N := 9) hx hb ht bin_K hown hK hP 0 rfl rfl 2 (by decide) (ht _ tw_1_173) (fun y9 h9 => by rw [bcl_K] at h9; exact h9) rfl de_K_init_136 ?_
      refine lv_iload_n hx hb de_K_init_139 rfl (lv_at hl 0 rfl) ?_
      refine va_new (ci := 4) (fs := [.int 0, .int 0]) (C := bR_T) (T := bT_T) (N := 2) hx hb ht bin_T bty_T bo_T hown (ht _ tw_1_21) (ht _ tw_1_157) (ht _ tw_1_6) hK hP hD hS hA rfl (by decide) (show 80 + 1 * xs.length + 1 ≤ 84 by omega) (show 793 + 2 * xs.length + 2 ≤ 801 by omega) de_K_init_140 (fun qn H hP hD hS => ?_)
      refine lv_dup hx hb de_K_init_143 rfl ?_
      refine va_callv (va_runIN (As := []) (rest := [.ref qn, .int (nI xs.length), .ref at_]) S (c_T_init l D A ((kw9 h ap ar at_ l4 m4 tr rw_ ls_ cp cr ct q0 fp fr (fT xs) ++ X) ++ xs.flatMap (cT)) (kTy cp cr ct q0) qn) ⟨va_cnB 0 ht (gi_in tc_T_init) rfl rfl rfl hN (ht _ tw_1_6) bh_T_init.2 ⟨(Nat.le_of_ble_eq_true rfl), (Nat.le_of_ble_eq_true rfl)⟩, rfl, ht _ tw_1_159⟩ ⟨fun a U g mk h => ⟨h.1, h.2.1, h.2.2.1, va_K.moved (u := U) (U := U.calling g mk a) (Vm.Alike.refl U.vm) h.2.2.2.1, h.2.2.2.2⟩, fun U hU hW => ⟨rfl, fun q h => hA q (Nat.le_trans hS.1 (by rw [← hU]; exact h)), by rw [hU]; exact hP, va_K.moved hW.alike hK, hD⟩⟩ rfl rfl hl.1 rfl (lv_room (Nat.le_of_ble_eq_true rfl)) de_K_init_144 ⟨(show 80 + 1 * xs.length + 1 + 0 ≤ 84 by omega), (show 793 + 2 * xs.length + 2 + 0 ≤ 801 by omega)⟩) hS (fun _ _ h => h) (fun _ h => h) (fun u t H1 locs hth hvm _ hB _ _ hS => ?_)
      obtain ⟨hP, hK1, hD⟩ := hB
      rw [hth] at hP
      have hK := va_K.moved hvm.symm hK1
      generalize H1 = H at hP hS ⊢
      have hP : va_P D kCl (((kw9 h ap ar at_ l4 m4 tr rw_ ls_ cp cr ct q0 fp fr (fT xs) ++ X) ++ xs.flatMap (cT)) ++ cT qn) H := hP
      have hD : va_D A (((kw9 h ap ar at_ l4 m4 tr rw_ ls_ cp cr ct q0 fp fr (fT xs) ++ X) ++ xs.flatMap (cT)) ++ cT qn) := hD
      refine va_astq (r := (bR_T, bT_T, 2)) hx hb hK hP hD hS 3 2 ((kw9 h ap ar at_ l4 m4 tr rw_ ls_ cp cr ct q0 fp fr (fT xs) ++ X) ++ xs.flatMap (cT)).length 4 rfl rfl (ap_at _ _ _) rfl (vp_in_nI (show xs.length < 4 by omega) (by omega)) de_K_init_147 (fun H locs hP hD hS => ?_)
      have hP : va_P D kCl (((kw9 h ap ar at_ l4 m4 tr rw_ ls_ cp cr ct q0 fp fr (va_up (fT xs) (nI xs.length).toNatClampNeg (some qn)) ++ X) ++ xs.flatMap (cT)) ++ cT qn) H := hP
      have hD : va_D A (((kw9 h ap ar at_ l4 m4 tr rw_ ls_ cp cr ct q0 fp fr (va_up (fT xs) (nI xs.length).toNatClampNeg (some qn)) ++ X) ++ xs.flatMap (cT)) ++ cT qn) := hD
      have hup : va_up (fT xs) (nI xs.length).toNatClampNeg (some qn) = fT (xs ++ [qn]) := by rw [nI_clamp (by omega)]; exact up_map xs (fun t => t) qn
      rw [hup, List.append_assoc, ← fm_1] at hP hD
      refine lv_iinc (k := 0) (v := nI (xs.length + 1)) (lv' := [(1, .int (nI (xs.length + 1))), (0, .ref h)]) hx hb de_K_init_148 hl rfl ((ii_p1 _).trans (nI_1 _)) (by decide) rfl (fun ls hl => ?_)
      refine lv_goto (tgt := 130) hx hb de_K_init_151 (by decide) ?_
      have hlen : (xs ++ [qn]).length = xs.length + 1 := by simp
      refine W.widen (k := 80 + 1 * (xs ++ [qn]).length) (n := 793 + 2 * (xs ++ [qn]).length) (by omega) (by omega) ?_
      exact ih (xs ++ [qn]) H locs ls (by omega) (by rw [hlen]; exact hl) hP hD hS kk
