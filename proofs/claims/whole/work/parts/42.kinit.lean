def kS0 : kS := (fun k n _ => match k with | 2 => nI n | 5 => 1 | 15 => 1 | 20 => 1000 | _ => 0, fun _ _ _ => 0)
def kpos (f n : Nat) : Nat := match f with | 0 => 0 | 1 => 1 | 2 => 2 | 3 => 3 | 4 => (if n = 4 then 4 else 70 + 3 * n) | 5 => (if n = 4 then 5 else 71 + 3 * n) | 6 => 6 | 7 => 7 | 8 => 8 | 9 => 9 + 5 * n | 10 => 10 + 5 * n | 11 => 11 + 5 * n | 12 => 12 + 5 * n | 13 => 13 + 5 * n | 14 => 69 + 3 * n | _ => 81 + n
theorem len12 {α : Type} (l : List α) (h : l.length = 12) : ∃ a0 a1 a2 a3 a4 a5 a6 a7 a8 a9 a10 a11, l = [a0, a1, a2, a3, a4, a5, a6, a7, a8, a9, a10, a11] := by
  match l, h with
  | [a0, a1, a2, a3, a4, a5, a6, a7, a8, a9, a10, a11], _ => exact ⟨a0, a1, a2, a3, a4, a5, a6, a7, a8, a9, a10, a11, rfl⟩
theorem len4 {α : Type} (l : List α) (h : l.length = 4) : ∃ a0 a1 a2 a3, l = [a0, a1, a2, a3] := by
  match l, h with
  | [a0, a1, a2, a3], _ => exact ⟨a0, a1, a2, a3, rfl⟩
theorem vq_congr {c : ClassId} {n : Nat} {f g : Nat → Option Nat} (h : ∀ i, i < n → f i = g i) : vp_cell c (n, .inr (.inr (.inr (.inr f)))) = vp_cell c (n, .inr (.inr (.inr (.inr g)))) := by
  rw [vp_cell_q, vp_cell_q]
  unfold arrV
  congr 2
  funext j
  show va_rf (f j.val) = va_rf (g j.val)
  rw [h j.val j.isLt]
theorem kw_swap {D : va_G} {A : Nat → Prop} {H : Heap} {h ap ar at_ l4 m4 tr rw_ ls_ : Nat} {cp cr ct q0 : ClassId} {fp fr ft gp gr gt : Nat → Option Nat} {X : va_W} (hP : va_P D kCl (kw9 h ap ar at_ l4 m4 tr rw_ ls_ cp cr ct q0 fp fr ft ++ X) H) (hD : va_D A (kw9 h ap ar at_ l4 m4 tr rw_ ls_ cp cr ct q0 fp fr ft ++ X)) (h1 : ∀ i, i < 12 → fp i = gp i) (h2 : ∀ i, i < 4 → fr i = gr i) (h3 : ∀ i, i < 4 → ft i = gt i) : va_P D kCl (kw9 h ap ar at_ l4 m4 tr rw_ ls_ cp cr ct q0 gp gr gt ++ X) H ∧ va_D A (kw9 h ap ar at_ l4 m4 tr rw_ ls_ cp cr ct q0 gp gr gt ++ X) := by
  have key : ∀ (k : Nat) (q : Nat × va_E), (kw9 h ap ar at_ l4 m4 tr rw_ ls_ cp cr ct q0 gp gr gt ++ X)[k]? = some q → ∃ q2, (kw9 h ap ar at_ l4 m4 tr rw_ ls_ cp cr ct q0 fp fr ft ++ X)[k]? = some q2 ∧ q2.1 = q.1 ∧ (va_at D kCl q2 H → va_at D kCl q H) := by
    intro k q hk
    match k, hk with
    | 0, hk => exact ⟨q, hk, rfl, id⟩
    | 1, hk => cases hk; exact ⟨_, rfl, rfl, fun z => (show H[ap]? = some (vp_cell cp (12, .inr (.inr (.inr (.inr gp))))) from vq_congr h1 ▸ z)⟩
    | 2, hk => cases hk; exact ⟨_, rfl, rfl, fun z => (show H[ar]? = some (vp_cell cr (4, .inr (.inr (.inr (.inr gr))))) from vq_congr h2 ▸ z)⟩
    | 3, hk => cases hk; exact ⟨_, rfl, rfl, fun z => (show H[at_]? = some (vp_cell ct (4, .inr (.inr (.inr (.inr gt))))) from vq_congr h3 ▸ z)⟩
    | k + 4, hk => exact ⟨q, hk, rfl, id⟩
  refine ⟨fun k q hk => ?_, fun i j p q hp hq e => ?_, fun k q hk => ?_⟩
  · obtain ⟨q2, z1, -, z3⟩ := key k q hk
    exact z3 (hP k q2 z1)
  · obtain ⟨p2, y1, y2, -⟩ := key i p hp
    obtain ⟨q2, z1, z2, -⟩ := key j q hq
    exact hD.1 i j p2 q2 y1 z1 (y2.trans (e.trans z2.symm))
  · obtain ⟨q2, z1, z2, -⟩ := key k q hk
    rw [← z2]
    exact hD.2 k q2 z1
set_option maxHeartbeats 4000000 in
set_option maxRecDepth 100000 in
theorem k_fin {D : va_G} {A : Nat → Prop} {H : Heap} {h ap ar at_ l4 m4 tr rw_ ls_ : Nat} {cp cr ct q0 : ClassId} {ps : List t6} {rs : List (Nat × Nat × Nat)} {ts : List Nat} (hps : ps.length = 12) (hnum : ∀ (i : Nat) (t : t6), ps[i]? = some t → t.1 = i) (hrs : rs.length = 4) (hts : ts.length = 4) (hP : va_P D kCl ((kw9 h ap ar at_ l4 m4 tr rw_ ls_ cp cr ct q0 (fP ps) (fE rs) (fT ts) ++ (ps.flatMap (cP q0) ++ rs.flatMap (cE q0))) ++ ts.flatMap cT) H) (hD : va_D A ((kw9 h ap ar at_ l4 m4 tr rw_ ls_ cp cr ct q0 (fP ps) (fE rs) (fT ts) ++ (ps.flatMap (cP q0) ++ rs.flatMap (cE q0))) ++ ts.flatMap cT)) : ∃ (aa : Nat → Nat → Nat) (q : Nat → ClassId), aa 0 0 = h ∧ wJ kC aa ∧ va_P D kCl (kW aa q kS0) H ∧ (∀ s, va_K D kCl (kTy cp cr ct q0) s → va_K D kCl (kT q) s) ∧ ∀ a, wA kC aa a → A a := by
  obtain ⟨p0, p1, p2, p3, p4, p5, p6, p7, p8, p9, p10, p11, rfl⟩ := len12 ps hps
  obtain ⟨r0, r1, r2, r3, rfl⟩ := len4 rs hrs
  obtain ⟨t0, t1, t2, t3, rfl⟩ := len4 ts hts
  obtain ⟨n0, a0, b0, c0, d0, e0⟩ := p0
  obtain ⟨n1, a1, b1, c1, d1, e1⟩ := p1
  obtain ⟨n2, a2, b2, c2, d2, e2⟩ := p2
  obtain ⟨n3, a3, b3, c3, d3, e3⟩ := p3
  obtain ⟨n4, a4, b4, c4, d4, e4⟩ := p4
  obtain ⟨n5, a5, b5, c5, d5, e5⟩ := p5
  obtain ⟨n6, a6, b6, c6, d6, e6⟩ := p6
  obtain ⟨n7, a7, b7, c7, d7, e7⟩ := p7
  obtain ⟨n8, a8, b8, c8, d8, e8⟩ := p8
  obtain ⟨n9, a9, b9, c9, d9, e9⟩ := p9
  obtain ⟨n10, a10, b10, c10, d10, e10⟩ := p10
  obtain ⟨n11, a11, b11, c11, d11, e11⟩ := p11
  have z0 : n0 = 0 := hnum 0 _ rfl
  subst z0
  have z1 : n1 = 1 := hnum 1 _ rfl
  subst z1
  have z2 : n2 = 2 := hnum 2 _ rfl
  subst z2
  have z3 : n3 = 3 := hnum 3 _ rfl
  subst z3
  have z4 : n4 = 4 := hnum 4 _ rfl
  subst z4
  have z5 : n5 = 5 := hnum 5 _ rfl
  subst z5
  have z6 : n6 = 6 := hnum 6 _ rfl
  subst z6
  have z7 : n7 = 7 := hnum 7 _ rfl
  subst z7
  have z8 : n8 = 8 := hnum 8 _ rfl
  subst z8
  have z9 : n9 = 9 := hnum 9 _ rfl
  subst z9
  have z10 : n10 = 10 := hnum 10 _ rfl
  subst z10
  have z11 : n11 = 11 := hnum 11 _ rfl
  subst z11
  obtain ⟨x0, y0, w0⟩ := r0
  obtain ⟨x1, y1, w1⟩ := r1
  obtain ⟨x2, y2, w2⟩ := r2
  obtain ⟨x3, y3, w3⟩ := r3
  let aa : Nat → Nat → Nat := fun f n => ([h, ap, ar, at_, l4, m4, tr, rw_, ls_, a0, b0, c0, d0, e0, a1, b1, c1, d1, e1, a2, b2, c2, d2, e2, a3, b3, c3, d3, e3, a4, b4, c4, d4, e4, a5, b5, c5, d5, e5, a6, b6, c6, d6, e6, a7, b7, c7, d7, e7, a8, b8, c8, d8, e8, a9, b9, c9, d9, e9, a10, b10, c10, d10, e10, a11, b11, c11, d11, e11, x0, y0, w0, x1, y1, w1, x2, y2, w2, x3, y3, w3, t0, t1, t2, t3] : List Nat).getD (kpos f n) 0
  let q : Nat → ClassId := fun k => match k with | 0 => q0 | 1 => cp | 2 => cr | _ => ct
  rw [List.append_assoc] at hP hD
  obtain ⟨hP, hD⟩ := kw_swap (gp := fun j => some (aa 9 j)) (gr := fun j => some (aa 14 j)) (gt := fun j => some (aa 15 j)) hP hD (fun i hi => by match i, hi with | 0, _ => rfl | 1, _ => rfl | 2, _ => rfl | 3, _ => rfl | 4, _ => rfl | 5, _ => rfl | 6, _ => rfl | 7, _ => rfl | 8, _ => rfl | 9, _ => rfl | 10, _ => rfl | 11, _ => rfl) (fun i hi => by match i, hi with | 0, _ => rfl | 1, _ => rfl | 2, _ => rfl | 3, _ => rfl) (fun i hi => by match i, hi with | 0, _ => rfl | 1, _ => rfl | 2, _ => rfl | 3, _ => rfl)
  have hP2 : va_P D kCl (kW aa q kS0) H := hP
  have hD2 : va_D A (kW aa q kS0) := hD
  refine ⟨aa, q, rfl, fun k k' f n f' n' h1 h2 e => hD2.1 k k' _ _ (wmap_at h1) (wmap_at h2) e, hP2, fun s hK => hK.sub [3, 0, 1, 2] rfl, ?_⟩
  rintro a ⟨k, f, n, h1, rfl⟩
  exact hD2.2 k _ (wmap_at h1)
set_option maxHeartbeats 4000000 in
set_option maxRecDepth 100000 in
theorem c_K_init (l : Launch) (D : va_G) (A : Nat → Prop) (h : Nat) : Met l by_K_init (.code by_K_init bc_K_init 2 none :: lw_g) brm_K_init (va_Pc [.ref h] (fun U => (∀ q, U.heap.size ≤ q → A q) ∧ va_P D kCl [(h, .inr (0, [.null, .null, .null, .null, .null, .null, .int 0, .long 0, .long 0]))] U.heap ∧ va_K D kCl [] U ∧ va_D A [(h, .inr (0, [.null, .null, .null, .null, .null, .null, .int 0, .long 0, .long 0]))] ∧ va_AO bR_P U ∧ va_AO bR_E U ∧ va_AO bR_T U ∧ va_Nw (.methodLinkNest bR_K 29 by_L_init bR_K) U ∧ va_Nw (.methodLinkNest bR_K 36 by_C_init bR_K) U ∧ va_Nw (.methodLinkNest bR_K 59 by_E_init bR_K) U ∧ va_Nw (.methodLinkNest bR_K 60 by_T_init bR_K) U ∧ va_Nw (.methodLinkNest bR_E 9 by_L_init bR_K) U)) (va_Qv (fun u : (Nat → Nat → Nat) × (Nat → ClassId) => u.1 0 0 = h ∧ wJ kC u.1) (fun u t => va_P D kCl (kW u.1 u.2 kS0) t.heap ∧ va_K D kCl (kT u.2) t ∧ ∀ a, wA kC u.1 a → A a) A) 84 801 A := by
  refine Met.ofW (cc := bc_K_init) (maxL := 2) (ret := none) (by decide) rfl ?_
  intro p e s m args below meth c s₁ B hml hv
  obtain ⟨rfl, hA, hP, hK, hD, hN⟩ := hv
  have hx := B.exec
  have hb := B.bytes
  have hr := B.returns
  have ht : ∀ w ∈ lw_g, w.before ([.ref h] : List Value).toArray s = true := fun w h => atoms_spec (ws := .code by_K_init bc_K_init 2 none :: lw_g) B.pre w (List.mem_cons_of_mem _ h)
  have hown : s.vm.findClass bR_K = some m.cls := findClass_of_methodNamed B.named
  have hlocks := B.notSynchronized
  have hin : meth.name = "<init>" := (name_of_methodNamed B.named B.method).1
  have S : CallFix p m c bc_K_init 2 s ([.ref h] : List Value).toArray lw_g bR_K := ⟨hx, hb, hml, hown, ht⟩
  have hS : va_S A s.heap s.heap [] := va_S.rf
  have hl := lv_entry ([.ref h]) (n := 2) (Nat.le_of_ble_eq_true rfl)
  rw [lg_entry_eq]
  generalize (lg_sl ([.ref h]) ++ List.replicate (2 - (lg_sl ([.ref h])).length) Slot.unset).toArray = ls at hl ⊢
  have hl : lv_has ls 2 [(0, .ref h)] := hl
  obtain ⟨hO1, hO2, hO3, hN1, hN2, hN3, hN4, hN5⟩ := hN
  have hP : va_P D kCl ([(h, .inr (0, [.null, .null, .null, .null, .null, .null, .int 0, .long 0, .long 0]))]) s.heap := hP
  refine lv_aload_n hx hb de_K_init_0 rfl (lv_at hl 0 rfl) ?_
  refine W.objInit hx hb hown (ht _ tw_1_14) (ht _ tw_1_15) (ht _ tc_obj) rfl (by rw [hml]; exact hl.1) rfl de_K_init_1 (Nat.le_of_ble_eq_true rfl) (Nat.le_of_ble_eq_true rfl) ?_
  refine W.eq (g2 := F0 m 4 ls []) rfl ?_
  refine lv_aload_n hx hb de_K_init_4 rfl (lv_at hl 0 rfl) ?_
  refine lv_bipush (v := 12) hx hb de_K_init_5 (by decide) ?_
  refine va_newq (C := bR_P) (N' := 12) hx hb hown (ht _ tw_1_17) hO1 hK hP hD hS hA (by decide) (by decide) (by decide) (Nat.le_of_ble_eq_true rfl) (Nat.le_of_ble_eq_true rfl) de_K_init_7 (fun ap cp H hK hP hD hS => ?_)
  have hK : va_K D kCl [(cp, .object bR_P)] s := hK
  have hP : va_P D kCl ([(h, .inr (0, [.null, .null, .null, .null, .null, .null, .int 0, .long 0, .long 0])), (ap, .inl (cp, 12, .inr (.inr (.inr (.inr (fun _ => none))))))]) H := hP
  have hD : va_D A ([(h, .inr (0, [.null, .null, .null, .null, .null, .null, .int 0, .long 0, .long 0])), (ap, .inl (cp, 12, .inr (.inr (.inr (.inr (fun _ => none))))))]) := hD
  refine va_putF (D := D) (ci := 0) (v := .ref ap) (ty := .array (.object "BatonKernel$Proc")) (C := bR_K) (T := bT_K) (N := 9) hx hb ht bin_K bty_K bo_K bn_K hown hK hP hD hS 0 rfl rfl 0 (by decide) (ht _ tw_1_171) (fun _ h9 => h9) rfl hin rfl (by decide +kernel) rfl rfl (Nat.le_of_ble_eq_true rfl) de_K_init_10 (fun H locs hP hD hS => ?_)
  have hP : va_P D kCl ([(h, .inr (0, [.ref ap, .null, .null, .null, .null, .null, .int 0, .long 0, .long 0])), (ap, .inl (cp, 12, .inr (.inr (.inr (.inr (fun _ => none))))))]) H := hP
  have hD : va_D A ([(h, .inr (0, [.ref ap, .null, .null, .null, .null, .null, .int 0, .long 0, .long 0])), (ap, .inl (cp, 12, .inr (.inr (.inr (.inr (fun _ => none))))))]) := hD
  refine lv_aload_n hx hb de_K_init_13 rfl (lv_at hl 0 rfl) ?_
  refine lv_iconst (v := 4) hx hb de_K_init_14 (by decide) ?_
  refine va_newq (C := bR_E) (N' := 4) hx hb hown (ht _ tw_1_19) hO2 hK hP hD hS hA (by decide) (by decide) (by decide) (Nat.le_of_ble_eq_true rfl) (Nat.le_of_ble_eq_true rfl) de_K_init_15 (fun ar cr H hK hP hD hS => ?_)
  have hK : va_K D kCl [(cp, .object bR_P), (cr, .object bR_E)] s := hK
  have hP : va_P D kCl ([(h, .inr (0, [.ref ap, .null, .null, .null, .null, .null, .int 0, .long 0, .long 0])), (ap, .inl (cp, 12, .inr (.inr (.inr (.inr (fun _ => none)))))), (ar, .inl (cr, 4, .inr (.inr (.inr (.inr (fun _ => none))))))]) H := hP
  have hD : va_D A ([(h, .inr (0, [.ref ap, .null, .null, .null, .null, .null, .int 0, .long 0, .long 0])), (ap, .inl (cp, 12, .inr (.inr (.inr (.inr (fun _ => none)))))), (ar, .inl (cr, 4, .inr (.inr (.inr (.inr (fun _ => none))))))]) := hD
  refine va_putF (D := D) (ci := 0) (v := .ref ar) (ty := .array (.object "BatonKernel$Resource")) (C := bR_K) (T := bT_K) (N := 9) hx hb ht bin_K bty_K bo_K bn_K hown hK hP hD hS 0 rfl rfl 1 (by decide) (ht _ tw_1_172) (fun _ h9 => h9) rfl hin rfl (by decide +kernel) rfl rfl (Nat.le_of_ble_eq_true rfl) de_K_init_18 (fun H locs hP hD hS => ?_)
  have hP : va_P D kCl ([(h, .inr (0, [.ref ap, .ref ar, .null, .null, .null, .null, .int 0, .long 0, .long 0])), (ap, .inl (cp, 12, .inr (.inr (.inr (.inr (fun _ => none)))))), (ar, .inl (cr, 4, .inr (.inr (.inr (.inr (fun _ => none))))))]) H := hP
  have hD : va_D A ([(h, .inr (0, [.ref ap, .ref ar, .null, .null, .null, .null, .int 0, .long 0, .long 0])), (ap, .inl (cp, 12, .inr (.inr (.inr (.inr (fun _ => none)))))), (ar, .inl (cr, 4, .inr (.inr (.inr (.inr (fun _ => none))))))]) := hD
  refine lv_aload_n hx hb de_K_init_21 rfl (lv_at hl 0 rfl) ?_
  refine lv_iconst (v := 4) hx hb de_K_init_22 (by decide) ?_
  refine va_newq (C := bR_T) (N' := 4) hx hb hown (ht _ tw_1_21) hO3 hK hP hD hS hA (by decide) (by decide) (by decide) (Nat.le_of_ble_eq_true rfl) (Nat.le_of_ble_eq_true rfl) de_K_init_23 (fun at_ ct H hK hP hD hS => ?_)
  have hK : va_K D kCl [(cp, .object bR_P), (cr, .object bR_E), (ct, .object bR_T)] s := hK
  have hP : va_P D kCl ([(h, .inr (0, [.ref ap, .ref ar, .null, .null, .null, .null, .int 0, .long 0, .long 0])), (ap, .inl (cp, 12, .inr (.inr (.inr (.inr (fun _ => none)))))), (ar, .inl (cr, 4, .inr (.inr (.inr (.inr (fun _ => none)))))), (at_, .inl (ct, 4, .inr (.inr (.inr (.inr (fun _ => none))))))]) H := hP
  have hD : va_D A ([(h, .inr (0, [.ref ap, .ref ar, .null, .null, .null, .null, .int 0, .long 0, .long 0])), (ap, .inl (cp, 12, .inr (.inr (.inr (.inr (fun _ => none)))))), (ar, .inl (cr, 4, .inr (.inr (.inr (.inr (fun _ => none)))))), (at_, .inl (ct, 4, .inr (.inr (.inr (.inr (fun _ => none))))))]) := hD
  refine va_putF (D := D) (ci := 0) (v := .ref at_) (ty := .array (.object "BatonKernel$Tank")) (C := bR_K) (T := bT_K) (N := 9) hx hb ht bin_K bty_K bo_K bn_K hown hK hP hD hS 0 rfl rfl 2 (by decide) (ht _ tw_1_173) (fun _ h9 => h9) rfl hin rfl (by decide +kernel) rfl rfl (Nat.le_of_ble_eq_true rfl) de_K_init_26 (fun H locs hP hD hS => ?_)
  have hP : va_P D kCl ([(h, .inr (0, [.ref ap, .ref ar, .ref at_, .null, .null, .null, .int 0, .long 0, .long 0])), (ap, .inl (cp, 12, .inr (.inr (.inr (.inr (fun _ => none)))))), (ar, .inl (cr, 4, .inr (.inr (.inr (.inr (fun _ => none)))))), (at_, .inl (ct, 4, .inr (.inr (.inr (.inr (fun _ => none))))))]) H := hP
  have hD : va_D A ([(h, .inr (0, [.ref ap, .ref ar, .ref at_, .null, .null, .null, .int 0, .long 0, .long 0])), (ap, .inl (cp, 12, .inr (.inr (.inr (.inr (fun _ => none)))))), (ar, .inl (cr, 4, .inr (.inr (.inr (.inr (fun _ => none)))))), (at_, .inl (ct, 4, .inr (.inr (.inr (.inr (fun _ => none))))))]) := hD
  refine lv_aload_n hx hb de_K_init_29 rfl (lv_at hl 0 rfl) ?_
  refine va_new (ci := 2) (fs := [.null, .int 0]) (C := bR_L) (T := bT_L) (N := 2) hx hb ht bin_L bty_L bo_L hown (ht _ tw_1_23) (ht _ tw_1_24) (ht _ tw_1_2) hK hP hD hS hA rfl (by decide) (Nat.le_of_ble_eq_true rfl) (Nat.le_of_ble_eq_true rfl) de_K_init_30 (fun l4 H hP hD hS => ?_)
  refine lv_dup hx hb de_K_init_33 rfl ?_
  refine va_callv (va_runIN (As := []) (rest := [.ref l4, .ref h]) S (c_L_init l D A ([(h, .inr (0, [.ref ap, .ref ar, .ref at_, .null, .null, .null, .int 0, .long 0, .long 0])), (ap, .inl (cp, 12, .inr (.inr (.inr (.inr (fun _ => none)))))), (ar, .inl (cr, 4, .inr (.inr (.inr (.inr (fun _ => none)))))), (at_, .inl (ct, 4, .inr (.inr (.inr (.inr (fun _ => none))))))]) [(cp, .object bR_P), (cr, .object bR_E), (ct, .object bR_T)] l4) ⟨va_cnB 0 ht (gi_in tc_L_init) rfl rfl rfl hN1 (ht _ tw_1_2) bh_L_init.2 ⟨(Nat.le_of_ble_eq_true rfl), (Nat.le_of_ble_eq_true rfl)⟩, rfl, ht _ tw_1_26⟩ ⟨fun a U g mk h => ⟨h.1, h.2.1, h.2.2.1, va_K.moved (u := U) (U := U.calling g mk a) (Vm.Alike.refl U.vm) h.2.2.2.1, h.2.2.2.2⟩, fun U hU hW => ⟨rfl, fun q h => hA q (Nat.le_trans hS.1 (by rw [← hU]; exact h)), by rw [hU]; exact hP, va_K.moved hW.alike hK, hD⟩⟩ rfl rfl hl.1 rfl (lv_room (Nat.le_of_ble_eq_true rfl)) de_K_init_34 ⟨(Nat.le_of_ble_eq_true rfl), (Nat.le_of_ble_eq_true rfl)⟩) hS (fun _ _ h => h) (fun _ h => h) (fun u34 t H1 locs hth hvm _ hB _ _ hS => ?_)
  obtain ⟨hP, hK1, hD⟩ := hB
  rw [hth] at hP
  have hK := va_K.moved hvm.symm hK1
  generalize H1 = H at hP hS ⊢
  obtain ⟨m4, q0⟩ := u34
  have hK : va_K D kCl (kTy cp cr ct q0) s := hK
  have hP : va_P D kCl ([(h, .inr (0, [.ref ap, .ref ar, .ref at_, .null, .null, .null, .int 0, .long 0, .long 0])), (ap, .inl (cp, 12, .inr (.inr (.inr (.inr (fun _ => none)))))), (ar, .inl (cr, 4, .inr (.inr (.inr (.inr (fun _ => none)))))), (at_, .inl (ct, 4, .inr (.inr (.inr (.inr (fun _ => none)))))), (l4, .inr (2, [.ref m4, .int 0])), (m4, .inl (q0, 12, .inl (fun _ => 0)))]) H := hP
  have hD : va_D A ([(h, .inr (0, [.ref ap, .ref ar, .ref at_, .null, .null, .null, .int 0, .long 0, .long 0])), (ap, .inl (cp, 12, .inr (.inr (.inr (.inr (fun _ => none)))))), (ar, .inl (cr, 4, .inr (.inr (.inr (.inr (fun _ => none)))))), (at_, .inl (ct, 4, .inr (.inr (.inr (.inr (fun _ => none)))))), (l4, .inr (2, [.ref m4, .int 0])), (m4, .inl (q0, 12, .inl (fun _ => 0)))]) := hD
  refine va_putF (D := D) (ci := 0) (v := .ref l4) (ty := .object "BatonKernel$Line") (C := bR_K) (T := bT_K) (N := 9) hx hb ht bin_K bty_K bo_K bn_K hown hK hP hD hS 0 rfl rfl 3 (by decide) (ht _ tw_1_174) (fun _ h9 => h9) rfl hin rfl (by decide +kernel) rfl rfl (Nat.le_of_ble_eq_true rfl) de_K_init_37 (fun H locs hP hD hS => ?_)
  have hP : va_P D kCl ([(h, .inr (0, [.ref ap, .ref ar, .ref at_, .ref l4, .null, .null, .int 0, .long 0, .long 0])), (ap, .inl (cp, 12, .inr (.inr (.inr (.inr (fun _ => none)))))), (ar, .inl (cr, 4, .inr (.inr (.inr (.inr (fun _ => none)))))), (at_, .inl (ct, 4, .inr (.inr (.inr (.inr (fun _ => none)))))), (l4, .inr (2, [.ref m4, .int 0])), (m4, .inl (q0, 12, .inl (fun _ => 0)))]) H := hP
  have hD : va_D A ([(h, .inr (0, [.ref ap, .ref ar, .ref at_, .ref l4, .null, .null, .int 0, .long 0, .long 0])), (ap, .inl (cp, 12, .inr (.inr (.inr (.inr (fun _ => none)))))), (ar, .inl (cr, 4, .inr (.inr (.inr (.inr (fun _ => none)))))), (at_, .inl (ct, 4, .inr (.inr (.inr (.inr (fun _ => none)))))), (l4, .inr (2, [.ref m4, .int 0])), (m4, .inl (q0, 12, .inl (fun _ => 0)))]) := hD
  refine lv_aload_n hx hb de_K_init_40 rfl (lv_at hl 0 rfl) ?_
  refine va_new (ci := 5) (fs := [.null, .int 0, .int 0]) (C := bR_C) (T := bT_C) (N := 3) hx hb ht bin_C bty_C bo_C hown (ht _ tw_1_39) (ht _ tw_1_40) (ht _ tw_1_3) hK hP hD hS hA rfl (by decide) (Nat.le_of_ble_eq_true rfl) (Nat.le_of_ble_eq_true rfl) de_K_init_41 (fun tr H hP hD hS => ?_)
  refine lv_dup hx hb de_K_init_44 rfl ?_
  refine va_callv (va_runIN (As := []) (rest := [.ref tr, .ref h]) S (c_C_init l D A ([(h, .inr (0, [.ref ap, .ref ar, .ref at_, .ref l4, .null, .null, .int 0, .long 0, .long 0])), (ap, .inl (cp, 12, .inr (.inr (.inr (.inr (fun _ => none)))))), (ar, .inl (cr, 4, .inr (.inr (.inr (.inr (fun _ => none)))))), (at_, .inl (ct, 4, .inr (.inr (.inr (.inr (fun _ => none)))))), (l4, .inr (2, [.ref m4, .int 0])), (m4, .inl (q0, 12, .inl (fun _ => 0)))]) (kTy cp cr ct q0) tr) ⟨va_cnB 0 ht (gi_in tc_C_init) rfl rfl rfl hN2 (ht _ tw_1_3) bh_C_init.2 ⟨(Nat.le_of_ble_eq_true rfl), (Nat.le_of_ble_eq_true rfl)⟩, rfl, ht _ tw_1_42⟩ ⟨fun a U g mk h => ⟨h.1, h.2.1, h.2.2.1, va_K.moved (u := U) (U := U.calling g mk a) (Vm.Alike.refl U.vm) h.2.2.2.1, h.2.2.2.2⟩, fun U hU hW => ⟨rfl, fun q h => hA q (Nat.le_trans hS.1 (by rw [← hU]; exact h)), by rw [hU]; exact hP, va_K.moved hW.alike hK, hD⟩⟩ rfl rfl hl.1 rfl (lv_room (Nat.le_of_ble_eq_true rfl)) de_K_init_45 ⟨(Nat.le_of_ble_eq_true rfl), (Nat.le_of_ble_eq_true rfl)⟩) hS (fun _ _ h => h) (fun _ h => h) (fun u45 t H1 locs hth hvm _ hB _ _ hS => ?_)
  obtain ⟨hP, hK1, hD⟩ := hB
  rw [hth] at hP
  have hK := va_K.moved hvm.symm hK1
  generalize H1 = H at hP hS ⊢
  obtain ⟨rw_, cc1⟩ := u45
  have e45 : cc1 = q0 := va_same hK (i := 4) (j := 3) rfl rfl
  rw [e45] at hP hD hK
  have hK := hK.sub (tys' := kTy cp cr ct q0) [0, 1, 2, 3] rfl
  have hP : va_P D kCl ([(h, .inr (0, [.ref ap, .ref ar, .ref at_, .ref l4, .null, .null, .int 0, .long 0, .long 0])), (ap, .inl (cp, 12, .inr (.inr (.inr (.inr (fun _ => none)))))), (ar, .inl (cr, 4, .inr (.inr (.inr (.inr (fun _ => none)))))), (at_, .inl (ct, 4, .inr (.inr (.inr (.inr (fun _ => none)))))), (l4, .inr (2, [.ref m4, .int 0])), (m4, .inl (q0, 12, .inl (fun _ => 0))), (tr, .inr (5, [.ref rw_, .int 0, .int 0])), (rw_, .inl (q0, 64, .inl (fun _ => 0)))]) H := hP
  have hD : va_D A ([(h, .inr (0, [.ref ap, .ref ar, .ref at_, .ref l4, .null, .null, .int 0, .long 0, .long 0])), (ap, .inl (cp, 12, .inr (.inr (.inr (.inr (fun _ => none)))))), (ar, .inl (cr, 4, .inr (.inr (.inr (.inr (fun _ => none)))))), (at_, .inl (ct, 4, .inr (.inr (.inr (.inr (fun _ => none)))))), (l4, .inr (2, [.ref m4, .int 0])), (m4, .inl (q0, 12, .inl (fun _ => 0))), (tr, .inr (5, [.ref rw_, .int 0, .int 0])), (rw_, .inl (q0, 64, .inl (fun _ => 0)))]) := hD
  refine va_putF (D := D) (ci := 0) (v := .ref tr) (ty := .object "BatonKernel$Trace") (C := bR_K) (T := bT_K) (N := 9) hx hb ht bin_K bty_K bo_K bn_K hown hK hP hD hS 0 rfl rfl 4 (by decide) (ht _ tw_1_175) (fun _ h9 => h9) rfl hin rfl (by decide +kernel) rfl rfl (Nat.le_of_ble_eq_true rfl) de_K_init_48 (fun H locs hP hD hS => ?_)
  have hP : va_P D kCl ([(h, .inr (0, [.ref ap, .ref ar, .ref at_, .ref l4, .ref tr, .null, .int 0, .long 0, .long 0])), (ap, .inl (cp, 12, .inr (.inr (.inr (.inr (fun _ => none)))))), (ar, .inl (cr, 4, .inr (.inr (.inr (.inr (fun _ => none)))))), (at_, .inl (ct, 4, .inr (.inr (.inr (.inr (fun _ => none)))))), (l4, .inr (2, [.ref m4, .int 0])), (m4, .inl (q0, 12, .inl (fun _ => 0))), (tr, .inr (5, [.ref rw_, .int 0, .int 0])), (rw_, .inl (q0, 64, .inl (fun _ => 0)))]) H := hP
  have hD : va_D A ([(h, .inr (0, [.ref ap, .ref ar, .ref at_, .ref l4, .ref tr, .null, .int 0, .long 0, .long 0])), (ap, .inl (cp, 12, .inr (.inr (.inr (.inr (fun _ => none)))))), (ar, .inl (cr, 4, .inr (.inr (.inr (.inr (fun _ => none)))))), (at_, .inl (ct, 4, .inr (.inr (.inr (.inr (fun _ => none)))))), (l4, .inr (2, [.ref m4, .int 0])), (m4, .inl (q0, 12, .inl (fun _ => 0))), (tr, .inr (5, [.ref rw_, .int 0, .int 0])), (rw_, .inl (q0, 64, .inl (fun _ => 0)))]) := hD
  refine lv_aload_n hx hb de_K_init_51 rfl (lv_at hl 0 rfl) ?_
  refine lv_bipush (v := 12) hx hb de_K_init_52 (by decide) ?_
  refine va_newa (atype := .int) (ty := .int) (N' := 12) (a0 := (12, .inl (fun _ => 0))) hx hb (ht _ tw_1_38) rfl hK hP hD hS hA (fun cA => rfl) (by decide) (by decide) (by decide) (Nat.le_of_ble_eq_true rfl) (Nat.le_of_ble_eq_true rfl) de_K_init_54 (fun ls_ cc2 H hK hP hD hS => ?_)
  have e54 : cc2 = q0 := va_same hK (i := 4) (j := 3) rfl rfl
  rw [e54] at hP hD hK
  have hK := hK.sub (tys' := kTy cp cr ct q0) [0, 1, 2, 3] rfl
  have hP : va_P D kCl ([(h, .inr (0, [.ref ap, .ref ar, .ref at_, .ref l4, .ref tr, .null, .int 0, .long 0, .long 0])), (ap, .inl (cp, 12, .inr (.inr (.inr (.inr (fun _ => none)))))), (ar, .inl (cr, 4, .inr (.inr (.inr (.inr (fun _ => none)))))), (at_, .inl (ct, 4, .inr (.inr (.inr (.inr (fun _ => none)))))), (l4, .inr (2, [.ref m4, .int 0])), (m4, .inl (q0, 12, .inl (fun _ => 0))), (tr, .inr (5, [.ref rw_, .int 0, .int 0])), (rw_, .inl (q0, 64, .inl (fun _ => 0))), (ls_, .inl (q0, 12, .inl (fun _ => 0)))]) H := hP
  have hD : va_D A ([(h, .inr (0, [.ref ap, .ref ar, .ref at_, .ref l4, .ref tr, .null, .int 0, .long 0, .long 0])), (ap, .inl (cp, 12, .inr (.inr (.inr (.inr (fun _ => none)))))), (ar, .inl (cr, 4, .inr (.inr (.inr (.inr (fun _ => none)))))), (at_, .inl (ct, 4, .inr (.inr (.inr (.inr (fun _ => none)))))), (l4, .inr (2, [.ref m4, .int 0])), (m4, .inl (q0, 12, .inl (fun _ => 0))), (tr, .inr (5, [.ref rw_, .int 0, .int 0])), (rw_, .inl (q0, 64, .inl (fun _ => 0))), (ls_, .inl (q0, 12, .inl (fun _ => 0)))]) := hD
  refine va_putF (D := D) (ci := 0) (v := .ref ls_) (ty := .array .int) (C := bR_K) (T := bT_K) (N := 9) hx hb ht bin_K bty_K bo_K bn_K hown hK hP hD hS 0 rfl rfl 5 (by decide) (ht _ tw_1_176) (fun _ h9 => h9) rfl hin rfl (by decide +kernel) rfl rfl (Nat.le_of_ble_eq_true rfl) de_K_init_56 (fun H locs hP hD hS => ?_)
  have hP : va_P D kCl ([(h, .inr (0, [.ref ap, .ref ar, .ref at_, .ref l4, .ref tr, .ref ls_, .int 0, .long 0, .long 0])), (ap, .inl (cp, 12, .inr (.inr (.inr (.inr (fun _ => none)))))), (ar, .inl (cr, 4, .inr (.inr (.inr (.inr (fun _ => none)))))), (at_, .inl (ct, 4, .inr (.inr (.inr (.inr (fun _ => none)))))), (l4, .inr (2, [.ref m4, .int 0])), (m4, .inl (q0, 12, .inl (fun _ => 0))), (tr, .inr (5, [.ref rw_, .int 0, .int 0])), (rw_, .inl (q0, 64, .inl (fun _ => 0))), (ls_, .inl (q0, 12, .inl (fun _ => 0)))]) H := hP
  have hD : va_D A ([(h, .inr (0, [.ref ap, .ref ar, .ref at_, .ref l4, .ref tr, .ref ls_, .int 0, .long 0, .long 0])), (ap, .inl (cp, 12, .inr (.inr (.inr (.inr (fun _ => none)))))), (ar, .inl (cr, 4, .inr (.inr (.inr (.inr (fun _ => none)))))), (at_, .inl (ct, 4, .inr (.inr (.inr (.inr (fun _ => none)))))), (l4, .inr (2, [.ref m4, .int 0])), (m4, .inl (q0, 12, .inl (fun _ => 0))), (tr, .inr (5, [.ref rw_, .int 0, .int 0])), (rw_, .inl (q0, 64, .inl (fun _ => 0))), (ls_, .inl (q0, 12, .inl (fun _ => 0)))]) := hD
  refine lv_aload_n hx hb de_K_init_59 rfl (lv_at hl 0 rfl) ?_
  refine lv_iconst (v := 0) hx hb de_K_init_60 (by decide) ?_
  refine va_put (D := D) (ci := 0) (v := .int 0) (ty := .int) (C := bR_K) (T := bT_K) (N := 9) hx hb ht bin_K bty_K bo_K bn_K hown hK hP hD hS 0 rfl rfl 6 (by decide) (ht _ tw_1_177) (fun _ h9 => h9) rfl (by decide +kernel) rfl rfl (Nat.le_of_ble_eq_true rfl) de_K_init_61 (fun H locs hP hD hS => ?_)
  have hP : va_P D kCl ([(h, .inr (0, [.ref ap, .ref ar, .ref at_, .ref l4, .ref tr, .ref ls_, .int 0, .long 0, .long 0])), (ap, .inl (cp, 12, .inr (.inr (.inr (.inr (fun _ => none)))))), (ar, .inl (cr, 4, .inr (.inr (.inr (.inr (fun _ => none)))))), (at_, .inl (ct, 4, .inr (.inr (.inr (.inr (fun _ => none)))))), (l4, .inr (2, [.ref m4, .int 0])), (m4, .inl (q0, 12, .inl (fun _ => 0))), (tr, .inr (5, [.ref rw_, .int 0, .int 0])), (rw_, .inl (q0, 64, .inl (fun _ => 0))), (ls_, .inl (q0, 12, .inl (fun _ => 0)))]) H := hP
  have hD : va_D A ([(h, .inr (0, [.ref ap, .ref ar, .ref at_, .ref l4, .ref tr, .ref ls_, .int 0, .long 0, .long 0])), (ap, .inl (cp, 12, .inr (.inr (.inr (.inr (fun _ => none)))))), (ar, .inl (cr, 4, .inr (.inr (.inr (.inr (fun _ => none)))))), (at_, .inl (ct, 4, .inr (.inr (.inr (.inr (fun _ => none)))))), (l4, .inr (2, [.ref m4, .int 0])), (m4, .inl (q0, 12, .inl (fun _ => 0))), (tr, .inr (5, [.ref rw_, .int 0, .int 0])), (rw_, .inl (q0, 64, .inl (fun _ => 0))), (ls_, .inl (q0, 12, .inl (fun _ => 0)))]) := hD
  refine lv_aload_n hx hb de_K_init_64 rfl (lv_at hl 0 rfl) ?_
  refine lv_lconst (v := 0) hx hb de_K_init_65 (by decide) ?_
  refine va_put (D := D) (ci := 0) (v := .long 0) (ty := .long) (C := bR_K) (T := bT_K) (N := 9) hx hb ht bin_K bty_K bo_K bn_K hown hK hP hD hS 0 rfl rfl 7 (by decide) (ht _ tw_1_178) (fun _ h9 => h9) rfl (by decide +kernel) rfl rfl (Nat.le_of_ble_eq_true rfl) de_K_init_66 (fun H locs hP hD hS => ?_)
  have hP : va_P D kCl ([(h, .inr (0, [.ref ap, .ref ar, .ref at_, .ref l4, .ref tr, .ref ls_, .int 0, .long 0, .long 0])), (ap, .inl (cp, 12, .inr (.inr (.inr (.inr (fun _ => none)))))), (ar, .inl (cr, 4, .inr (.inr (.inr (.inr (fun _ => none)))))), (at_, .inl (ct, 4, .inr (.inr (.inr (.inr (fun _ => none)))))), (l4, .inr (2, [.ref m4, .int 0])), (m4, .inl (q0, 12, .inl (fun _ => 0))), (tr, .inr (5, [.ref rw_, .int 0, .int 0])), (rw_, .inl (q0, 64, .inl (fun _ => 0))), (ls_, .inl (q0, 12, .inl (fun _ => 0)))]) H := hP
  have hD : va_D A ([(h, .inr (0, [.ref ap, .ref ar, .ref at_, .ref l4, .ref tr, .ref ls_, .int 0, .long 0, .long 0])), (ap, .inl (cp, 12, .inr (.inr (.inr (.inr (fun _ => none)))))), (ar, .inl (cr, 4, .inr (.inr (.inr (.inr (fun _ => none)))))), (at_, .inl (ct, 4, .inr (.inr (.inr (.inr (fun _ => none)))))), (l4, .inr (2, [.ref m4, .int 0])), (m4, .inl (q0, 12, .inl (fun _ => 0))), (tr, .inr (5, [.ref rw_, .int 0, .int 0])), (rw_, .inl (q0, 64, .inl (fun _ => 0))), (ls_, .inl (q0, 12, .inl (fun _ => 0)))]) := hD
  refine lv_aload_n hx hb de_K_init_69 rfl (lv_at hl 0 rfl) ?_
  refine lv_lconst (v := 0) hx hb de_K_init_70 (by decide) ?_
  refine va_put (D := D) (ci := 0) (v := .long 0) (ty := .long) (C := bR_K) (T := bT_K) (N := 9) hx hb ht bin_K bty_K bo_K bn_K hown hK hP hD hS 0 rfl rfl 8 (by decide) (ht _ tw_1_179) (fun _ h9 => h9) rfl (by decide +kernel) rfl rfl (Nat.le_of_ble_eq_true rfl) de_K_init_71 (fun H locs hP hD hS => ?_)
  have hP : va_P D kCl ([(h, .inr (0, [.ref ap, .ref ar, .ref at_, .ref l4, .ref tr, .ref ls_, .int 0, .long 0, .long 0])), (ap, .inl (cp, 12, .inr (.inr (.inr (.inr (fun _ => none)))))), (ar, .inl (cr, 4, .inr (.inr (.inr (.inr (fun _ => none)))))), (at_, .inl (ct, 4, .inr (.inr (.inr (.inr (fun _ => none)))))), (l4, .inr (2, [.ref m4, .int 0])), (m4, .inl (q0, 12, .inl (fun _ => 0))), (tr, .inr (5, [.ref rw_, .int 0, .int 0])), (rw_, .inl (q0, 64, .inl (fun _ => 0))), (ls_, .inl (q0, 12, .inl (fun _ => 0)))]) H := hP
  have hD : va_D A ([(h, .inr (0, [.ref ap, .ref ar, .ref at_, .ref l4, .ref tr, .ref ls_, .int 0, .long 0, .long 0])), (ap, .inl (cp, 12, .inr (.inr (.inr (.inr (fun _ => none)))))), (ar, .inl (cr, 4, .inr (.inr (.inr (.inr (fun _ => none)))))), (at_, .inl (ct, 4, .inr (.inr (.inr (.inr (fun _ => none)))))), (l4, .inr (2, [.ref m4, .int 0])), (m4, .inl (q0, 12, .inl (fun _ => 0))), (tr, .inr (5, [.ref rw_, .int 0, .int 0])), (rw_, .inl (q0, 64, .inl (fun _ => 0))), (ls_, .inl (q0, 12, .inl (fun _ => 0)))]) := hD
  refine lv_iconst (v := 0) hx hb de_K_init_74 (by decide) ?_
  refine lv_istore_n (lv' := [(1, .int 0), (0, .ref h)]) hx hb de_K_init_75 rfl hl (by decide) rfl (fun ls hl => ?_)
  have hl : lv_has ls 2 [(1, .int (nI ([] : List t6).length)), (0, .ref h)] := by rw [List.length_nil, nI_0]; exact hl
  have hw : va_P D kCl ((kw9 h ap ar at_ l4 m4 tr rw_ ls_ cp cr ct q0 (fP []) (fun _ => none) (fun _ => none) ++ []) ++ ([] : List t6).flatMap (cP q0)) H := by rw [List.flatMap_nil, List.append_nil, List.append_nil]; exact hP
  have hv : va_D A ((kw9 h ap ar at_ l4 m4 tr rw_ ls_ cp cr ct q0 (fP []) (fun _ => none) (fun _ => none) ++ []) ++ ([] : List t6).flatMap (cP q0)) := by rw [List.flatMap_nil, List.append_nil, List.append_nil]; exact hD
  refine W.widen (k := 8 + 5 * ([] : List t6).length) (n := 113 + 50 * ([] : List t6).length) (by decide) (by decide) ?_
  refine w_K_init_76 (fp := fun _ => none) S hA hK 12 [] H locs ls rfl (by simp) hl hw hv hS (fun ps H locs ls hps hnum hl hP hD hS => ?_)
  rw [List.append_nil] at hP hD
  refine lv_iconst (v := 0) hx hb de_K_init_102 (by decide) ?_
  refine lv_istore_n (lv' := [(1, .int 0), (0, .ref h)]) hx hb de_K_init_103 rfl hl (by decide) rfl (fun ls hl => ?_)
  have hl : lv_has ls 2 [(1, .int (nI ([] : List (Nat × Nat × Nat)).length)), (0, .ref h)] := by rw [List.length_nil, nI_0]; exact hl
  have hw : va_P D kCl ((kw9 h ap ar at_ l4 m4 tr rw_ ls_ cp cr ct q0 (fP ps) (fE []) (fun _ => none) ++ ps.flatMap (cP q0)) ++ ([] : List (Nat × Nat × Nat)).flatMap (cE q0)) H := by rw [List.flatMap_nil, List.append_nil]; exact hP
  have hv : va_D A ((kw9 h ap ar at_ l4 m4 tr rw_ ls_ cp cr ct q0 (fP ps) (fE []) (fun _ => none) ++ ps.flatMap (cP q0)) ++ ([] : List (Nat × Nat × Nat)).flatMap (cE q0)) := by rw [List.flatMap_nil, List.append_nil]; exact hD
  refine W.widen (k := 68 + 3 * ([] : List (Nat × Nat × Nat)).length) (n := 713 + 20 * ([] : List (Nat × Nat × Nat)).length) (by rw [hps]; decide) (by rw [hps]; decide) ?_
  refine w_K_init_104 (fr := fun _ => none) S hA hK hN3 hN5 4 [] H locs ls rfl hl hw hv hS (fun rs H locs ls hrs hl hP hD hS => ?_)
  rw [List.append_assoc] at hP hD
  refine lv_iconst (v := 0) hx hb de_K_init_128 (by decide) ?_
  refine lv_istore_n (lv' := [(1, .int 0), (0, .ref h)]) hx hb de_K_init_129 rfl hl (by decide) rfl (fun ls hl => ?_)
  have hl : lv_has ls 2 [(1, .int (nI ([] : List Nat).length)), (0, .ref h)] := by rw [List.length_nil, nI_0]; exact hl
  have hw : va_P D kCl ((kw9 h ap ar at_ l4 m4 tr rw_ ls_ cp cr ct q0 (fP ps) (fE rs) (fT []) ++ (ps.flatMap (cP q0) ++ rs.flatMap (cE q0))) ++ ([] : List Nat).flatMap cT) H := by rw [List.flatMap_nil, List.append_nil]; exact hP
  have hv : va_D A ((kw9 h ap ar at_ l4 m4 tr rw_ ls_ cp cr ct q0 (fP ps) (fE rs) (fT []) ++ (ps.flatMap (cP q0) ++ rs.flatMap (cE q0))) ++ ([] : List Nat).flatMap cT) := by rw [List.flatMap_nil, List.append_nil]; exact hD
  refine W.widen (k := 80 + 1 * ([] : List Nat).length) (n := 793 + 2 * ([] : List Nat).length) (by rw [hrs]; decide) (by rw [hrs]; decide) ?_
  refine w_K_init_130 (ft := fun _ => none) S hA hK hN4 4 [] H locs ls rfl hl hw hv hS (fun ts H locs ls hts hl hP hD hS => ?_)
  obtain ⟨aa, q, k1, k2, k3, k4, k5⟩ := k_fin hps hnum hrs hts hP hD
  refine W.widen (k := 84) (n := 801) (by rw [hts]; decide) (by rw [hts]; decide) ?_
  exact W.vret hx hb hr (fun t ht hW => ⟨⟨(aa, q), rfl, ⟨k1, k2⟩, by rw [ht]; exact k3, va_K.moved hW.alike (k4 s hK), k5⟩, hS.F ht⟩) hS.2.2 de_K_init_154 hlocks
