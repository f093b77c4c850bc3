theorem ap_at (w : va_W) (x : Nat × va_E) (r : va_W) : (w ++ x :: r)[w.length]? = some x := by simp
theorem ap_set (w : va_W) (x y : Nat × va_E) (r : va_W) : (w ++ x :: r).set w.length y = w ++ y :: r := by simp
theorem va_same {D : va_G} {cl : List vw_C} {tys : List (ClassId × FieldType)} {s : State} (hK : va_K D cl tys s) {i j : Nat} {c1 c2 : ClassId} (h1 : tys[i]? = some (c1, .int)) (h2 : tys[j]? = some (c2, .int)) : c1 = c2 := by
  have a1 : s.vm.findClass ("[" ++ FieldType.int.toString) = some c1 := (hK.2 i _ h1).2
  have a2 : s.vm.findClass ("[" ++ FieldType.int.toString) = some c2 := (hK.2 j _ h2).2
  rw [a1] at a2
  exact Option.some.inj a2
theorem va_sameL {D : va_G} {cl : List vw_C} {tys : List (ClassId × FieldType)} {s : State} (hK : va_K D cl tys s) {i j : Nat} {c1 c2 : ClassId} (h1 : tys[i]? = some (c1, .long)) (h2 : tys[j]? = some (c2, .long)) : c1 = c2 := by
  have a1 : s.vm.findClass ("[" ++ FieldType.long.toString) = some c1 := (hK.2 i _ h1).2
  have a2 : s.vm.findClass ("[" ++ FieldType.long.toString) = some c2 := (hK.2 j _ h2).2
  rw [a1] at a2
  exact Option.some.inj a2
set_option maxRecDepth 20000 in
theorem tc_obj : Cond.code Lib.objectInit ⟨#[0xb1]⟩ 1 none ∈ lw_g := lw_gd (lw_in1 (List.mem_of_getElem? (i := 16) rfl)) rfl
set_option maxHeartbeats 4000000 in
set_option maxRecDepth 100000 in
theorem c_L_init (l : Launch) (D : va_G) (A : Nat → Prop) (w : va_W) (tys : List (ClassId × FieldType)) (h : Nat) : Met l by_L_init (.code by_L_init bc_L_init 1 none :: lw_g) brm_L_init (va_Pc [.ref h] (fun U => (∀ q, U.heap.size ≤ q → A q) ∧ va_P D kCl (w ++ [(h, .inr (2, [.null, .int 0]))]) U.heap ∧ va_K D kCl tys U ∧ va_D A (w ++ [(h, .inr (2, [.null, .int 0]))]))) (va_Qv (fun _ : Nat × ClassId => True) (fun u t => va_P D kCl (w ++ [(h, .inr (2, [.ref u.1, .int 0])), (u.1, .inl (u.2, 12, .inl (fun _ => 0)))]) t.heap ∧ va_K D kCl (tys ++ [(u.2, .int)]) t ∧ va_D A (w ++ [(h, .inr (2, [.ref u.1, .int 0])), (u.1, .inl (u.2, 12, .inl (fun _ => 0)))])) A) 1 12 A := by
  refine Met.ofW (cc := bc_L_init) (maxL := 1) (ret := none) (by decide) rfl ?_
  intro p e s m args below meth c s₁ B hml hv
  obtain ⟨rfl, hA, hP, hK, hD⟩ := hv
  have hx := B.exec
  have hb := B.bytes
  have hr := B.returns
  have ht : ∀ w ∈ lw_g, w.before ([.ref h] : List Value).toArray s = true := fun w h => atoms_spec (ws := .code by_L_init bc_L_init 1 none :: lw_g) B.pre w (List.mem_cons_of_mem _ h)
  have hown : s.vm.findClass bR_L = some m.cls := findClass_of_methodNamed B.named
  have hlocks := B.notSynchronized
  have hin : meth.name = "<init>" := (name_of_methodNamed B.named B.method).1
  have S : CallFix p m c bc_L_init 1 s ([.ref h] : List Value).toArray lw_g bR_L := ⟨hx, hb, hml, hown, ht⟩
  have hS : va_S A s.heap s.heap [] := va_S.rf
  have hl := lv_entry ([.ref h]) (n := 1) (Nat.le_of_ble_eq_true rfl)
  rw [lg_entry_eq]
  generalize (lg_sl ([.ref h]) ++ List.replicate (1 - (lg_sl ([.ref h])).length) Slot.unset).toArray = ls at hl ⊢
  have hl : lv_has ls 1 [(0, .ref h)] := hl
  have hP : va_P D kCl (w ++ [(h, .inr (2, [.null, .int 0]))]) s.heap := hP
  refine lv_aload_n hx hb de_L_init_0 rfl (lv_at hl 0 rfl) ?_
  refine W.objInit hx hb hown (ht _ tw_1_28) (ht _ tw_1_15) (ht _ tc_obj) rfl (by rw [hml]; exact hl.1) rfl de_L_init_1 (Nat.le_of_ble_eq_true rfl) (Nat.le_of_ble_eq_true rfl) ?_
  refine W.eq (g2 := F0 m 4 ls []) rfl ?_
  refine lv_aload_n hx hb de_L_init_4 rfl (lv_at hl 0 rfl) ?_
  refine lv_bipush (v := 12) hx hb de_L_init_5 (by decide) ?_
  refine va_newa (atype := .int) (ty := .int) (N' := 12) (a0 := (12, .inl (fun _ => 0))) hx hb (ht _ tw_1_38) rfl hK hP hD hS hA (fun cA => rfl) (by decide) (by decide) (by decide) (Nat.le_of_ble_eq_true rfl) (Nat.le_of_ble_eq_true rfl) de_L_init_7 (fun q7 c7 H hK hP hD hS => ?_)
  rw [List.append_assoc] at hP hD
  have hP : va_P D kCl (w ++ [(h, .inr (2, [.null, .int 0])), (q7, .inl (c7, 12, .inl (fun _ => 0)))]) H := hP
  have hD : va_D A (w ++ [(h, .inr (2, [.null, .int 0])), (q7, .inl (c7, 12, .inl (fun _ => 0)))]) := hD
  refine va_putF (D := D) (ci := 2) (v := .ref q7) (ty := .array .int) (C := bR_L) (T := bT_L) (N := 2) hx hb ht bin_L bty_L bo_L bn_L hown hK hP hD hS w.length (ap_at _ _ _) rfl 0 (by decide) (ht _ tw_1_29) (fun _ h9 => h9) rfl hin rfl (by decide +kernel) rfl rfl (Nat.le_of_ble_eq_true rfl) de_L_init_9 (fun H locs hP hD hS => ?_)
  rw [ap_set] at hP hD
  have hP : va_P D kCl (w ++ [(h, .inr (2, [.ref q7, .int 0])), (q7, .inl (c7, 12, .inl (fun _ => 0)))]) H := hP
  have hD : va_D A (w ++ [(h, .inr (2, [.ref q7, .int 0])), (q7, .inl (c7, 12, .inl (fun _ => 0)))]) := hD
  refine lv_aload_n hx hb de_L_init_12 rfl (lv_at hl 0 rfl) ?_
  refine lv_iconst (v := 0) hx hb de_L_init_13 (by decide) ?_
  refine va_put (D := D) (ci := 2) (v := .int 0) (ty := .int) (C := bR_L) (T := bT_L) (N := 2) hx hb ht bin_L bty_L bo_L bn_L hown hK hP hD hS w.length (ap_at _ _ _) rfl 1 (by decide) (ht _ tw_1_31) (fun _ h9 => h9) rfl (by decide +kernel) rfl rfl (Nat.le_of_ble_eq_true rfl) de_L_init_14 (fun H locs hP hD hS => ?_)
  rw [ap_set] at hP hD
  have hP : va_P D kCl (w ++ [(h, .inr (2, [.ref q7, .int 0])), (q7, .inl (c7, 12, .inl (fun _ => 0)))]) H := hP
  have hD : va_D A (w ++ [(h, .inr (2, [.ref q7, .int 0])), (q7, .inl (c7, 12, .inl (fun _ => 0)))]) := hD
  exact W.vret hx hb hr (fun t ht hW => ⟨⟨(q7, c7), rfl, trivial, by rw [ht]; exact hP, va_K.moved hW.alike hK, hD⟩, hS.F ht⟩) hS.2.2 de_L_init_17 hlocks
set_option maxHeartbeats 4000000 in
set_option maxRecDepth 100000 in
theorem c_P_init (l : Launch) (D : va_G) (A : Nat → Prop) (w : va_W) (tys : List (ClassId × FieldType)) (h : Nat) (x1 : Int32) : Met l by_P_init (.code by_P_init bc_P_init 2 none :: lw_g) brm_P_init (va_Pc [.ref h, .int x1] (fun U => (∀ q, U.heap.size ≤ q → A q) ∧ va_P D kCl (w ++ [(h, .inr (1, [.int 0, .null, .null, .null, .null, .int 0, .int 0, .int 0, .int 0, .int 0, .int 0, .int 0, .int 0, .long 0, .long 0, .long 0]))]) U.heap ∧ va_K D kCl tys U ∧ va_D A (w ++ [(h, .inr (1, [.int 0, .null, .null, .null, .null, .int 0, .int 0, .int 0, .int 0, .int 0, .int 0, .int 0, .int 0, .long 0, .long 0, .long 0]))]))) (va_Qv (fun _ : Nat × ClassId × Nat × ClassId × Nat × ClassId × Nat × ClassId => True) (fun u t => va_P D kCl (w ++ [(h, .inr (1, [.int x1, .ref u.1, .ref u.2.2.1, .ref u.2.2.2.2.1, .ref u.2.2.2.2.2.2.1, .int 0, .int 0, .int 1, .int 0, .int 0, .int 0, .int 0, .int 0, .long 0, .long 0, .long 0])), (u.1, .inl (u.2.1, 10, .inl (fun _ => 0))), (u.2.2.1, .inl (u.2.2.2.1, 10, .inl (fun _ => 0))), (u.2.2.2.2.1, .inl (u.2.2.2.2.2.1, 10, .inl (fun _ => 0))), (u.2.2.2.2.2.2.1, .inl (u.2.2.2.2.2.2.2, 4, .inl (fun _ => 0)))]) t.heap ∧ va_K D kCl ((((tys ++ [(u.2.1, .int)]) ++ [(u.2.2.2.1, .int)]) ++ [(u.2.2.2.2.2.1, .int)]) ++ [(u.2.2.2.2.2.2.2, .int)]) t ∧ va_D A (w ++ [(h, .inr (1, [.int x1, .ref u.1, .ref u.2.2.1, .ref u.2.2.2.2.1, .ref u.2.2.2.2.2.2.1, .int 0, .int 0, .int 1, .int 0, .int 0, .int 0, .int 0, .int 0, .long 0, .long 0, .long 0])), (u.1, .inl (u.2.1, 10, .inl (fun _ => 0))), (u.2.2.1, .inl (u.2.2.2.1, 10, .inl (fun _ => 0))), (u.2.2.2.2.1, .inl (u.2.2.2.2.2.1, 10, .inl (fun _ => 0))), (u.2.2.2.2.2.2.1, .inl (u.2.2.2.2.2.2.2, 4, .inl (fun _ => 0)))])) A) 4 34 A := by
  refine Met.ofW (cc := bc_P_init) (maxL := 2) (ret := none) (by decide) rfl ?_
  intro p e s m args below meth c s₁ B hml hv
  obtain ⟨rfl, hA, hP, hK, hD⟩ := hv
  have hx := B.exec
  have hb := B.bytes
  have hr := B.returns
  have ht : ∀ w ∈ lw_g, w.before ([.ref h, .int x1] : List Value).toArray s = true := fun w h => atoms_spec (ws := .code by_P_init bc_P_init 2 none :: lw_g) B.pre w (List.mem_cons_of_mem _ h)
  have hown : s.vm.findClass bR_P = some m.cls := findClass_of_methodNamed B.named
  have hlocks := B.notSynchronized
  have hin : meth.name = "<init>" := (name_of_methodNamed B.named B.method).1
  have S : CallFix p m c bc_P_init 2 s ([.ref h, .int x1] : List Value).toArray lw_g bR_P := ⟨hx, hb, hml, hown, ht⟩
  have hS : va_S A s.heap s.heap [] := va_S.rf
  have hl := lv_entry ([.ref h, .int x1]) (n := 2) (Nat.le_of_ble_eq_true rfl)
  rw [lg_entry_eq]
  generalize (lg_sl ([.ref h, .int x1]) ++ List.replicate (2 - (lg_sl ([.ref h, .int x1])).length) Slot.unset).toArray = ls at hl ⊢
  have hl : lv_has ls 2 [(0, .ref h), (1, .int x1)] := hl
  have hP : va_P D kCl (w ++ [(h, .inr (1, [.int 0, .null, .null, .null, .null, .int 0, .int 0, .int 0, .int 0, .int 0, .int 0, .int 0, .int 0, .long 0, .long 0, .long 0]))]) s.heap := hP
  refine lv_aload_n hx hb de_P_init_0 rfl (lv_at hl 0 rfl) ?_
  refine W.objInit hx hb hown (ht _ tw_1_59) (ht _ tw_1_15) (ht _ tc_obj) rfl (by rw [hml]; exact hl.1) rfl de_P_init_1 (Nat.le_of_ble_eq_true rfl) (Nat.le_of_ble_eq_true rfl) ?_
  refine W.eq (g2 := F0 m 4 ls []) rfl ?_
  refine lv_aload_n hx hb de_P_init_4 rfl (lv_at hl 0 rfl) ?_
  refine lv_bipush (v := 10) hx hb de_P_init_5 (by decide) ?_
  refine va_newa (atype := .int) (ty := .int) (N' := 10) (a0 := (10, .inl (fun _ => 0))) hx hb (ht _ tw_1_38) rfl hK hP hD hS hA (fun cA => rfl) (by decide) (by decide) (by decide) (Nat.le_of_ble_eq_true rfl) (Nat.le_of_ble_eq_true rfl) de_P_init_7 (fun q7 c7 H hK hP hD hS => ?_)
  rw [List.append_assoc] at hP hD
  have hP : va_P D kCl (w ++ [(h, .inr (1, [.int 0, .null, .null, .null, .null, .int 0, .int 0, .int 0, .int 0, .int 0, .int 0, .int 0, .int 0, .long 0, .long 0, .long 0])), (q7, .inl (c7, 10, .inl (fun _ => 0)))]) H := hP
  have hD : va_D A (w ++ [(h, .inr (1, [.int 0, .null, .null, .null, .null, .int 0, .int 0, .int 0, .int 0, .int 0, .int 0, .int 0, .int 0, .long 0, .long 0, .long 0])), (q7, .inl (c7, 10, .inl (fun _ => 0)))]) := hD
  refine va_putF (D := D) (ci := 1) (v := .ref q7) (ty := .array .int) (C := bR_P) (T := bT_P) (N := 16) hx hb ht bin_P bty_P bo_P bn_P hown hK hP hD hS w.length (ap_at _ _ _) rfl 1 (by decide) (ht _ tw_1_62) (fun _ h9 => h9) rfl hin rfl (by decide +kernel) rfl rfl (Nat.le_of_ble_eq_true rfl) de_P_init_9 (fun H locs hP hD hS => ?_)
  rw [ap_set] at hP hD
  have hP : va_P D kCl (w ++ [(h, .inr (1, [.int 0, .ref q7, .null, .null, .null, .int 0, .int 0, .int 0, .int 0, .int 0, .int 0, .int 0, .int 0, .long 0, .long 0, .long 0])), (q7, .inl (c7, 10, .inl (fun _ => 0)))]) H := hP
  have hD : va_D A (w ++ [(h, .inr (1, [.int 0, .ref q7, .null, .null, .null, .int 0, .int 0, .int 0, .int 0, .int 0, .int 0, .int 0, .int 0, .long 0, .long 0, .long 0])), (q7, .inl (c7, 10, .inl (fun _ => 0)))]) := hD
  refine lv_aload_n hx hb de_P_init_12 rfl (lv_at hl 0 rfl) ?_
  refine lv_bipush (v := 10) hx hb de_P_init_13 (by decide) ?_
  refine va_newa (atype := .int) (ty := .int) (N' := 10) (a0 := (10, .inl (fun _ => 0))) hx hb (ht _ tw_1_38) rfl hK hP hD hS hA (fun cA => rfl) (by decide) (by decide) (by decide) (Nat.le_of_ble_eq_true rfl) (Nat.le_of_ble_eq_true rfl) de_P_init_15 (fun q15 c15 H hK hP hD hS => ?_)
  rw [List.append_assoc] at hP hD
  have hP : va_P D kCl (w ++ [(h, .inr (1, [.int 0, .ref q7, .null, .null, .null, .int 0, .int 0, .int 0, .int 0, .int 0, .int 0, .int 0, .int 0, .long 0, .long 0, .long 0])), (q7, .inl (c7, 10, .inl (fun _ => 0))), (q15, .inl (c15, 10, .inl (fun _ => 0)))]) H := hP
  have hD : va_D A (w ++ [(h, .inr (1, [.int 0, .ref q7, .null, .null, .null, .int 0, .int 0, .int 0, .int 0, .int 0, .int 0, .int 0, .int 0, .long 0, .long 0, .long 0])), (q7, .inl (c7, 10, .inl (fun _ => 0))), (q15, .inl (c15, 10, .inl (fun _ => 0)))]) := hD
  refine va_putF (D := D) (ci := 1) (v := .ref q15) (ty := .array .int) (C := bR_P) (T := bT_P) (N := 16) hx hb ht bin_P bty_P bo_P bn_P hown hK hP hD hS w.length (ap_at _ _ _) rfl 2 (by decide) (ht _ tw_1_64) (fun _ h9 => h9) rfl hin rfl (by decide +kernel) rfl rfl (Nat.le_of_ble_eq_true rfl) de_P_init_17 (fun H locs hP hD hS => ?_)
  rw [ap_set] at hP hD
  have hP : va_P D kCl (w ++ [(h, .inr (1, [.int 0, .ref q7, .ref q15, .null, .null, .int 0, .int 0, .int 0, .int 0, .int 0, .int 0, .int 0, .int 0, .long 0, .long 0, .long 0])), (q7, .inl (c7, 10, .inl (fun _ => 0))), (q15, .inl (c15, 10, .inl (fun _ => 0)))]) H := hP
  have hD : va_D A (w ++ [(h, .inr (1, [.int 0, .ref q7, .ref q15, .null, .null, .int 0, .int 0, .int 0, .int 0, .int 0, .int 0, .int 0, .int 0, .long 0, .long 0, .long 0])), (q7, .inl (c7, 10, .inl (fun _ => 0))), (q15, .inl (c15, 10, .inl (fun _ => 0)))]) := hD
  refine lv_aload_n hx hb de_P_init_20 rfl (lv_at hl 0 rfl) ?_
  refine lv_bipush (v := 10) hx hb de_P_init_21 (by decide) ?_
  refine va_newa (atype := .int) (ty := .int) (N' := 10) (a0 := (10, .inl (fun _ => 0))) hx hb (ht _ tw_1_38) rfl hK hP hD hS hA (fun cA => rfl) (by decide) (by decide) (by decide) (Nat.le_of_ble_eq_true rfl) (Nat.le_of_ble_eq_true rfl) de_P_init_23 (fun q23 c23 H hK hP hD hS => ?_)
  rw [List.append_assoc] at hP hD
  have hP : va_P D kCl (w ++ [(h, .inr (1, [.int 0, .ref q7, .ref q15, .null, .null, .int 0, .int 0, .int 0, .int 0, .int 0, .int 0, .int 0, .int 0, .long 0, .long 0, .long 0])), (q7, .inl (c7, 10, .inl (fun _ => 0))), (q15, .inl (c15, 10, .inl (fun _ => 0))), (q23, .inl (c23, 10, .inl (fun _ => 0)))]) H := hP
  have hD : va_D A (w ++ [(h, .inr (1, [.int 0, .ref q7, .ref q15, .null, .null, .int 0, .int 0, .int 0, .int 0, .int 0, .int 0, .int 0, .int 0, .long 0, .long 0, .long 0])), (q7, .inl (c7, 10, .inl (fun _ => 0))), (q15, .inl (c15, 10, .inl (fun _ => 0))), (q23, .inl (c23, 10, .inl (fun _ => 0)))]) := hD
  refine va_putF (D := D) (ci := 1) (v := .ref q23) (ty := .array .int) (C := bR_P) (T := bT_P) (N := 16) hx hb ht bin_P bty_P bo_P bn_P hown hK hP hD hS w.length (ap_at _ _ _) rfl 3 (by decide) (ht _ tw_1_66) (fun _ h9 => h9) rfl hin rfl (by decide +kernel) rfl rfl (Nat.le_of_ble_eq_true rfl) de_P_init_25 (fun H locs hP hD hS => ?_)
  rw [ap_set] at hP hD
  have hP : va_P D kCl (w ++ [(h, .inr (1, [.int 0, .ref q7, .ref q15, .ref q23, .null, .int 0, .int 0, .int 0, .int 0, .int 0, .int 0, .int 0, .int 0, .long 0, .long 0, .long 0])), (q7, .inl (c7, 10, .inl (fun _ => 0))), (q15, .inl (c15, 10, .inl (fun _ => 0))), (q23, .inl (c23, 10, .inl (fun _ => 0)))]) H := hP
  have hD : va_D A (w ++ [(h, .inr (1, [.int 0, .ref q7, .ref q15, .ref q23, .null, .int 0, .int 0, .int 0, .int 0, .int 0, .int 0, .int 0, .int 0, .long 0, .long 0, .long 0])), (q7, .inl (c7, 10, .inl (fun _ => 0))), (q15, .inl (c15, 10, .inl (fun _ => 0))), (q23, .inl (c23, 10, .inl (fun _ => 0)))]) := hD
  refine lv_aload_n hx hb de_P_init_28 rfl (lv_at hl 0 rfl) ?_
  refine lv_iconst (v := 4) hx hb de_P_init_29 (by decide) ?_
  refine va_newa (atype := .int) (ty := .int) (N' := 4) (a0 := (4, .inl (fun _ => 0))) hx hb (ht _ tw_1_38) rfl hK hP hD hS hA (fun cA => rfl) (by decide) (by decide) (by decide) (Nat.le_of_ble_eq_true rfl) (Nat.le_of_ble_eq_true rfl) de_P_init_30 (fun q30 c30 H hK hP hD hS => ?_)
  rw [List.append_assoc] at hP hD
  have hP : va_P D kCl (w ++ [(h, .inr (1, [.int 0, .ref q7, .ref q15, .ref q23, .null, .int 0, .int 0, .int 0, .int 0, .int 0, .int 0, .int 0, .int 0, .long 0, .long 0, .long 0])), (q7, .inl (c7, 10, .inl (fun _ => 0))), (q15, .inl (c15, 10, .inl (fun _ => 0))), (q23, .inl (c23, 10, .inl (fun _ => 0))), (q30, .inl (c30, 4, .inl (fun _ => 0)))]) H := hP
  have hD : va_D A (w ++ [(h, .inr (1, [.int 0, .ref q7, .ref q15, .ref q23, .null, .int 0, .int 0, .int 0, .int 0, .int 0, .int 0, .int 0, .int 0, .long 0, .long 0, .long 0])), (q7, .inl (c7, 10, .inl (fun _ => 0))), (q15, .inl (c15, 10, .inl (fun _ => 0))), (q23, .inl (c23, 10, .inl (fun _ => 0))), (q30, .inl (c30, 4, .inl (fun _ => 0)))]) := hD
  refine va_putF (D := D) (ci := 1) (v := .ref q30) (ty := .array .int) (C := bR_P) (T := bT_P) (N := 16) hx hb ht bin_P bty_P bo_P bn_P hown hK hP hD hS w.length (ap_at _ _ _) rfl 4 (by decide) (ht _ tw_1_68) (fun _ h9 => h9) rfl hin rfl (by decide +kernel) rfl rfl (Nat.le_of_ble_eq_true rfl) de_P_init_32 (fun H locs hP hD hS => ?_)
  rw [ap_set] at hP hD
  have hP : va_P D kCl (w ++ [(h, .inr (1, [.int 0, .ref q7, .ref q15, .ref q23, .ref q30, .int 0, .int 0, .int 0, .int 0, .int 0, .int 0, .int 0, .int 0, .long 0, .long 0, .long 0])), (q7, .inl (c7, 10, .inl (fun _ => 0))), (q15, .inl (c15, 10, .inl (fun _ => 0))), (q23, .inl (c23, 10, .inl (fun _ => 0))), (q30, .inl (c30, 4, .inl (fun _ => 0)))]) H := hP
  have hD : va_D A (w ++ [(h, .inr (1, [.int 0, .ref q7, .ref q15, .ref q23, .ref q30, .int 0, .int 0, .int 0, .int 0, .int 0, .int 0, .int 0, .int 0, .long 0, .long 0, .long 0])), (q7, .inl (c7, 10, .inl (fun _ => 0))), (q15, .inl (c15, 10, .inl (fun _ => 0))), (q23, .inl (c23, 10, .inl (fun _ => 0))), (q30, .inl (c30, 4, .inl (fun _ => 0)))]) := hD
  refine lv_aload_n hx hb de_P_init_35 rfl (lv_at hl 0 rfl) ?_
  refine lv_iconst (v := 0) hx hb de_P_init_36 (by decide) ?_
  refine va_put (D := D) (ci := 1) (v := .int 0) (ty := .int) (C := bR_P) (T := bT_P) (N := 16) hx hb ht bin_P bty_P bo_P bn_P hown hK hP hD hS w.length (ap_at _ _ _) rfl 5 (by decide) (ht _ tw_1_70) (fun _ h9 => h9) rfl (by decide +kernel) rfl rfl (Nat.le_of_ble_eq_true rfl) de_P_init_37 (fun H locs hP hD hS => ?_)
  rw [ap_set] at hP hD
  have hP : va_P D kCl (w ++ [(h, .inr (1, [.int 0, .ref q7, .ref q15, .ref q23, .ref q30, .int 0, .int 0, .int 0, .int 0, .int 0, .int 0, .int 0, .int 0, .long 0, .long 0, .long 0])), (q7, .inl (c7, 10, .inl (fun _ => 0))), (q15, .inl (c15, 10, .inl (fun _ => 0))), (q23, .inl (c23, 10, .inl (fun _ => 0))), (q30, .inl (c30, 4, .inl (fun _ => 0)))]) H := hP
  have hD : va_D A (w ++ [(h, .inr (1, [.int 0, .ref q7, .ref q15, .ref q23, .ref q30, .int 0, .int 0, .int 0, .int 0, .int 0, .int 0, .int 0, .int 0, .long 0, .long 0, .long 0])), (q7, .inl (c7, 10, .inl (fun _ => 0))), (q15, .inl (c15, 10, .inl (fun _ => 0))), (q23, .inl (c23, 10, .inl (fun _ => 0))), (q30, .inl (c30, 4, .inl (fun _ => 0)))]) := hD
  refine lv_aload_n hx hb de_P_init_40 rfl (lv_at hl 0 rfl) ?_
  refine lv_iconst (v := 0) hx hb de_P_init_41 (by decide) ?_
  refine va_put (D := D) (ci := 1) (v := .int 0) (ty := .int) (C := bR_P) (T := bT_P) (N := 16) hx hb ht bin_P bty_P bo_P bn_P hown hK hP hD hS w.length (ap_at _ _ _) rfl 6 (by decide) (ht _ tw_1_72) (fun _ h9 => h9) rfl (by decide +kernel) rfl rfl (Nat.le_of_ble_eq_true rfl) de_P_init_42 (fun H locs hP hD hS => ?_)
  rw [ap_set] at hP hD
  have hP : va_P D kCl (w ++ [(h, .inr (1, [.int 0, .ref q7, .ref q15, .ref q23, .ref q30, .int 0, .int 0, .int 0, .int 0, .int 0, .int 0, .int 0, .int 0, .long 0, .long 0, .long 0])), (q7, .inl (c7, 10, .inl (fun _ => 0))), (q15, .inl (c15, 10, .inl (fun _ => 0))), (q23, .inl (c23, 10, .inl (fun _ => 0))), (q30, .inl (c30, 4, .inl (fun _ => 0)))]) H := hP
  have hD : va_D A (w ++ [(h, .inr (1, [.int 0, .ref q7, .ref q15, .ref q23, .ref q30, .int 0, .int 0, .int 0, .int 0, .int 0, .int 0, .int 0, .int 0, .long 0, .long 0, .long 0])), (q7, .inl (c7, 10, .inl (fun _ => 0))), (q15, .inl (c15, 10, .inl (fun _ => 0))), (q23, .inl (c23, 10, .inl (fun _ => 0))), (q30, .inl (c30, 4, .inl (fun _ => 0)))]) := hD
  refine lv_aload_n hx hb de_P_init_45 rfl (lv_at hl 0 rfl) ?_
  refine lv_iconst (v := 1) hx hb de_P_init_46 (by decide) ?_
  refine va_put (D := D) (ci := 1) (v := .int 1) (ty := .int) (C := bR_P) (T := bT_P) (N := 16) hx hb ht bin_P bty_P bo_P bn_P hown hK hP hD hS w.length (ap_at _ _ _) rfl 7 (by decide) (ht _ tw_1_74) (fun _ h9 => h9) rfl (by decide +kernel) rfl rfl (Nat.le_of_ble_eq_true rfl) de_P_init_47 (fun H locs hP hD hS => ?_)
  rw [ap_set] at hP hD
  have hP : va_P D kCl (w ++ [(h, .inr (1, [.int 0, .ref q7, .ref q15, .ref q23, .ref q30, .int 0, .int 0, .int 1, .int 0, .int 0, .int 0, .int 0, .int 0, .long 0, .long 0, .long 0])), (q7, .inl (c7, 10, .inl (fun _ => 0))), (q15, .inl (c15, 10, .inl (fun _ => 0))), (q23, .inl (c23, 10, .inl (fun _ => 0))), (q30, .inl (c30, 4, .inl (fun _ => 0)))]) H := hP
  have hD : va_D A (w ++ [(h, .inr (1, [.int 0, .ref q7, .ref q15, .ref q23, .ref q30, .int 0, .int 0, .int 1, .int 0, .int 0, .int 0, .int 0, .int 0, .long 0, .long 0, .long 0])), (q7, .inl (c7, 10, .inl (fun _ => 0))), (q15, .inl (c15, 10, .inl (fun _ => 0))), (q23, .inl (c23, 10, .inl (fun _ => 0))), (q30, .inl (c30, 4, .inl (fun _ => 0)))]) := hD
  refine lv_aload_n hx hb de_P_init_50 rfl (lv_at hl 0 rfl) ?_
  refine lv_iconst (v := 0) hx hb de_P_init_51 (by decide) ?_
  refine va_put (D := D) (ci := 1) (v := .int 0) (ty := .int) (C := bR_P) (T := bT_P) (N := 16) hx hb ht bin_P bty_P bo_P bn_P hown hK hP hD hS w.length (ap_at _ _ _) rfl 8 (by decide) (ht _ tw_1_76) (fun _ h9 => h9) rfl (by decide +kernel) rfl rfl (Nat.le_of_ble_eq_true rfl) de_P_init_52 (fun H locs hP hD hS => ?_)
  rw [ap_set] at hP hD
  have hP : va_P D kCl (w ++ [(h, .inr (1, [.int 0, .ref q7, .ref q15, .ref q23, .ref q30, .int 0, .int 0, .int 1, .int 0, .int 0, .int 0, .int 0, .int 0, .long 0, .long 0, .long 0])), (q7, .inl (c7, 10, .inl (fun _ => 0))), (q15, .inl (c15, 10, .inl (fun _ => 0))), (q23, .inl (c23, 10, .inl (fun _ => 0))), (q30, .inl (c30, 4, .inl (fun _ => 0)))]) H := hP
  have hD : va_D A (w ++ [(h, .inr (1, [.int 0, .ref q7, .ref q15, .ref q23, .ref q30, .int 0, .int 0, .int 1, .int 0, .int 0, .int 0, .int 0, .int 0, .long 0, .long 0, .long 0])), (q7, .inl (c7, 10, .inl (fun _ => 0))), (q15, .inl (c15, 10, .inl (fun _ => 0))), (q23, .inl (c23, 10, .inl (fun _ => 0))), (q30, .inl (c30, 4, .inl (fun _ => 0)))]) := hD
  refine lv_aload_n hx hb de_P_init_55 rfl (lv_at hl 0 rfl) ?_
  refine lv_iconst (v := 0) hx hb de_P_init_56 (by decide) ?_
  refine va_put (D := D) (ci := 1) (v := .int 0) (ty := .int) (C := bR_P) (T := bT_P) (N := 16) hx hb ht bin_P bty_P bo_P bn_P hown hK hP hD hS w.length (ap_at _ _ _) rfl 9 (by decide) (ht _ tw_1_78) (fun _ h9 => h9) rfl (by decide +kernel) rfl rfl (Nat.le_of_ble_eq_true rfl) de_P_init_57 (fun H locs hP hD hS => ?_)
  rw [ap_set] at hP hD
  have hP : va_P D kCl (w ++ [(h, .inr (1, [.int 0, .ref q7, .ref q15, .ref q23, .ref q30, .int 0, .int 0, .int 1, .int 0, .int 0, .int 0, .int 0, .int 0, .long 0, .long 0, .long 0])), (q7, .inl (c7, 10, .inl (fun _ => 0))), (q15, .inl (c15, 10, .inl (fun _ => 0))), (q23, .inl (c23, 10, .inl (fun _ => 0))), (q30, .inl (c30, 4, .inl (fun _ => 0)))]) H := hP
  have hD : va_D A (w ++ [(h, .inr (1, [.int 0, .ref q7, .ref q15, .ref q23, .ref q30, .int 0, .int 0, .int 1, .int 0, .int 0, .int 0, .int 0, .int 0, .long 0, .long 0, .long 0])), (q7, .inl (c7, 10, .inl (fun _ => 0))), (q15, .inl (c15, 10, .inl (fun _ => 0))), (q23, .inl (c23, 10, .inl (fun _ => 0))), (q30, .inl (c30, 4, .inl (fun _ => 0)))]) := hD
  refine lv_aload_n hx hb de_P_init_60 rfl (lv_at hl 0 rfl) ?_
  refine lv_iconst (v := 0) hx hb de_P_init_61 (by decide) ?_
  refine va_put (D := D) (ci := 1) (v := .int 0) (ty := .int) (C := bR_P) (T := bT_P) (N := 16) hx hb ht bin_P bty_P bo_P bn_P hown hK hP hD hS w.length (ap_at _ _ _) rfl 10 (by decide) (ht _ tw_1_80) (fun _ h9 => h9) rfl (by decide +kernel) rfl rfl (Nat.le_of_ble_eq_true rfl) de_P_init_62 (fun H locs hP hD hS => ?_)
  rw [ap_set] at hP hD
  have hP : va_P D kCl (w ++ [(h, .inr (1, [.int 0, .ref q7, .ref q15, .ref q23, .ref q30, .int 0, .int 0, .int 1, .int 0, .int 0, .int 0, .int 0, .int 0, .long 0, .long 0, .long 0])), (q7, .inl (c7, 10, .inl (fun _ => 0))), (q15, .inl (c15, 10, .inl (fun _ => 0))), (q23, .inl (c23, 10, .inl (fun _ => 0))), (q30, .inl (c30, 4, .inl (fun _ => 0)))]) H := hP
  have hD : va_D A (w ++ [(h, .inr (1, [.int 0, .ref q7, .ref q15, .ref q23, .ref q30, .int 0, .int 0, .int 1, .int 0, .int 0, .int 0, .int 0, .int 0, .long 0, .long 0, .long 0])), (q7, .inl (c7, 10, .inl (fun _ => 0))), (q15, .inl (c15, 10, .inl (fun _ => 0))), (q23, .inl (c23, 10, .inl (fun _ => 0))), (q30, .inl (c30, 4, .inl (fun _ => 0)))]) := hD
  refine lv_aload_n hx hb de_P_init_65 rfl (lv_at hl 0 rfl) ?_
  refine lv_iconst (v := 0) hx hb de_P_init_66 (by decide) ?_
  refine va_put (D := D) (ci := 1) (v := .int 0) (ty := .int) (C := bR_P) (T := bT_P) (N := 16) hx hb ht bin_P bty_P bo_P bn_P hown hK hP hD hS w.length (ap_at _ _ _) rfl 11 (by decide) (ht _ tw_1_82) (fun _ h9 => h9) rfl (by decide +kernel) rfl rfl (Nat.le_of_ble_eq_true rfl) de_P_init_67 (fun H locs hP hD hS => ?_)
  rw [ap_set] at hP hD
  have hP : va_P D kCl (w ++ [(h, .inr (1, [.int 0, .ref q7, .ref q15, .ref q23, .ref q30, .int 0, .int 0, .int 1, .int 0, .int 0, .int 0, .int 0, .int 0, .long 0, .long 0, .long 0])), (q7, .inl (c7, 10, .inl (fun _ => 0))), (q15, .inl (c15, 10, .inl (fun _ => 0))), (q23, .inl (c23, 10, .inl (fun _ => 0))), (q30, .inl (c30, 4, .inl (fun _ => 0)))]) H := hP
  have hD : va_D A (w ++ [(h, .inr (1, [.int 0, .ref q7, .ref q15, .ref q23, .ref q30, .int 0, .int 0, .int 1, .int 0, .int 0, .int 0, .int 0, .int 0, .long 0, .long 0, .long 0])), (q7, .inl (c7, 10, .inl (fun _ => 0))), (q15, .inl (c15, 10, .inl (fun _ => 0))), (q23, .inl (c23, 10, .inl (fun _ => 0))), (q30, .inl (c30, 4, .inl (fun _ => 0)))]) := hD
  refine lv_aload_n hx hb de_P_init_70 rfl (lv_at hl 0 rfl) ?_
  refine lv_iconst (v := 0) hx hb de_P_init_71 (by decide) ?_
  refine va_put (D := D) (ci := 1) (v := .int 0) (ty := .boolean) (C := bR_P) (T := bT_P) (N := 16) hx hb ht bin_P bty_P bo_P bn_P hown hK hP hD hS w.length (ap_at _ _ _) rfl 12 (by decide) (ht _ tw_1_84) (fun _ h9 => h9) rfl (by decide +kernel) rfl rfl (Nat.le_of_ble_eq_true rfl) de_P_init_72 (fun H locs hP hD hS => ?_)
  rw [ap_set] at hP hD
  have hP : va_P D kCl (w ++ [(h, .inr (1, [.int 0, .ref q7, .ref q15, .ref q23, .ref q30, .int 0, .int 0, .int 1, .int 0, .int 0, .int 0, .int 0, .int 0, .long 0, .long 0, .long 0])), (q7, .inl (c7, 10, .inl (fun _ => 0))), (q15, .inl (c15, 10, .inl (fun _ => 0))), (q23, .inl (c23, 10, .inl (fun _ => 0))), (q30, .inl (c30, 4, .inl (fun _ => 0)))]) H := hP
  have hD : va_D A (w ++ [(h, .inr (1, [.int 0, .ref q7, .ref q15, .ref q23, .ref q30, .int 0, .int 0, .int 1, .int 0, .int 0, .int 0, .int 0, .int 0, .long 0, .long 0, .long 0])), (q7, .inl (c7, 10, .inl (fun _ => 0))), (q15, .inl (c15, 10, .inl (fun _ => 0))), (q23, .inl (c23, 10, .inl (fun _ => 0))), (q30, .inl (c30, 4, .inl (fun _ => 0)))]) := hD
  refine lv_aload_n hx hb de_P_init_75 rfl (lv_at hl 0 rfl) ?_
  refine lv_lconst (v := 0) hx hb de_P_init_76 (by decide) ?_
  refine va_put (D := D) (ci := 1) (v := .long 0) (ty := .long) (C := bR_P) (T := bT_P) (N := 16) hx hb ht bin_P bty_P bo_P bn_P hown hK hP hD hS w.length (ap_at _ _ _) rfl 13 (by decide) (ht _ tw_1_86) (fun _ h9 => h9) rfl (by decide +kernel) rfl rfl (Nat.le_of_ble_eq_true rfl) de_P_init_77 (fun H locs hP hD hS => ?_)
  rw [ap_set] at hP hD
  have hP : va_P D kCl (w ++ [(h, .inr (1, [.int 0, .ref q7, .ref q15, .ref q23, .ref q30, .int 0, .int 0, .int 1, .int 0, .int 0, .int 0, .int 0, .int 0, .long 0, .long 0, .long 0])), (q7, .inl (c7, 10, .inl (fun _ => 0))), (q15, .inl (c15, 10, .inl (fun _ => 0))), (q23, .inl (c23, 10, .inl (fun _ => 0))), (q30, .inl (c30, 4, .inl (fun _ => 0)))]) H := hP
  have hD : va_D A (w ++ [(h, .inr (1, [.int 0, .ref q7, .ref q15, .ref q23, .ref q30, .int 0, .int 0, .int 1, .int 0, .int 0, .int 0, .int 0, .int 0, .long 0, .long 0, .long 0])), (q7, .inl (c7, 10, .inl (fun _ => 0))), (q15, .inl (c15, 10, .inl (fun _ => 0))), (q23, .inl (c23, 10, .inl (fun _ => 0))), (q30, .inl (c30, 4, .inl (fun _ => 0)))]) := hD
  refine lv_aload_n hx hb de_P_init_80 rfl (lv_at hl 0 rfl) ?_
  refine lv_lconst (v := 0) hx hb de_P_init_81 (by decide) ?_
  refine va_put (D := D) (ci := 1) (v := .long 0) (ty := .long) (C := bR_P) (T := bT_P) (N := 16) hx hb ht bin_P bty_P bo_P bn_P hown hK hP hD hS w.length (ap_at _ _ _) rfl 14 (by decide) (ht _ tw_1_88) (fun _ h9 => h9) rfl (by decide +kernel) rfl rfl (Nat.le_of_ble_eq_true rfl) de_P_init_82 (fun H locs hP hD hS => ?_)
  rw [ap_set] at hP hD
  have hP : va_P D kCl (w ++ [(h, .inr (1, [.int 0, .ref q7, .ref q15, .ref q23, .ref q30, .int 0, .int 0, .int 1, .int 0, .int 0, .int 0, .int 0, .int 0, .long 0, .long 0, .long 0])), (q7, .inl (c7, 10, .inl (fun _ => 0))), (q15, .inl (c15, 10, .inl (fun _ => 0))), (q23, .inl (c23, 10, .inl (fun _ => 0))), (q30, .inl (c30, 4, .inl (fun _ => 0)))]) H := hP
  have hD : va_D A (w ++ [(h, .inr (1, [.int 0, .ref q7, .ref q15, .ref q23, .ref q30, .int 0, .int 0, .int 1, .int 0, .int 0, .int 0, .int 0, .int 0, .long 0, .long 0, .long 0])), (q7, .inl (c7, 10, .inl (fun _ => 0))), (q15, .inl (c15, 10, .inl (fun _ => 0))), (q23, .inl (c23, 10, .inl (fun _ => 0))), (q30, .inl (c30, 4, .inl (fun _ => 0)))]) := hD
  refine lv_aload_n hx hb de_P_init_85 rfl (lv_at hl 0 rfl) ?_
  refine lv_lconst (v := 0) hx hb de_P_init_86 (by decide) ?_
  refine va_put (D := D) (ci := 1) (v := .long 0) (ty := .long) (C := bR_P) (T := bT_P) (N := 16) hx hb ht bin_P bty_P bo_P bn_P hown hK hP hD hS w.length (ap_at _ _ _) rfl 15 (by decide) (ht _ tw_1_90) (fun _ h9 => h9) rfl (by decide +kernel) rfl rfl (Nat.le_of_ble_eq_true rfl) de_P_init_87 (fun H locs hP hD hS => ?_)
  rw [ap_set] at hP hD
  have hP : va_P D kCl (w ++ [(h, .inr (1, [.int 0, .ref q7, .ref q15, .ref q23, .ref q30, .int 0, .int 0, .int 1, .int 0, .int 0, .int 0, .int 0, .int 0, .long 0, .long 0, .long 0])), (q7, .inl (c7, 10, .inl (fun _ => 0))), (q15, .inl (c15, 10, .inl (fun _ => 0))), (q23, .inl (c23, 10, .inl (fun _ => 0))), (q30, .inl (c30, 4, .inl (fun _ => 0)))]) H := hP
  have hD : va_D A (w ++ [(h, .inr (1, [.int 0, .ref q7, .ref q15, .ref q23, .ref q30, .int 0, .int 0, .int 1, .int 0, .int 0, .int 0, .int 0, .int 0, .long 0, .long 0, .long 0])), (q7, .inl (c7, 10, .inl (fun _ => 0))), (q15, .inl (c15, 10, .inl (fun _ => 0))), (q23, .inl (c23, 10, .inl (fun _ => 0))), (q30, .inl (c30, 4, .inl (fun _ => 0)))]) := hD
  refine lv_aload_n hx hb de_P_init_90 rfl (lv_at hl 0 rfl) ?_
  refine lv_iload_n hx hb de_P_init_91 rfl (lv_at hl 1 rfl) ?_
  refine va_putF (D := D) (ci := 1) (v := .int x1) (ty := .int) (C := bR_P) (T := bT_P) (N := 16) hx hb ht bin_P bty_P bo_P bn_P hown hK hP hD hS w.length (ap_at _ _ _) rfl 0 (by decide) (ht _ tw_1_60) (fun _ h9 => h9) rfl hin rfl (by decide +kernel) rfl rfl (Nat.le_of_ble_eq_true rfl) de_P_init_92 (fun H locs hP hD hS => ?_)
  rw [ap_set] at hP hD
  have hP : va_P D kCl (w ++ [(h, .inr (1, [.int x1, .ref q7, .ref q15, .ref q23, .ref q30, .int 0, .int 0, .int 1, .int 0, .int 0, .int 0, .int 0, .int 0, .long 0, .long 0, .long 0])), (q7, .inl (c7, 10, .inl (fun _ => 0))), (q15, .inl (c15, 10, .inl (fun _ => 0))), (q23, .inl (c23, 10, .inl (fun _ => 0))), (q30, .inl (c30, 4, .inl (fun _ => 0)))]) H := hP
  have hD : va_D A (w ++ [(h, .inr (1, [.int x1, .ref q7, .ref q15, .ref q23, .ref q30, .int 0, .int 0, .int 1, .int 0, .int 0, .int 0, .int 0, .int 0, .long 0, .long 0, .long 0])), (q7, .inl (c7, 10, .inl (fun _ => 0))), (q15, .inl (c15, 10, .inl (fun _ => 0))), (q23, .inl (c23, 10, .inl (fun _ => 0))), (q30, .inl (c30, 4, .inl (fun _ => 0)))]) := hD
  exact W.vret hx hb hr (fun t ht hW => ⟨⟨(q7, c7, q15, c15, q23, c23, q30, c30), rfl, trivial, by rw [ht]; exact hP, va_K.moved hW.alike hK, hD⟩, hS.F ht⟩) hS.2.2 de_P_init_95 hlocks
set_option maxHeartbeats 4000000 in
set_option maxRecDepth 100000 in
theorem c_T_init (l : Launch) (D : va_G) (A : Nat → Prop) (w : va_W) (tys : List (ClassId × FieldType)) (h : Nat) : Met l by_T_init (.code by_T_init bc_T_init 1 none :: lw_g) brm_T_init (va_Pc [.ref h] (fun U => (∀ q, U.heap.size ≤ q → A q) ∧ va_P D kCl (w ++ [(h, .inr (4, [.int 0, .int 0]))]) U.heap ∧ va_K D kCl tys U ∧ va_D A (w ++ [(h, .inr (4, [.int 0, .int 0]))]))) (va_Qv (fun _ : Unit => True) (fun u t => va_P D kCl (w ++ [(h, .inr (4, [.int 1000, .int 0]))]) t.heap ∧ va_K D kCl tys t ∧ va_D A (w ++ [(h, .inr (4, [.int 1000, .int 0]))])) A) 0 0 A := by
  refine Met.ofW (cc := bc_T_init) (maxL := 1) (ret := none) (by decide) rfl ?_
  intro p e s m args below meth c s₁ B hml hv
  obtain ⟨rfl, hA, hP, hK, hD⟩ := hv
  have hx := B.exec
  have hb := B.bytes
  have hr := B.returns
  have ht : ∀ w ∈ lw_g, w.before ([.ref h] : List Value).toArray s = true := fun w h => atoms_spec (ws := .code by_T_init bc_T_init 1 none :: lw_g) B.pre w (List.mem_cons_of_mem _ h)
  have hown : s.vm.findClass bR_T = some m.cls := findClass_of_methodNamed B.named
  have hlocks := B.notSynchronized
  have hin : meth.name = "<init>" := (name_of_methodNamed B.named B.method).1
  have S : CallFix p m c bc_T_init 1 s ([.ref h] : List Value).toArray lw_g bR_T := ⟨hx, hb, hml, hown, ht⟩
  have hS : va_S A s.heap s.heap [] := va_S.rf
  have hl := lv_entry ([.ref h]) (n := 1) (Nat.le_of_ble_eq_true rfl)
  rw [lg_entry_eq]
  generalize (lg_sl ([.ref h]) ++ List.replicate (1 - (lg_sl ([.ref h])).length) Slot.unset).toArray = ls at hl ⊢
  have hl : lv_has ls 1 [(0, .ref h)] := hl
  have hP : va_P D kCl (w ++ [(h, .inr (4, [.int 0, .int 0]))]) s.heap := hP
  refine lv_aload_n hx hb de_T_init_0 rfl (lv_at hl 0 rfl) ?_
  refine W.objInit hx hb hown (ht _ tw_1_161) (ht _ tw_1_15) (ht _ tc_obj) rfl (by rw [hml]; exact hl.1) rfl de_T_init_1 (Nat.le_of_ble_eq_true rfl) (Nat.le_of_ble_eq_true rfl) ?_
  refine W.eq (g2 := F0 m 4 ls []) rfl ?_
  refine lv_aload_n hx hb de_T_init_4 rfl (lv_at hl 0 rfl) ?_
  refine lv_sipush (v := 1000) hx hb de_T_init_5 (by decide) ?_
  refine va_put (D := D) (ci := 4) (v := .int 1000) (ty := .int) (C := bR_T) (T := bT_T) (N := 2) hx hb ht bin_T bty_T bo_T bn_T hown hK hP hD hS w.length (ap_at _ _ _) rfl 0 (by decide) (ht _ tw_1_162) (fun _ h9 => h9) rfl (by decide +kernel) rfl rfl (Nat.le_of_ble_eq_true rfl) de_T_init_8 (fun H locs hP hD hS => ?_)
  rw [ap_set] at hP hD
  have hP : va_P D kCl (w ++ [(h, .inr (4, [.int 1000, .int 0]))]) H := hP
  have hD : va_D A (w ++ [(h, .inr (4, [.int 1000, .int 0]))]) := hD
  refine lv_aload_n hx hb de_T_init_11 rfl (lv_at hl 0 rfl) ?_
  refine lv_iconst (v := 0) hx hb de_T_init_12 (by decide) ?_
  refine va_put (D := D) (ci := 4) (v := .int 0) (ty := .int) (C := bR_T) (T := bT_T) (N := 2) hx hb ht bin_T bty_T bo_T bn_T hown hK hP hD hS w.length (ap_at _ _ _) rfl 1 (by decide) (ht _ tw_1_164) (fun _ h9 => h9) rfl (by decide +kernel) rfl rfl (Nat.le_of_ble_eq_true rfl) de_T_init_13 (fun H locs hP hD hS => ?_)
  rw [ap_set] at hP hD
  have hP : va_P D kCl (w ++ [(h, .inr (4, [.int 1000, .int 0]))]) H := hP
  have hD : va_D A (w ++ [(h, .inr (4, [.int 1000, .int 0]))]) := hD
  exact W.vret hx hb hr (fun t ht hW => ⟨⟨(), rfl, trivial, by rw [ht]; exact hP, va_K.moved hW.alike hK, hD⟩, hS.F ht⟩) hS.2.2 de_T_init_16 hlocks
set_option maxHeartbeats 4000000 in
set_option maxRecDepth 100000 in
theorem c_C_init (l : Launch) (D : va_G) (A : Nat → Prop) (w : va_W) (tys : List (ClassId × FieldType)) (h : Nat) : Met l by_C_init (.code by_C_init bc_C_init 1 none :: lw_g) brm_C_init (va_Pc [.ref h] (fun U => (∀ q, U.heap.size ≤ q → A q) ∧ va_P D kCl (w ++ [(h, .inr (5, [.null, .int 0, .int 0]))]) U.heap ∧ va_K D kCl tys U ∧ va_D A (w ++ [(h, .inr (5, [.null, .int 0, .int 0]))]))) (va_Qv (fun _ : Nat × ClassId => True) (fun u t => va_P D kCl (w ++ [(h, .inr (5, [.ref u.1, .int 0, .int 0])), (u.1, .inl (u.2, 64, .inl (fun _ => 0)))]) t.heap ∧ va_K D kCl (tys ++ [(u.2, .int)]) t ∧ va_D A (w ++ [(h, .inr (5, [.ref u.1, .int 0, .int 0])), (u.1, .inl (u.2, 64, .inl (fun _ => 0)))])) A) 1 64 A := by
  refine Met.ofW (cc := bc_C_init) (maxL := 1) (ret := none) (by decide) rfl ?_
  intro p e s m args below meth c s₁ B hml hv
  obtain ⟨rfl, hA, hP, hK, hD⟩ := hv
  have hx := B.exec
  have hb := B.bytes
  have hr := B.returns
  have ht : ∀ w ∈ lw_g, w.before ([.ref h] : List Value).toArray s = true := fun w h => atoms_spec (ws := .code by_C_init bc_C_init 1 none :: lw_g) B.pre w (List.mem_cons_of_mem _ h)
  have hown : s.vm.findClass bR_C = some m.cls := findClass_of_methodNamed B.named
  have hlocks := B.notSynchronized
  have hin : meth.name = "<init>" := (name_of_methodNamed B.named B.method).1
  have S : CallFix p m c bc_C_init 1 s ([.ref h] : List Value).toArray lw_g bR_C := ⟨hx, hb, hml, hown, ht⟩
  have hS : va_S A s.heap s.heap [] := va_S.rf
  have hl := lv_entry ([.ref h]) (n := 1) (Nat.le_of_ble_eq_true rfl)
  rw [lg_entry_eq]
  generalize (lg_sl ([.ref h]) ++ List.replicate (1 - (lg_sl ([.ref h])).length) Slot.unset).toArray = ls at hl ⊢
  have hl : lv_has ls 1 [(0, .ref h)] := hl
  have hP : va_P D kCl (w ++ [(h, .inr (5, [.null, .int 0, .int 0]))]) s.heap := hP
  refine lv_aload_n hx hb de_C_init_0 rfl (lv_at hl 0 rfl) ?_
  refine W.objInit hx hb hown (ht _ tw_1_44) (ht _ tw_1_15) (ht _ tc_obj) rfl (by rw [hml]; exact hl.1) rfl de_C_init_1 (Nat.le_of_ble_eq_true rfl) (Nat.le_of_ble_eq_true rfl) ?_
  refine W.eq (g2 := F0 m 4 ls []) rfl ?_
  refine lv_aload_n hx hb de_C_init_4 rfl (lv_at hl 0 rfl) ?_
  refine lv_bipush (v := 64) hx hb de_C_init_5 (by decide) ?_
  refine va_newa (atype := .int) (ty := .int) (N' := 64) (a0 := (64, .inl (fun _ => 0))) hx hb (ht _ tw_1_38) rfl hK hP hD hS hA (fun cA => rfl) (by decide) (by decide) (by decide) (Nat.le_of_ble_eq_true rfl) (Nat.le_of_ble_eq_true rfl) de_C_init_7 (fun q7 c7 H hK hP hD hS => ?_)
  rw [List.append_assoc] at hP hD
  have hP : va_P D kCl (w ++ [(h, .inr (5, [.null, .int 0, .int 0])), (q7, .inl (c7, 64, .inl (fun _ => 0)))]) H := hP
  have hD : va_D A (w ++ [(h, .inr (5, [.null, .int 0, .int 0])), (q7, .inl (c7, 64, .inl (fun _ => 0)))]) := hD
  refine va_putF (D := D) (ci := 5) (v := .ref q7) (ty := .array .int) (C := bR_C) (T := bT_C) (N := 3) hx hb ht bin_C bty_C bo_C bn_C hown hK hP hD hS w.length (ap_at _ _ _) rfl 0 (by decide) (ht _ tw_1_45) (fun _ h9 => h9) rfl hin rfl (by decide +kernel) rfl rfl (Nat.le_of_ble_eq_true rfl) de_C_init_9 (fun H locs hP hD hS => ?_)
  rw [ap_set] at hP hD
  have hP : va_P D kCl (w ++ [(h, .inr (5, [.ref q7, .int 0, .int 0])), (q7, .inl (c7, 64, .inl (fun _ => 0)))]) H := hP
  have hD : va_D A (w ++ [(h, .inr (5, [.ref q7, .int 0, .int 0])), (q7, .inl (c7, 64, .inl (fun _ => 0)))]) := hD
  refine lv_aload_n hx hb de_C_init_12 rfl (lv_at hl 0 rfl) ?_
  refine lv_iconst (v := 0) hx hb de_C_init_13 (by decide) ?_
  refine va_put (D := D) (ci := 5) (v := .int 0) (ty := .int) (C := bR_C) (T := bT_C) (N := 3) hx hb ht bin_C bty_C bo_C bn_C hown hK hP hD hS w.length (ap_at _ _ _) rfl 1 (by decide) (ht _ tw_1_46) (fun _ h9 => h9) rfl (by decide +kernel) rfl rfl (Nat.le_of_ble_eq_true rfl) de_C_init_14 (fun H locs hP hD hS => ?_)
  rw [ap_set] at hP hD
  have hP : va_P D kCl (w ++ [(h, .inr (5, [.ref q7, .int 0, .int 0])), (q7, .inl (c7, 64, .inl (fun _ => 0)))]) H := hP
  have hD : va_D A (w ++ [(h, .inr (5, [.ref q7, .int 0, .int 0])), (q7, .inl (c7, 64, .inl (fun _ => 0)))]) := hD
  refine lv_aload_n hx hb de_C_init_17 rfl (lv_at hl 0 rfl) ?_
  refine lv_iconst (v := 0) hx hb de_C_init_18 (by decide) ?_
  refine va_put (D := D) (ci := 5) (v := .int 0) (ty := .int) (C := bR_C) (T := bT_C) (N := 3) hx hb ht bin_C bty_C bo_C bn_C hown hK hP hD hS w.length (ap_at _ _ _) rfl 2 (by decide) (ht _ tw_1_47) (fun _ h9 => h9) rfl (by decide +kernel) rfl rfl (Nat.le_of_ble_eq_true rfl) de_C_init_19 (fun H locs hP hD hS => ?_)
  rw [ap_set] at hP hD
  have hP : va_P D kCl (w ++ [(h, .inr (5, [.ref q7, .int 0, .int 0])), (q7, .inl (c7, 64, .inl (fun _ => 0)))]) H := hP
  have hD : va_D A (w ++ [(h, .inr (5, [.ref q7, .int 0, .int 0])), (q7, .inl (c7, 64, .inl (fun _ => 0)))]) := hD
  exact W.vret hx hb hr (fun t ht hW => ⟨⟨(q7, c7), rfl, trivial, by rw [ht]; exact hP, va_K.moved hW.alike hK, hD⟩, hS.F ht⟩) hS.2.2 de_C_init_22 hlocks
set_option maxHeartbeats 4000000 in
set_option maxRecDepth 100000 in
theorem c_E_init (l : Launch) (D : va_G) (A : Nat → Prop) (w : va_W) (tys : List (ClassId × FieldType)) (h : Nat) : Met l by_E_init (.code by_E_init bc_E_init 1 none :: lw_g) brm_E_init (va_Pc [.ref h] (fun U => (∀ q, U.heap.size ≤ q → A q) ∧ va_P D kCl (w ++ [(h, .inr (3, [.null, .int 0, .int 0, .int 0, .long 0, .long 0]))]) U.heap ∧ va_K D kCl tys U ∧ va_D A (w ++ [(h, .inr (3, [.null, .int 0, .int 0, .int 0, .long 0, .long 0]))]) ∧ va_Nw (.methodLinkNest bR_E 9 by_L_init bR_K) U)) (va_Qv (fun _ : Nat × Nat × ClassId => True) (fun u t => va_P D kCl (w ++ [(h, .inr (3, [.ref u.1, .int 1, .int 0, .int 0, .long 0, .long 0])), (u.1, .inr (2, [.ref u.2.1, .int 0])), (u.2.1, .inl (u.2.2, 12, .inl (fun _ => 0)))]) t.heap ∧ va_K D kCl (tys ++ [(u.2.2, .int)]) t ∧ va_D A (w ++ [(h, .inr (3, [.ref u.1, .int 1, .int 0, .int 0, .long 0, .long 0])), (u.1, .inr (2, [.ref u.2.1, .int 0])), (u.2.1, .inl (u.2.2, 12, .inl (fun _ => 0)))])) A) 2 14 A := by
  refine Met.ofW (cc := bc_E_init) (maxL := 1) (ret := none) (by decide) rfl ?_
  intro p e s m args below meth c s₁ B hml hv
  obtain ⟨rfl, hA, hP, hK, hD, hN⟩ := hv
  have hx := B.exec
  have hb := B.bytes
  have hr := B.returns
  have ht : ∀ w ∈ lw_g, w.before ([.ref h] : List Value).toArray s = true := fun w h => atoms_spec (ws := .code by_E_init bc_E_init 1 none :: lw_g) B.pre w (List.mem_cons_of_mem _ h)
  have hown : s.vm.findClass bR_E = some m.cls := findClass_of_methodNamed B.named
  have hlocks := B.notSynchronized
  have hin : meth.name = "<init>" := (name_of_methodNamed B.named B.method).1
  have S : CallFix p m c bc_E_init 1 s ([.ref h] : List Value).toArray lw_g bR_E := ⟨hx, hb, hml, hown, ht⟩
  have hS : va_S A s.heap s.heap [] := va_S.rf
  have hl := lv_entry ([.ref h]) (n := 1) (Nat.le_of_ble_eq_true rfl)
  rw [lg_entry_eq]
  generalize (lg_sl ([.ref h]) ++ List.replicate (1 - (lg_sl ([.ref h])).length) Slot.unset).toArray = ls at hl ⊢
  have hl : lv_has ls 1 [(0, .ref h)] := hl
  have hP : va_P D kCl (w ++ [(h, .inr (3, [.null, .int 0, .int 0, .int 0, .long 0, .long 0]))]) s.heap := hP
  refine lv_aload_n hx hb de_E_init_0 rfl (lv_at hl 0 rfl) ?_
  refine W.objInit hx hb hown (ht _ tw_1_129) (ht _ tw_1_15) (ht _ tc_obj) rfl (by rw [hml]; exact hl.1) rfl de_E_init_1 (Nat.le_of_ble_eq_true rfl) (Nat.le_of_ble_eq_true rfl) ?_
  refine W.eq (g2 := F0 m 4 ls []) rfl ?_
  refine lv_aload_n hx hb de_E_init_4 rfl (lv_at hl 0 rfl) ?_
  refine va_new (ci := 2) (fs := [.null, .int 0]) (C := bR_L) (T := bT_L) (N := 2) hx hb ht bin_L bty_L bo_L hown (ht _ tw_1_130) (ht _ tw_1_24) (ht _ tw_1_2) hK hP hD hS hA rfl (by decide) (Nat.le_of_ble_eq_true rfl) (Nat.le_of_ble_eq_true rfl) de_E_init_5 (fun q5 H hP hD hS => ?_)
  refine lv_dup hx hb de_E_init_8 rfl ?_
  refine va_callv (va_runIN (As := []) (rest := [.ref q5, .ref h]) S (c_L_init l D A (w ++ [(h, .inr (3, [.null, .int 0, .int 0, .int 0, .long 0, .long 0]))]) tys q5) ⟨va_cnB 0 ht (gi_in tc_L_init) rfl rfl rfl hN (ht _ tw_1_2) bh_L_init.2 ⟨(Nat.le_of_ble_eq_true rfl), (Nat.le_of_ble_eq_true rfl)⟩, rfl, ht _ tw_1_26⟩ ⟨fun a U g mk h => ⟨h.1, h.2.1, h.2.2.1, va_K.moved (u := U) (U := U.calling g mk a) (Vm.Alike.refl U.vm) h.2.2.2.1, h.2.2.2.2⟩, fun U hU hW => ⟨rfl, fun q h => hA q (Nat.le_trans hS.1 (by rw [← hU]; exact h)), by rw [hU]; exact hP, va_K.moved hW.alike hK, hD⟩⟩ rfl rfl hl.1 rfl (lv_room (Nat.le_of_ble_eq_true rfl)) de_E_init_9 ⟨(Nat.le_of_ble_eq_true rfl), (Nat.le_of_ble_eq_true rfl)⟩) hS (fun _ _ h => h) (fun _ h => h) (fun u9 t H1 locs hth hvm _ hB _ _ hS => ?_)
  obtain ⟨hP, hK1, hD⟩ := hB
  rw [hth] at hP
  have hK := va_K.moved hvm.symm hK1
  generalize H1 = H at hP hS ⊢
  obtain ⟨a9, c9⟩ := u9
  rw [List.append_assoc] at hP hD
  have hP : va_P D kCl (w ++ [(h, .inr (3, [.null, .int 0, .int 0, .int 0, .long 0, .long 0])), (q5, .inr (2, [.ref a9, .int 0])), (a9, .inl (c9, 12, .inl (fun _ => 0)))]) H := hP
  have hD : va_D A (w ++ [(h, .inr (3, [.null, .int 0, .int 0, .int 0, .long 0, .long 0])), (q5, .inr (2, [.ref a9, .int 0])), (a9, .inl (c9, 12, .inl (fun _ => 0)))]) := hD
  refine va_putF (D := D) (ci := 3) (v := .ref q5) (ty := .object "BatonKernel$Line") (C := bR_E) (T := bT_E) (N := 6) hx hb ht bin_E bty_E bo_E bn_E hown hK hP hD hS w.length (ap_at _ _ _) rfl 0 (by decide) (ht _ tw_1_132) (fun _ h9 => h9) rfl hin rfl (by decide +kernel) rfl rfl (Nat.le_of_ble_eq_true rfl) de_E_init_12 (fun H locs hP hD hS => ?_)
  rw [ap_set] at hP hD
  have hP : va_P D kCl (w ++ [(h, .inr (3, [.ref q5, .int 0, .int 0, .int 0, .long 0, .long 0])), (q5, .inr (2, [.ref a9, .int 0])), (a9, .inl (c9, 12, .inl (fun _ => 0)))]) H := hP
  have hD : va_D A (w ++ [(h, .inr (3, [.ref q5, .int 0, .int 0, .int 0, .long 0, .long 0])), (q5, .inr (2, [.ref a9, .int 0])), (a9, .inl (c9, 12, .inl (fun _ => 0)))]) := hD
  refine lv_aload_n hx hb de_E_init_15 rfl (lv_at hl 0 rfl) ?_
  refine lv_iconst (v := 1) hx hb de_E_init_16 (by decide) ?_
  refine va_put (D := D) (ci := 3) (v := .int 1) (ty := .int) (C := bR_E) (T := bT_E) (N := 6) hx hb ht bin_E bty_E bo_E bn_E hown hK hP hD hS w.length (ap_at _ _ _) rfl 1 (by decide) (ht _ tw_1_134) (fun _ h9 => h9) rfl (by decide +kernel) rfl rfl (Nat.le_of_ble_eq_true rfl) de_E_init_17 (fun H locs hP hD hS => ?_)
  rw [ap_set] at hP hD
  have hP : va_P D kCl (w ++ [(h, .inr (3, [.ref q5, .int 1, .int 0, .int 0, .long 0, .long 0])), (q5, .inr (2, [.ref a9, .int 0])), (a9, .inl (c9, 12, .inl (fun _ => 0)))]) H := hP
  have hD : va_D A (w ++ [(h, .inr (3, [.ref q5, .int 1, .int 0, .int 0, .long 0, .long 0])), (q5, .inr (2, [.ref a9, .int 0])), (a9, .inl (c9, 12, .inl (fun _ => 0)))]) := hD
  refine lv_aload_n hx hb de_E_init_20 rfl (lv_at hl 0 rfl) ?_
  refine lv_iconst (v := 0) hx hb de_E_init_21 (by decide) ?_
  refine va_put (D := D) (ci := 3) (v := .int 0) (ty := .int) (C := bR_E) (T := bT_E) (N := 6) hx hb ht bin_E bty_E bo_E bn_E hown hK hP hD hS w.length (ap_at _ _ _) rfl 2 (by decide) (ht _ tw_1_136) (fun _ h9 => h9) rfl (by decide +kernel) rfl rfl (Nat.le_of_ble_eq_true rfl) de_E_init_22 (fun H locs hP hD hS => ?_)
  rw [ap_set] at hP hD
  have hP : va_P D kCl (w ++ [(h, .inr (3, [.ref q5, .int 1, .int 0, .int 0, .long 0, .long 0])), (q5, .inr (2, [.ref a9, .int 0])), (a9, .inl (c9, 12, .inl (fun _ => 0)))]) H := hP
  have hD : va_D A (w ++ [(h, .inr (3, [.ref q5, .int 1, .int 0, .int 0, .long 0, .long 0])), (q5, .inr (2, [.ref a9, .int 0])), (a9, .inl (c9, 12, .inl (fun _ => 0)))]) := hD
  refine lv_aload_n hx hb de_E_init_25 rfl (lv_at hl 0 rfl) ?_
  refine lv_iconst (v := 0) hx hb de_E_init_26 (by decide) ?_
  refine va_put (D := D) (ci := 3) (v := .int 0) (ty := .boolean) (C := bR_E) (T := bT_E) (N := 6) hx hb ht bin_E bty_E bo_E bn_E hown hK hP hD hS w.length (ap_at _ _ _) rfl 3 (by decide) (ht _ tw_1_138) (fun _ h9 => h9) rfl (by decide +kernel) rfl rfl (Nat.le_of_ble_eq_true rfl) de_E_init_27 (fun H locs hP hD hS => ?_)
  rw [ap_set] at hP hD
  have hP : va_P D kCl (w ++ [(h, .inr (3, [.ref q5, .int 1, .int 0, .int 0, .long 0, .long 0])), (q5, .inr (2, [.ref a9, .int 0])), (a9, .inl (c9, 12, .inl (fun _ => 0)))]) H := hP
  have hD : va_D A (w ++ [(h, .inr (3, [.ref q5, .int 1, .int 0, .int 0, .long 0, .long 0])), (q5, .inr (2, [.ref a9, .int 0])), (a9, .inl (c9, 12, .inl (fun _ => 0)))]) := hD
  refine lv_aload_n hx hb de_E_init_30 rfl (lv_at hl 0 rfl) ?_
  refine lv_lconst (v := 0) hx hb de_E_init_31 (by decide) ?_
  refine va_put (D := D) (ci := 3) (v := .long 0) (ty := .long) (C := bR_E) (T := bT_E) (N := 6) hx hb ht bin_E bty_E bo_E bn_E hown hK hP hD hS w.length (ap_at _ _ _) rfl 4 (by decide) (ht _ tw_1_140) (fun _ h9 => h9) rfl (by decide +kernel) rfl rfl (Nat.le_of_ble_eq_true rfl) de_E_init_32 (fun H locs hP hD hS => ?_)
  rw [ap_set] at hP hD
  have hP : va_P D kCl (w ++ [(h, .inr (3, [.ref q5, .int 1, .int 0, .int 0, .long 0, .long 0])), (q5, .inr (2, [.ref a9, .int 0])), (a9, .inl (c9, 12, .inl (fun _ => 0)))]) H := hP
  have hD : va_D A (w ++ [(h, .inr (3, [.ref q5, .int 1, .int 0, .int 0, .long 0, .long 0])), (q5, .inr (2, [.ref a9, .int 0])), (a9, .inl (c9, 12, .inl (fun _ => 0)))]) := hD
  refine lv_aload_n hx hb de_E_init_35 rfl (lv_at hl 0 rfl) ?_
  refine lv_lconst (v := 0) hx hb de_E_init_36 (by decide) ?_
  refine va_put (D := D) (ci := 3) (v := .long 0) (ty := .long) (C := bR_E) (T := bT_E) (N := 6) hx hb ht bin_E bty_E bo_E bn_E hown hK hP hD hS w.length (ap_at _ _ _) rfl 5 (by decide) (ht _ tw_1_142) (fun _ h9 => h9) rfl (by decide +kernel) rfl rfl (Nat.le_of_ble_eq_true rfl) de_E_init_37 (fun H locs hP hD hS => ?_)
  rw [ap_set] at hP hD
  have hP : va_P D kCl (w ++ [(h, .inr (3, [.ref q5, .int 1, .int 0, .int 0, .long 0, .long 0])), (q5, .inr (2, [.ref a9, .int 0])), (a9, .inl (c9, 12, .inl (fun _ => 0)))]) H := hP
  have hD : va_D A (w ++ [(h, .inr (3, [.ref q5, .int 1, .int 0, .int 0, .long 0, .long 0])), (q5, .inr (2, [.ref a9, .int 0])), (a9, .inl (c9, 12, .inl (fun _ => 0)))]) := hD
  exact W.vret hx hb hr (fun t ht hW => ⟨⟨(q5, a9, c9), rfl, trivial, by rw [ht]; exact hP, va_K.moved hW.alike hK, hD⟩, hS.F ht⟩) hS.2.2 de_E_init_40 hlocks
