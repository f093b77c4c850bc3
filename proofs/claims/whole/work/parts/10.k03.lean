set_option maxHeartbeats 4000000 in
set_option maxRecDepth 100000 in
theorem w_K_moveClock_2 {p : Program} {l : Launch} {e : Env} {s : State} {m : MethodId} {args : Array Value} {below : List Frame} {meth : Method} {c : Code} {Q : State → Prop} {D : va_G} {aa : Nat → Nat → Nat} {q : Nat → ClassId} (hJ : wJ kC aa) (S : CallFix p m c bc_K_moveClock 4 s args lw_g bR_K) (hlocks : meth.locks = false) (hK : va_K D kCl (kT q) s) : ∀ (n : Nat) (σ : kS) (x1 : Int64) (x3 : Int32) (ex : kS × Int32) (H : Heap) (locs : List Loc) (ls : Array Slot), lv_has ls 4 [(0, .ref (aa 0 0)), (1, .long x1), (3, .int x3)] → va_P D kCl (kW aa q σ) H → va_S (wA kC aa) s.heap H locs → F_K_moveClock_2 n σ x1 x3 = some ex → (∀ (H1 : Heap) (locs1 : List Loc) (ls1 : Array Slot), lv_has ls1 4 [(0, .ref (aa 0 0)), (1, .long x1), (3, .int ex.2)] → va_P D kCl (kW aa q ex.1) H1 → va_S (wA kC aa) s.heap H1 locs1 → W p l e brm_K_moveClock s m args below meth c H1 locs1 0 0 Q (F0 m 44 ls1 [])) → W p l e brm_K_moveClock s m args below meth c H locs 0 0 Q (F0 m 2 ls []) := by
  obtain ⟨hx, hb, hml, hown, hts⟩ := id S
  have ht := hts
  intro n
  induction n with
  | zero => intro σ x1 x3 ex H locs ls hl hP hS h k; cases (show (none : Option (kS × Int32)) = some ex from h)
  | succ n ih =>
    intro σ x1 x3 ex H locs ls hl hP hS h k
    unfold F_K_moveClock_2 at h
    refine lv_iload_n hx hb de_K_moveClock_2 rfl (lv_at hl 2 rfl) ?_
    refine lv_iconst (v := 4) hx hb de_K_moveClock_3 (by decide) ?_
    refine lv_icmp_ge (tgt := 44) hx hb de_K_moveClock_4 (by decide) (fun hc => ?_) (fun hc => ?_)
    · have h := ie_t h hc
      have h := Option.some.inj h
      subst h
      exact k _ _ _ (lv_sub hl [0, 1, 2] rfl) hP hS
    · have h := ie_f h hc
      refine lv_aload_n hx hb de_K_moveClock_7 rfl (lv_at hl 0 rfl) ?_
      refine kg_0 (v := .ref (aa 2 0)) hx hb ht hown hK hP (by decide) 1 (by decide) tw_1_172 rfl de_K_moveClock_8 ?_
      refine lv_iload_n hx hb de_K_moveClock_11 rfl (lv_at hl 2 rfl) ?_
      obtain ⟨hi1, h⟩ := gd_some h
      refine kl_2 hx hb hK hP (by decide) (inb_in hi1) de_K_moveClock_12 (fun j2 ej2 => ?_)
      have h := lx_at h j2 ej2
      have hj2 : j2 < 4 := by rw [ej2]; exact inb_lt hi1
      refine lv_dup hx hb de_K_moveClock_13 rfl ?_
      refine kg_14 (v := .long (gL σ 5 j2 0)) hx hb ht hown hK hP hj2 4 (by decide) tw_1_141 rfl de_K_moveClock_14 ?_
      refine lv_aload_n hx hb de_K_moveClock_17 rfl (lv_at hl 0 rfl) ?_
      refine kg_0 (v := .ref (aa 2 0)) hx hb ht hown hK hP (by decide) 1 (by decide) tw_1_172 rfl de_K_moveClock_18 ?_
      refine lv_iload_n hx hb de_K_moveClock_21 rfl (lv_at hl 2 rfl) ?_
      obtain ⟨hi3, h⟩ := gd_some h
      refine kl_2 hx hb hK hP (by decide) (inb_in hi3) de_K_moveClock_22 (fun j4 ej4 => ?_)
      have h := lx_at h j4 ej4
      have hj4 : j4 < 4 := by rw [ej4]; exact inb_lt hi3
      refine kg_14 (v := .int (gI σ 16 j4 0)) hx hb ht hown hK hP hj4 2 (by decide) tw_1_137 rfl de_K_moveClock_23 ?_
      refine lv_i2l (v := (gI σ 16 j4 0).toInt64) hx hb de_K_moveClock_26 rfl ?_
      refine lv_lload_n hx hb de_K_moveClock_27 rfl (lv_at hl 1 rfl) ?_
      refine lv_aload_n hx hb de_K_moveClock_28 rfl (lv_at hl 0 rfl) ?_
      refine kg_0 (v := .long (gL σ 0 0 0)) hx hb ht hown hK hP (by decide) 7 (by decide) tw_1_178 rfl de_K_moveClock_29 ?_
      refine lv_lsub hx hb de_K_moveClock_32 ?_
      refine lv_lmul hx hb de_K_moveClock_33 ?_
      refine lv_ladd hx hb de_K_moveClock_34 ?_
      refine kp_14_area hx hb ht hown hK hP hJ hS hj2 tw_1_141 de_K_moveClock_35 (fun H locs hP hS => ?_)
      obtain ⟨σ5, eσ5, h⟩ := lx_ex h
      rw [← eσ5] at hP
      refine lv_iinc (k := 2) (v := x3 + 1) (lv' := [(3, .int (x3 + 1)), (0, .ref (aa 0 0)), (1, .long x1)]) hx hb de_K_moveClock_38 hl rfl (ii_p1 _) (by decide) rfl (fun ls hl => ?_)
      refine lv_goto (tgt := 2) hx hb de_K_moveClock_41 (by decide) ?_
      exact ih σ5 x1 (x3 + 1) ex _ _ _ (lv_sub hl [1, 2, 0] rfl) hP hS h k
set_option maxHeartbeats 4000000 in
set_option maxRecDepth 100000 in
theorem c_K_moveClock (l : Launch) (D : va_G) (aa : Nat → Nat → Nat) (q : Nat → ClassId) (hJ : wJ kC aa) (σ : kS) (x1 : Int64) (res : kS) (h : F_K_moveClock σ x1 = some res) : Met l by_K_moveClock (.code by_K_moveClock bc_K_moveClock 4 none :: lw_g) brm_K_moveClock (va_Pc [.ref (aa 0 0), .long x1] (kPre D aa q σ)) (va_Qv (fun u : kS => u = res) (kB D aa q) (wA kC aa)) 0 0 (wA kC aa) := by
  refine Met.ofW (cc := bc_K_moveClock) (maxL := 4) (ret := none) (by decide) rfl ?_
  intro p e s m args below meth c s₁ B hml hv
  obtain ⟨rfl, hP, hK⟩ := hv
  have hx := B.exec
  have hb := B.bytes
  have hr := B.returns
  have ht : ∀ w ∈ lw_g, w.before ([.ref (aa 0 0), .long x1] : List Value).toArray s = true := fun w h => atoms_spec (ws := .code by_K_moveClock bc_K_moveClock 4 none :: lw_g) B.pre w (List.mem_cons_of_mem _ h)
  have hown : s.vm.findClass bR_K = some m.cls := findClass_of_methodNamed B.named
  have hlocks := B.notSynchronized
  have S : CallFix p m c bc_K_moveClock 4 s ([.ref (aa 0 0), .long x1] : List Value).toArray lw_g bR_K := ⟨hx, hb, hml, hown, ht⟩
  have hS : va_S (wA kC aa) s.heap s.heap [] := va_S.rf
  have hl := lv_entry ([.ref (aa 0 0), .long x1]) (n := 4) (Nat.le_of_ble_eq_true rfl)
  rw [lg_entry_eq]
  generalize (lg_sl ([.ref (aa 0 0), .long x1]) ++ List.replicate (4 - (lg_sl ([.ref (aa 0 0), .long x1])).length) Slot.unset).toArray = ls at hl ⊢
  have hl : lv_has ls 4 [(0, .ref (aa 0 0)), (1, .long x1)] := hl
  unfold F_K_moveClock at h
  refine lv_iconst (v := 0) hx hb de_K_moveClock_0 (by decide) ?_
  refine lv_istore_n (lv' := [(3, .int 0), (0, .ref (aa 0 0)), (1, .long x1)]) hx hb de_K_moveClock_1 rfl hl (by decide) rfl (fun ls hl => ?_)
  obtain ⟨ex1, hex1, h⟩ := bd_some h
  refine w_K_moveClock_2 hJ S hlocks hK 1000 σ x1 0 ex1 _ _ _ (lv_sub hl [1, 2, 0] rfl) hP hS hex1 (fun H locs ls hl hP hS => ?_)
  refine lv_aload_n hx hb de_K_moveClock_44 rfl (lv_at hl 0 rfl) ?_
  refine lv_lload_n hx hb de_K_moveClock_45 rfl (lv_at hl 1 rfl) ?_
  refine kp_0_clock hx hb ht hown hK hP hJ hS (by decide) tw_1_178 de_K_moveClock_46 (fun H locs hP hS => ?_)
  obtain ⟨σ2, eσ2, h⟩ := lx_ex h
  rw [← eσ2] at hP
  have h := Option.some.inj h
  subst h
  exact W.vret hx hb hr (fun t ht hW => ⟨⟨_, rfl, rfl, by rw [ht]; exact hP, va_K.moved hW.alike hK⟩, hS.F ht⟩) hS.2.2 de_K_moveClock_49 hlocks
set_option maxHeartbeats 4000000 in
set_option maxRecDepth 100000 in
theorem c_C_add (l : Launch) (D : va_G) (aa : Nat → Nat → Nat) (q : Nat → ClassId) (hJ : wJ kC aa) (σ : kS) (x1 : Int32) (res : kS) (h : F_C_add σ x1 = some res) : Met l by_C_add (.code by_C_add bc_C_add 2 none :: lw_g) brm_C_add (va_Pc [.ref (aa 6 0), .int x1] (kPre D aa q σ)) (va_Qv (fun u : kS => u = res) (kB D aa q) (wA kC aa)) 0 0 (wA kC aa) := by
  refine Met.ofW (cc := bc_C_add) (maxL := 2) (ret := none) (by decide) rfl ?_
  intro p e s m args below meth c s₁ B hml hv
  obtain ⟨rfl, hP, hK⟩ := hv
  have hx := B.exec
  have hb := B.bytes
  have hr := B.returns
  have ht : ∀ w ∈ lw_g, w.before ([.ref (aa 6 0), .int x1] : List Value).toArray s = true := fun w h => atoms_spec (ws := .code by_C_add bc_C_add 2 none :: lw_g) B.pre w (List.mem_cons_of_mem _ h)
  have hown : s.vm.findClass bR_C = some m.cls := findClass_of_methodNamed B.named
  have hlocks := B.notSynchronized
  have S : CallFix p m c bc_C_add 2 s ([.ref (aa 6 0), .int x1] : List Value).toArray lw_g bR_C := ⟨hx, hb, hml, hown, ht⟩
  have hS : va_S (wA kC aa) s.heap s.heap [] := va_S.rf
  have hl := lv_entry ([.ref (aa 6 0), .int x1]) (n := 2) (Nat.le_of_ble_eq_true rfl)
  rw [lg_entry_eq]
  generalize (lg_sl ([.ref (aa 6 0), .int x1]) ++ List.replicate (2 - (lg_sl ([.ref (aa 6 0), .int x1])).length) Slot.unset).toArray = ls at hl ⊢
  have hl : lv_has ls 2 [(0, .ref (aa 6 0)), (1, .int x1)] := hl
  unfold F_C_add at h
  refine lv_aload_n hx hb de_C_add_0 rfl (lv_at hl 0 rfl) ?_
  refine lv_aload_n hx hb de_C_add_1 rfl (lv_at hl 0 rfl) ?_
  refine kg_6 (v := .int (gI σ 23 0 0)) hx hb ht hown hK hP (by decide) 1 (by decide) tw_1_46 rfl de_C_add_2 ?_
  refine lv_iconst (v := 1) hx hb de_C_add_5 (by decide) ?_
  refine lv_iadd hx hb de_C_add_6 ?_
  refine lv_bipush (v := 64) hx hb de_C_add_7 (by decide) ?_
  refine lv_irem hx hb de_C_add_9 (by decide) ?_
  refine kp_6_latest hx hb ht hown hK hP hJ hS (by decide) tw_1_46 de_C_add_10 (fun H locs hP hS => ?_)
  obtain ⟨σ1, eσ1, h⟩ := lx_ex h
  rw [← eσ1] at hP
  refine lv_aload_n hx hb de_C_add_13 rfl (lv_at hl 0 rfl) ?_
  refine kg_6 (v := .ref (aa 7 0)) hx hb ht hown hK hP (by decide) 0 (by decide) tw_1_45 rfl de_C_add_14 ?_
  refine lv_aload_n hx hb de_C_add_17 rfl (lv_at hl 0 rfl) ?_
  refine kg_6 (v := .int (gI σ1 23 0 0)) hx hb ht hown hK hP (by decide) 1 (by decide) tw_1_46 rfl de_C_add_18 ?_
  refine lv_iload_n hx hb de_C_add_21 rfl (lv_at hl 1 rfl) ?_
  obtain ⟨hi2, h⟩ := gd_some h
  refine kt_7 hx hb hK hP hJ hS (by decide) (inb_in hi2) de_C_add_22 (fun H locs hP hS => ?_)
  obtain ⟨σ3, eσ3, h⟩ := lx_ex h
  rw [← eσ3] at hP
  refine lv_aload_n hx hb de_C_add_23 rfl (lv_at hl 0 rfl) ?_
  refine lv_aload_n hx hb de_C_add_24 rfl (lv_at hl 0 rfl) ?_
  refine kg_6 (v := .int (gI σ3 24 0 0)) hx hb ht hown hK hP (by decide) 2 (by decide) tw_1_47 rfl de_C_add_25 ?_
  refine lv_iconst (v := 1) hx hb de_C_add_28 (by decide) ?_
  refine lv_iadd hx hb de_C_add_29 ?_
  refine lv_bipush (v := 64) hx hb de_C_add_30 (by decide) ?_
  refine va_mmin hx hb (hml.trans hl.1.symm) hown (ht _ tw_2_88) (ht _ tw_2_57) (ht _ tw_1_8) (ht _ tw_min) (Nat.le_of_ble_eq_true rfl) (Nat.le_of_ble_eq_true rfl) (Nat.zero_le _) (Nat.zero_le _) de_C_add_32 ?_
  refine kp_6_size hx hb ht hown hK hP hJ hS (by decide) tw_1_47 de_C_add_35 (fun H locs hP hS => ?_)
  obtain ⟨σ4, eσ4, h⟩ := lx_ex h
  rw [← eσ4] at hP
  have h := Option.some.inj h
  subst h
  exact W.vret hx hb hr (fun t ht hW => ⟨⟨_, rfl, rfl, by rw [ht]; exact hP, va_K.moved hW.alike hK⟩, hS.F ht⟩) hS.2.2 de_C_add_38 hlocks
set_option maxHeartbeats 4000000 in
set_option maxRecDepth 100000 in
theorem c_K_begin (l : Launch) (D : va_G) (aa : Nat → Nat → Nat) (q : Nat → ClassId) (hJ : wJ kC aa) (σ : kS) (g1 : Nat) (hg1 : g1 < 12) (res : kS) (h : F_K_begin σ g1 = some res) : Met l by_K_begin (.code by_K_begin bc_K_begin 2 none :: lw_g) brm_K_begin (va_Pc [.ref (aa 0 0), .ref (aa 9 g1)] (kPre D aa q σ)) (va_Qv (fun u : kS => u = res) (kB D aa q) (wA kC aa)) 0 0 (wA kC aa) := by
  refine Met.ofW (cc := bc_K_begin) (maxL := 2) (ret := none) (by decide) rfl ?_
  intro p e s m args below meth c s₁ B hml hv
  obtain ⟨rfl, hP, hK⟩ := hv
  have hx := B.exec
  have hb := B.bytes
  have hr := B.returns
  have ht : ∀ w ∈ lw_g, w.before ([.ref (aa 0 0), .ref (aa 9 g1)] : List Value).toArray s = true := fun w h => atoms_spec (ws := .code by_K_begin bc_K_begin 2 none :: lw_g) B.pre w (List.mem_cons_of_mem _ h)
  have hown : s.vm.findClass bR_K = some m.cls := findClass_of_methodNamed B.named
  have hlocks := B.notSynchronized
  have S : CallFix p m c bc_K_begin 2 s ([.ref (aa 0 0), .ref (aa 9 g1)] : List Value).toArray lw_g bR_K := ⟨hx, hb, hml, hown, ht⟩
  have hS : va_S (wA kC aa) s.heap s.heap [] := va_S.rf
  have hl := lv_entry ([.ref (aa 0 0), .ref (aa 9 g1)]) (n := 2) (Nat.le_of_ble_eq_true rfl)
  rw [lg_entry_eq]
  generalize (lg_sl ([.ref (aa 0 0), .ref (aa 9 g1)]) ++ List.replicate (2 - (lg_sl ([.ref (aa 0 0), .ref (aa 9 g1)])).length) Slot.unset).toArray = ls at hl ⊢
  have hl : lv_has ls 2 [(0, .ref (aa 0 0)), (1, .ref (aa 9 g1))] := hl
  unfold F_K_begin at h
  refine lv_aload_n hx hb de_K_begin_0 rfl (lv_at hl 1 rfl) ?_
  refine lv_iconst (v := 0) hx hb de_K_begin_1 (by decide) ?_
  refine kp_9_listed hx hb ht hown hK hP hJ hS hg1 (by decide) tw_1_85 de_K_begin_2 (fun H locs hP hS => ?_)
  obtain ⟨σ1, eσ1, h⟩ := lx_ex h
  rw [← eσ1] at hP
  refine lv_aload_n hx hb de_K_begin_5 rfl (lv_at hl 0 rfl) ?_
  refine lv_aload_n hx hb de_K_begin_6 rfl (lv_at hl 1 rfl) ?_
  refine kg_9 (v := .long (gL σ1 2 g1 0)) hx hb ht hown hK hP hg1 13 (by decide) tw_1_87 rfl de_K_begin_7 ?_
  obtain ⟨r2, hr2, h⟩ := bd_some h
  refine kq_v (va_runV (As := [.long (gL σ1 2 g1 0)]) (rest := []) S (c_K_moveClock l D aa q hJ σ1 (gL σ1 2 g1 0) r2 hr2) (cwV 1 ht (gv_in tw_2_80 tw_2_82 ts_K_moveClock tw_1_1 tc_K_moveClock) rfl rfl rfl bh_K_moveClock ⟨Nat.le_of_ble_eq_true rfl, Nat.le_of_ble_eq_true rfl⟩) (kpreV hK hP (kr_0 hK hP (by decide))) rfl rfl hl.1 rfl (lv_room (Nat.le_of_ble_eq_true rfl)) de_K_begin_10 ⟨Nat.zero_le _, Nat.zero_le _⟩) hS (fun H locs hP hS => ?_)
  refine lv_aload_n hx hb de_K_begin_13 rfl (lv_at hl 1 rfl) ?_
  refine lv_iconst (v := 1) hx hb de_K_begin_14 (by decide) ?_
  refine kp_9_state hx hb ht hown hK hP hJ hS hg1 tw_1_79 de_K_begin_15 (fun H locs hP hS => ?_)
  obtain ⟨σ3, eσ3, h⟩ := lx_ex h
  rw [← eσ3] at hP
  refine lv_aload_n hx hb de_K_begin_18 rfl (lv_at hl 0 rfl) ?_
  refine kg_0 (v := .ref (aa 6 0)) hx hb ht hown hK hP (by decide) 4 (by decide) tw_1_175 rfl de_K_begin_19 ?_
  refine lv_aload_n hx hb de_K_begin_22 rfl (lv_at hl 1 rfl) ?_
  refine kg_9 (v := .int (gI σ3 2 g1 0)) hx hb ht hown hK hP hg1 0 (by decide) tw_1_61 rfl de_K_begin_23 ?_
  refine lv_bipush (v := 16) hx hb de_K_begin_26 (by decide) ?_
  refine lv_aload_n hx hb de_K_begin_28 rfl (lv_at hl 1 rfl) ?_
  refine kg_9 (v := .int (gI σ3 8 g1 0)) hx hb ht hown hK hP hg1 10 (by decide) tw_1_81 rfl de_K_begin_29 ?_
  refine lv_imul hx hb de_K_begin_32 ?_
  refine lv_iadd hx hb de_K_begin_33 ?_
  obtain ⟨r4, hr4, h⟩ := bd_some h
  refine kq_v (va_runV (As := [.int ((gI σ3 2 g1 0) + (16 * (gI σ3 8 g1 0)))]) (rest := []) S (c_C_add l D aa q hJ σ3 ((gI σ3 2 g1 0) + (16 * (gI σ3 8 g1 0))) r4 hr4) (cwV 1 ht (gv_in tw_2_84 tw_2_85 tw_2_86 tw_1_3 tc_C_add) rfl rfl rfl bh_C_add ⟨Nat.le_of_ble_eq_true rfl, Nat.le_of_ble_eq_true rfl⟩) (kpreV hK hP (kr_6 hK hP (by decide))) rfl rfl hl.1 rfl (lv_room (Nat.le_of_ble_eq_true rfl)) de_K_begin_34 ⟨Nat.zero_le _, Nat.zero_le _⟩) hS (fun H locs hP hS => ?_)
  have h := Option.some.inj h
  subst h
  exact W.vret hx hb hr (fun t ht hW => ⟨⟨_, rfl, rfl, by rw [ht]; exact hP, va_K.moved hW.alike hK⟩, hS.F ht⟩) hS.2.2 de_K_begin_37 hlocks
set_option maxHeartbeats 4000000 in
set_option maxRecDepth 100000 in
theorem w_K_countBefore_13 {p : Program} {l : Launch} {e : Env} {s : State} {m : MethodId} {args : Array Value} {below : List Frame} {meth : Method} {c : Code} {Q : State → Prop} {D : va_G} {aa : Nat → Nat → Nat} {q : Nat → ClassId} (hJ : wJ kC aa) (S : CallFix p m c bc_K_countBefore 5 s args lw_g bR_K) (hlocks : meth.locks = false) (hK : va_K D kCl (kT q) s) : ∀ (n : Nat) (σ : kS) (x2 : Int32) (g3 : Nat) (hg3 : g3 < 5) (x4 : Int32) (ex : Int32) (H : Heap) (locs : List Loc) (ls : Array Slot), lv_has ls 5 [(0, .ref (aa 0 0)), (2, .int x2), (3, .ref (aa 4 g3)), (4, .int x4)] → va_P D kCl (kW aa q σ) H → va_S (wA kC aa) s.heap H locs → F_K_countBefore_13 n σ x2 g3 x4 = some ex → (∀ (H1 : Heap) (locs1 : List Loc) (ls1 : Array Slot), lv_has ls1 5 [(0, .ref (aa 0 0)), (2, .int x2), (3, .ref (aa 4 g3)), (4, .int ex)] → va_P D kCl (kW aa q σ) H1 → va_S (wA kC aa) s.heap H1 locs1 → W p l e brm_K_countBefore s m args below meth c H1 locs1 0 0 Q (F0 m 47 ls1 [])) → W p l e brm_K_countBefore s m args below meth c H locs 0 0 Q (F0 m 13 ls []) := by
  obtain ⟨hx, hb, hml, hown, hts⟩ := id S
  have ht := hts
  intro n
  induction n with
  | zero => intro σ x2 g3 hg3 x4 ex H locs ls hl hP hS h k; cases (show (none : Option (Int32)) = some ex from h)
  | succ n ih =>
    intro σ x2 g3 hg3 x4 ex H locs ls hl hP hS h k
    unfold F_K_countBefore_13 at h
    refine lv_iload hx hb de_K_countBefore_13 (lv_at hl 3 rfl) ?_
    refine lv_aload_n hx hb de_K_countBefore_15 rfl (lv_at hl 2 rfl) ?_
    refine kg_4 (v := .int (gI σ 19 g3 0)) hx hb ht hown hK hP hg3 1 (by decide) tw_1_32 rfl de_K_countBefore_16 ?_
    refine lv_icmp_ge (tgt := 47) hx hb de_K_countBefore_19 (by decide) (fun hc => ?_) (fun hc => ?_)
    · have h := ie_t h hc
      have h := Option.some.inj h
      subst h
      exact k _ _ _ (lv_sub hl [0, 1, 2, 3] rfl) hP hS
    · have h := ie_f h hc
      refine lv_aload_n hx hb de_K_countBefore_22 rfl (lv_at hl 0 rfl) ?_
      refine kg_0 (v := .ref (aa 1 0)) hx hb ht hown hK hP (by decide) 0 (by decide) tw_1_171 rfl de_K_countBefore_23 ?_
      refine lv_aload_n hx hb de_K_countBefore_26 rfl (lv_at hl 2 rfl) ?_
      refine kg_4 (v := .ref (aa 5 g3)) hx hb ht hown hK hP hg3 0 (by decide) tw_1_30 rfl de_K_countBefore_27 ?_
      refine lv_iload hx hb de_K_countBefore_30 (lv_at hl 3 rfl) ?_
      obtain ⟨hi1, h⟩ := gd_some h
      refine kl_5 hx hb hK hP hg3 (inb_in hi1) de_K_countBefore_32 ?_
      obtain ⟨hi2, h⟩ := gd_some h
      refine kl_1 hx hb hK hP (by decide) (inb_in hi2) de_K_countBefore_33 (fun j3 ej3 => ?_)
      have h := lx_at h j3 ej3
      have hj3 : j3 < 12 := by rw [ej3]; exact inb_lt hi2
      refine kg_9 (v := .int (gI σ 4 j3 0)) hx hb ht hown hK hP hj3 6 (by decide) tw_1_73 rfl de_K_countBefore_34 ?_
      refine lv_iload_n hx hb de_K_countBefore_37 rfl (lv_at hl 1 rfl) ?_
      refine lv_icmp_gt (tgt := 47) hx hb de_K_countBefore_38 (by decide) (fun hc => ?_) (fun hc => ?_)
      · have h := ie_t h hc
        have h := Option.some.inj h
        subst h
        exact k _ _ _ (lv_sub hl [0, 1, 2, 3] rfl) hP hS
      · have h := ie_f h hc
        refine lv_iinc (k := 3) (v := x4 + 1) (lv' := [(4, .int (x4 + 1)), (0, .ref (aa 0 0)), (2, .int x2), (3, .ref (aa 4 g3))]) hx hb de_K_countBefore_41 hl rfl (ii_p1 _) (by decide) rfl (fun ls hl => ?_)
        refine lv_goto (tgt := 13) hx hb de_K_countBefore_44 (by decide) ?_
        exact ih σ x2 g3 hg3 (x4 + 1) ex _ _ _ (lv_sub hl [1, 2, 3, 0] rfl) hP hS h k
set_option maxHeartbeats 4000000 in
set_option maxRecDepth 100000 in
theorem c_K_countBefore (l : Launch) (D : va_G) (aa : Nat → Nat → Nat) (q : Nat → ClassId) (hJ : wJ kC aa) (σ : kS) (x1 : Int32) (x2 : Int32) (res : Int32) (h : F_K_countBefore σ x1 x2 = some res) : Met l by_K_countBefore (.code by_K_countBefore bc_K_countBefore 5 (some .int) :: lw_g) brm_K_countBefore (va_Pc [.ref (aa 0 0), .int x1, .int x2] (kPre D aa q σ)) (va_Qi (fun (r : Int32) (u : kS) => r = res ∧ u = σ) (kB D aa q) (wA kC aa)) 0 0 (wA kC aa) := by
  refine Met.ofW (cc := bc_K_countBefore) (maxL := 5) (ret := (some .int)) (by decide) rfl ?_
  intro p e s m args below meth c s₁ B hml hv
  obtain ⟨rfl, hP, hK⟩ := hv
  have hx := B.exec
  have hb := B.bytes
  have hr := B.returns
  have ht : ∀ w ∈ lw_g, w.before ([.ref (aa 0 0), .int x1, .int x2] : List Value).toArray s = true := fun w h => atoms_spec (ws := .code by_K_countBefore bc_K_countBefore 5 (some .int) :: lw_g) B.pre w (List.mem_cons_of_mem _ h)
  have hown : s.vm.findClass bR_K = some m.cls := findClass_of_methodNamed B.named
  have hlocks := B.notSynchronized
  have S : CallFix p m c bc_K_countBefore 5 s ([.ref (aa 0 0), .int x1, .int x2] : List Value).toArray lw_g bR_K := ⟨hx, hb, hml, hown, ht⟩
  have hS : va_S (wA kC aa) s.heap s.heap [] := va_S.rf
  have hl := lv_entry ([.ref (aa 0 0), .int x1, .int x2]) (n := 5) (Nat.le_of_ble_eq_true rfl)
  rw [lg_entry_eq]
  generalize (lg_sl ([.ref (aa 0 0), .int x1, .int x2]) ++ List.replicate (5 - (lg_sl ([.ref (aa 0 0), .int x1, .int x2])).length) Slot.unset).toArray = ls at hl ⊢
  have hl : lv_has ls 5 [(0, .ref (aa 0 0)), (1, .int x1), (2, .int x2)] := hl
  unfold F_K_countBefore at h
  refine lv_aload_n hx hb de_K_countBefore_0 rfl (lv_at hl 0 rfl) ?_
  refine kg_0 (v := .ref (aa 2 0)) hx hb ht hown hK hP (by decide) 1 (by decide) tw_1_172 rfl de_K_countBefore_1 ?_
  refine lv_iload_n hx hb de_K_countBefore_4 rfl (lv_at hl 1 rfl) ?_
  obtain ⟨hi1, h⟩ := gd_some h
  refine kl_2 hx hb hK hP (by decide) (inb_in hi1) de_K_countBefore_5 (fun j2 ej2 => ?_)
  have h := lx_at h j2 ej2
  have hj2 : j2 < 4 := by rw [ej2]; exact inb_lt hi1
  refine kg_14 (v := .ref (aa 4 j2)) hx hb ht hown hK hP hj2 0 (by decide) tw_1_133 rfl de_K_countBefore_6 ?_
  refine lv_astore_n (lv' := [(3, .ref (aa 4 j2)), (0, .ref (aa 0 0)), (1, .int x1), (2, .int x2)]) hx hb de_K_countBefore_9 rfl hl (by decide) rfl (fun ls hl => ?_)
  refine lv_iconst (v := 0) hx hb de_K_countBefore_10 (by decide) ?_
  refine lv_istore (lv' := [(4, .int 0), (3, .ref (aa 4 j2)), (0, .ref (aa 0 0)), (1, .int x1), (2, .int x2)]) hx hb de_K_countBefore_11 hl (by decide) rfl (fun ls hl => ?_)
  obtain ⟨ex3, hex3, h⟩ := bd_some h
  refine w_K_countBefore_13 hJ S hlocks hK 1000 σ x2 j2 (Nat.lt_succ_of_lt hj2) 0 ex3 _ _ _ (lv_sub hl [2, 4, 1, 0] rfl) hP hS hex3 (fun H locs ls hl hP hS => ?_)
  refine lv_iload hx hb de_K_countBefore_47 (lv_at hl 3 rfl) ?_
  have h := Option.some.inj h
  subst h
  exact W.iret (v := ex3) hx hb hr (fun t ht hW => ⟨⟨_, _, rfl, ⟨rfl, rfl⟩, by rw [ht]; exact hP, va_K.moved hW.alike hK⟩, hS.F ht⟩) hS.2.2 de_K_countBefore_49 hlocks
set_option maxHeartbeats 4000000 in
set_option maxRecDepth 100000 in
theorem c_K_seizeFree (l : Launch) (D : va_G) (aa : Nat → Nat → Nat) (q : Nat → ClassId) (hJ : wJ kC aa) (σ : kS) (g1 : Nat) (hg1 : g1 < 12) (res : Int32 × kS) (h : F_K_seizeFree σ g1 = some res) : Met l by_K_seizeFree (.code by_K_seizeFree bc_K_seizeFree 4 (some .boolean) :: lw_g) brm_K_seizeFree (va_Pc [.ref (aa 0 0), .ref (aa 9 g1)] (kPre D aa q σ)) (va_Qi (fun (r : Int32) (u : kS) => r = res.1 ∧ u = res.2) (kB D aa q) (wA kC aa)) 0 0 (wA kC aa) := by
  refine Met.ofW (cc := bc_K_seizeFree) (maxL := 4) (ret := (some .boolean)) (by decide) rfl ?_
  intro p e s m args below meth c s₁ B hml hv
  obtain ⟨rfl, hP, hK⟩ := hv
  have hx := B.exec
  have hb := B.bytes
  have hr := B.returns
  have ht : ∀ w ∈ lw_g, w.before ([.ref (aa 0 0), .ref (aa 9 g1)] : List Value).toArray s = true := fun w h => atoms_spec (ws := .code by_K_seizeFree bc_K_seizeFree 4 (some .boolean) :: lw_g) B.pre w (List.mem_cons_of_mem _ h)
  have hown : s.vm.findClass bR_K = some m.cls := findClass_of_methodNamed B.named
  have hlocks := B.notSynchronized
  have S : CallFix p m c bc_K_seizeFree 4 s ([.ref (aa 0 0), .ref (aa 9 g1)] : List Value).toArray lw_g bR_K := ⟨hx, hb, hml, hown, ht⟩
  have hS : va_S (wA kC aa) s.heap s.heap [] := va_S.rf
  have hl := lv_entry ([.ref (aa 0 0), .ref (aa 9 g1)]) (n := 4) (Nat.le_of_ble_eq_true rfl)
  rw [lg_entry_eq]
  generalize (lg_sl ([.ref (aa 0 0), .ref (aa 9 g1)]) ++ List.replicate (4 - (lg_sl ([.ref (aa 0 0), .ref (aa 9 g1)])).length) Slot.unset).toArray = ls at hl ⊢
  have hl : lv_has ls 4 [(0, .ref (aa 0 0)), (1, .ref (aa 9 g1))] := hl
  unfold F_K_seizeFree at h
  refine lv_aload_n hx hb de_K_seizeFree_0 rfl (lv_at hl 1 rfl) ?_
  obtain ⟨r1, hr1, h⟩ := bd_some h
  refine kq_i (va_runV (As := []) (rest := []) S (c_P_firstOperand l D aa q hJ σ g1 hg1 r1 hr1) (cwV 0 ht (gv_in tw_2_36 tw_2_37 tw_2_38 tw_1_4 tc_P_firstOperand) rfl rfl rfl bh_P_firstOperand ⟨Nat.le_of_ble_eq_true rfl, Nat.le_of_ble_eq_true rfl⟩) (kpreV hK hP (kr_9 hK hP hg1)) rfl rfl hl.1 rfl (lv_room (Nat.le_of_ble_eq_true rfl)) de_K_seizeFree_1 ⟨Nat.zero_le _, Nat.zero_le _⟩) hS (fun H locs hP hS => ?_)
  refine lv_istore_n (lv' := [(2, .int r1), (0, .ref (aa 0 0)), (1, .ref (aa 9 g1))]) hx hb de_K_seizeFree_4 rfl hl (by decide) rfl (fun ls hl => ?_)
  refine lv_aload_n hx hb de_K_seizeFree_5 rfl (lv_at hl 2 rfl) ?_
  obtain ⟨r2, hr2, h⟩ := bd_some h
  refine kq_i (va_runV (As := []) (rest := []) S (c_P_secondOperand l D aa q hJ σ g1 hg1 r2 hr2) (cwV 0 ht (gv_in tw_1_236 tw_1_237 tw_1_238 tw_1_4 tc_P_secondOperand) rfl rfl rfl bh_P_secondOperand ⟨Nat.le_of_ble_eq_true rfl, Nat.le_of_ble_eq_true rfl⟩) (kpreV hK hP (kr_9 hK hP hg1)) rfl rfl hl.1 rfl (lv_room (Nat.le_of_ble_eq_true rfl)) de_K_seizeFree_6 ⟨Nat.zero_le _, Nat.zero_le _⟩) hS (fun H locs hP hS => ?_)
  refine lv_istore_n (lv' := [(3, .int r2), (2, .int r1), (0, .ref (aa 0 0)), (1, .ref (aa 9 g1))]) hx hb de_K_seizeFree_9 rfl hl (by decide) rfl (fun ls hl => ?_)
  refine lv_aload_n hx hb de_K_seizeFree_10 rfl (lv_at hl 2 rfl) ?_
  refine lv_iload_n hx hb de_K_seizeFree_11 rfl (lv_at hl 1 rfl) ?_
  refine lv_aload_n hx hb de_K_seizeFree_12 rfl (lv_at hl 3 rfl) ?_
  refine kg_9 (v := .int (gI σ 4 g1 0)) hx hb ht hown hK hP hg1 6 (by decide) tw_1_73 rfl de_K_seizeFree_13 ?_
  obtain ⟨r3, hr3, h⟩ := bd_some h
  refine kq_i (va_runV (As := [.int r1, .int (gI σ 4 g1 0)]) (rest := []) S (c_K_countBefore l D aa q hJ σ r1 (gI σ 4 g1 0) r3 hr3) (cwV 2 ht (gv_in tw_2_101 tw_2_103 ts_K_countBefore tw_1_1 tc_K_countBefore) rfl rfl rfl bh_K_countBefore ⟨Nat.le_of_ble_eq_true rfl, Nat.le_of_ble_eq_true rfl⟩) (kpreV hK hP (kr_0 hK hP (by decide))) rfl rfl hl.1 rfl (lv_room (Nat.le_of_ble_eq_true rfl)) de_K_seizeFree_16 ⟨Nat.zero_le _, Nat.zero_le _⟩) hS (fun H locs hP hS => ?_)
  refine lv_if_gt (tgt := 35) hx hb de_K_seizeFree_19 (by decide) (fun hc => ?_) (fun hc => ?_)
  · have h := ie_t h hc
    refine lv_iconst (v := 0) hx hb de_K_seizeFree_35 (by decide) ?_
    have h := Option.some.inj h
    subst h
    exact W.zret (v := 0) hx hb hr rfl (fun t ht hW => ⟨⟨_, _, rfl, ⟨rfl, rfl⟩, by rw [ht]; exact hP, va_K.moved hW.alike hK⟩, hS.F ht⟩) hS.2.2 de_K_seizeFree_36 hlocks
  · have h := ie_f h hc
    refine lv_iload_n hx hb de_K_seizeFree_22 rfl (lv_at hl 0 rfl) ?_
    refine lv_aload_n hx hb de_K_seizeFree_23 rfl (lv_at hl 2 rfl) ?_
    refine kg_0 (v := .ref (aa 2 0)) hx hb ht hown hK hP (by decide) 1 (by decide) tw_1_172 rfl de_K_seizeFree_24 ?_
    refine lv_iload_n hx hb de_K_seizeFree_27 rfl (lv_at hl 1 rfl) ?_
    obtain ⟨hi4, h⟩ := gd_some h
    refine kl_2 hx hb hK hP (by decide) (inb_in hi4) de_K_seizeFree_28 (fun j5 ej5 => ?_)
    have h := lx_at h j5 ej5
    have hj5 : j5 < 4 := by rw [ej5]; exact inb_lt hi4
    obtain ⟨r6, hr6, h⟩ := bd_some h
    refine kq_i (va_runV (As := []) (rest := [.int r2]) S (c_E_unseized l D aa q hJ σ j5 hj5 r6 hr6) (cwV 0 ht (gv_in tw_2_0 tw_2_1 tw_2_2 tw_1_5 tc_E_unseized) rfl rfl rfl bh_E_unseized ⟨Nat.le_of_ble_eq_true rfl, Nat.le_of_ble_eq_true rfl⟩) (kpreV hK hP (kr_14 hK hP hj5)) rfl rfl hl.1 rfl (lv_room (Nat.le_of_ble_eq_true rfl)) de_K_seizeFree_29 ⟨Nat.zero_le _, Nat.zero_le _⟩) hS (fun H locs hP hS => ?_)
    refine lv_icmp_le (tgt := 37) hx hb de_K_seizeFree_32 (by decide) (fun hc => ?_) (fun hc => ?_)
    · have h := ie_t h hc
      refine lv_aload_n hx hb de_K_seizeFree_37 rfl (lv_at hl 2 rfl) ?_
      refine lv_aload_n hx hb de_K_seizeFree_38 rfl (lv_at hl 3 rfl) ?_
      refine lv_iload_n hx hb de_K_seizeFree_39 rfl (lv_at hl 1 rfl) ?_
      refine lv_iload_n hx hb de_K_seizeFree_40 rfl (lv_at hl 0 rfl) ?_
      obtain ⟨r7, hr7, h⟩ := bd_some h
      refine kq_v (va_runV (As := [.ref (aa 9 g1), .int r1, .int r2]) (rest := []) S (c_K_give l D aa q hJ σ g1 hg1 r1 r2 r7 hr7) (cwV 3 ht (gv_in tw_2_4 tw_2_6 ts_K_give tw_1_1 tc_K_give) rfl rfl rfl bh_K_give ⟨Nat.le_of_ble_eq_true rfl, Nat.le_of_ble_eq_true rfl⟩) (kpreV hK hP (kr_0 hK hP (by decide))) rfl rfl hl.1 rfl (lv_room (Nat.le_of_ble_eq_true rfl)) de_K_seizeFree_41 ⟨Nat.zero_le _, Nat.zero_le _⟩) hS (fun H locs hP hS => ?_)
      refine lv_iconst (v := 1) hx hb de_K_seizeFree_44 (by decide) ?_
      have h := Option.some.inj h
      subst h
      exact W.zret (v := 1) hx hb hr rfl (fun t ht hW => ⟨⟨_, _, rfl, ⟨rfl, rfl⟩, by rw [ht]; exact hP, va_K.moved hW.alike hK⟩, hS.F ht⟩) hS.2.2 de_K_seizeFree_45 hlocks
    · have h := ie_f h hc
      refine lv_iconst (v := 0) hx hb de_K_seizeFree_35 (by decide) ?_
      have h := Option.some.inj h
      subst h
      exact W.zret (v := 0) hx hb hr rfl (fun t ht hW => ⟨⟨_, _, rfl, ⟨rfl, rfl⟩, by rw [ht]; exact hP, va_K.moved hW.alike hK⟩, hS.F ht⟩) hS.2.2 de_K_seizeFree_36 hlocks
set_option maxHeartbeats 4000000 in
set_option maxRecDepth 100000 in
theorem w_K_withinReach_13 {p : Program} {l : Launch} {e : Env} {s : State} {m : MethodId} {args : Array Value} {below : List Frame} {meth : Method} {c : Code} {Q : State → Prop} {D : va_G} {aa : Nat → Nat → Nat} {q : Nat → ClassId} (hJ : wJ kC aa) (S : CallFix p m c bc_K_withinReach 5 s args lw_g bR_K) (hlocks : meth.locks = false) (hK : va_K D kCl (kT q) s) : ∀ (n : Nat) (σ : kS) (g1 : Nat) (hg1 : g1 < 12) (x2 : Int32) (x3 : Int32) (x4 : Int32) (ex : Int32 × Int32) (H : Heap) (locs : List Loc) (ls : Array Slot), lv_has ls 5 [(0, .ref (aa 0 0)), (1, .ref (aa 9 g1)), (2, .int x2), (3, .int x3), (4, .int x4)] → va_P D kCl (kW aa q σ) H → va_S (wA kC aa) s.heap H locs → F_K_withinReach_13 n σ g1 x2 x3 x4 = some ex → (∀ (H1 : Heap) (locs1 : List Loc) (ls1 : Array Slot), lv_has ls1 5 [(0, .ref (aa 0 0)), (1, .ref (aa 9 g1)), (2, .int x2), (3, .int ex.1), (4, .int ex.2)] → va_P D kCl (kW aa q σ) H1 → va_S (wA kC aa) s.heap H1 locs1 → W p l e brm_K_withinReach s m args below meth c H1 locs1 0 0 Q (F0 m 60 ls1 [])) → W p l e brm_K_withinReach s m args below meth c H locs 0 0 Q (F0 m 13 ls []) := by
  obtain ⟨hx, hb, hml, hown, hts⟩ := id S
  have ht := hts
  intro n
  induction n with
  | zero => intro σ g1 hg1 x2 x3 x4 ex H locs ls hl hP hS h k; cases (show (none : Option (Int32 × Int32)) = some ex from h)
  | succ n ih =>
    intro σ g1 hg1 x2 x3 x4 ex H locs ls hl hP hS h k
    unfold F_K_withinReach_13 at h
    refine lv_iload hx hb de_K_withinReach_13 (lv_at hl 4 rfl) ?_
    refine lv_aload_n hx hb de_K_withinReach_15 rfl (lv_at hl 0 rfl) ?_
    refine kg_0 (v := .int (gI σ 0 0 0)) hx hb ht hown hK hP (by decide) 6 (by decide) tw_1_177 rfl de_K_withinReach_16 ?_
    refine lv_icmp_ge (tgt := 60) hx hb de_K_withinReach_19 (by decide) (fun hc => ?_) (fun hc => ?_)
    · have h := ie_t h hc
      have h := Option.some.inj h
      subst h
      exact k _ _ _ (lv_sub hl [0, 1, 2, 3, 4] rfl) hP hS
    · have h := ie_f h hc
      refine lv_aload_n hx hb de_K_withinReach_22 rfl (lv_at hl 0 rfl) ?_
      refine kg_0 (v := .ref (aa 1 0)) hx hb ht hown hK hP (by decide) 0 (by decide) tw_1_171 rfl de_K_withinReach_23 ?_
      refine lv_iload hx hb de_K_withinReach_26 (lv_at hl 4 rfl) ?_
      obtain ⟨hi1, h⟩ := gd_some h
      refine kl_1 hx hb hK hP (by decide) (inb_in hi1) de_K_withinReach_28 (fun j2 ej2 => ?_)
      have h := lx_at h j2 ej2
      have hj2 : j2 < 12 := by rw [ej2]; exact inb_lt hi1
      refine kg_9 (v := .int (gI σ 4 j2 0)) hx hb ht hown hK hP hj2 6 (by decide) tw_1_73 rfl de_K_withinReach_29 ?_
      refine lv_aload_n hx hb de_K_withinReach_32 rfl (lv_at hl 1 rfl) ?_
      refine kg_9 (v := .int (gI σ 4 g1 0)) hx hb ht hown hK hP hg1 6 (by decide) tw_1_73 rfl de_K_withinReach_33 ?_
      refine lv_icmp_le (tgt := 54) hx hb de_K_withinReach_36 (by decide) (fun hc => ?_) (fun hc => ?_)
      · have h := ie_t h hc
        refine lv_iinc (k := 4) (v := x4 + 1) (lv' := [(4, .int (x4 + 1)), (0, .ref (aa 0 0)), (1, .ref (aa 9 g1)), (2, .int x2), (3, .int x3)]) hx hb de_K_withinReach_54 hl rfl (ii_p1 _) (by decide) rfl (fun ls hl => ?_)
        refine lv_goto (tgt := 13) hx hb de_K_withinReach_57 (by decide) ?_
        exact ih σ g1 hg1 x2 x3 (x4 + 1) ex _ _ _ (lv_sub hl [1, 2, 3, 4, 0] rfl) hP hS h k
      · have h := ie_f h hc
        refine lv_iload_n hx hb de_K_withinReach_39 rfl (lv_at hl 3 rfl) ?_
        refine lv_aload_n hx hb de_K_withinReach_40 rfl (lv_at hl 0 rfl) ?_
        refine kg_0 (v := .ref (aa 1 0)) hx hb ht hown hK hP (by decide) 0 (by decide) tw_1_171 rfl de_K_withinReach_41 ?_
        refine lv_iload hx hb de_K_withinReach_44 (lv_at hl 4 rfl) ?_
        obtain ⟨hi3, h⟩ := gd_some h
        refine kl_1 hx hb hK hP (by decide) (inb_in hi3) de_K_withinReach_46 (fun j4 ej4 => ?_)
        have h := lx_at h j4 ej4
        have hj4 : j4 < 12 := by rw [ej4]; exact inb_lt hi3
        refine kg_9 (v := .ref (aa 13 j4)) hx hb ht hown hK hP hj4 4 (by decide) tw_1_69 rfl de_K_withinReach_47 ?_
        refine lv_iload_n hx hb de_K_withinReach_50 rfl (lv_at hl 2 rfl) ?_
        obtain ⟨hi5, h⟩ := gd_some h
        refine kl_13 hx hb hK hP hj4 (inb_in hi5) de_K_withinReach_51 ?_
        refine lv_iadd hx hb de_K_withinReach_52 ?_
        refine lv_topi (fun v6 ev6 => ?_)
        have h := lx_at h v6 ev6
        refine lv_istore_n (lv' := [(3, .int v6), (0, .ref (aa 0 0)), (1, .ref (aa 9 g1)), (2, .int x2), (4, .int x4)]) hx hb de_K_withinReach_53 rfl hl (by decide) rfl (fun ls hl => ?_)
        refine lv_iinc (k := 4) (v := x4 + 1) (lv' := [(4, .int (x4 + 1)), (3, .int v6), (0, .ref (aa 0 0)), (1, .ref (aa 9 g1)), (2, .int x2)]) hx hb de_K_withinReach_54 hl rfl (ii_p1 _) (by decide) rfl (fun ls hl => ?_)
        refine lv_goto (tgt := 13) hx hb de_K_withinReach_57 (by decide) ?_
        exact ih σ g1 hg1 x2 v6 (x4 + 1) ex _ _ _ (lv_sub hl [2, 3, 4, 1, 0] rfl) hP hS h k
set_option maxHeartbeats 4000000 in
set_option maxRecDepth 100000 in
theorem c_K_withinReach (l : Launch) (D : va_G) (aa : Nat → Nat → Nat) (q : Nat → ClassId) (hJ : wJ kC aa) (σ : kS) (g1 : Nat) (hg1 : g1 < 12) (x2 : Int32) (res : Int32) (h : F_K_withinReach σ g1 x2 = some res) : Met l by_K_withinReach (.code by_K_withinReach bc_K_withinReach 5 (some .int) :: lw_g) brm_K_withinReach (va_Pc [.ref (aa 0 0), .ref (aa 9 g1), .int x2] (kPre D aa q σ)) (va_Qi (fun (r : Int32) (u : kS) => r = res ∧ u = σ) (kB D aa q) (wA kC aa)) 0 0 (wA kC aa) := by
  refine Met.ofW (cc := bc_K_withinReach) (maxL := 5) (ret := (some .int)) (by decide) rfl ?_
  intro p e s m args below meth c s₁ B hml hv
  obtain ⟨rfl, hP, hK⟩ := hv
  have hx := B.exec
  have hb := B.bytes
  have hr := B.returns
  have ht : ∀ w ∈ lw_g, w.before ([.ref (aa 0 0), .ref (aa 9 g1), .int x2] : List Value).toArray s = true := fun w h => atoms_spec (ws := .code by_K_withinReach bc_K_withinReach 5 (some .int) :: lw_g) B.pre w (List.mem_cons_of_mem _ h)
  have hown : s.vm.findClass bR_K = some m.cls := findClass_of_methodNamed B.named
  have hlocks := B.notSynchronized
  have S : CallFix p m c bc_K_withinReach 5 s ([.ref (aa 0 0), .ref (aa 9 g1), .int x2] : List Value).toArray lw_g bR_K := ⟨hx, hb, hml, hown, ht⟩
  have hS : va_S (wA kC aa) s.heap s.heap [] := va_S.rf
  have hl := lv_entry ([.ref (aa 0 0), .ref (aa 9 g1), .int x2]) (n := 5) (Nat.le_of_ble_eq_true rfl)
  rw [lg_entry_eq]
  generalize (lg_sl ([.ref (aa 0 0), .ref (aa 9 g1), .int x2]) ++ List.replicate (5 - (lg_sl ([.ref (aa 0 0), .ref (aa 9 g1), .int x2])).length) Slot.unset).toArray = ls at hl ⊢
  have hl : lv_has ls 5 [(0, .ref (aa 0 0)), (1, .ref (aa 9 g1)), (2, .int x2)] := hl
  unfold F_K_withinReach at h
  refine lv_aload_n hx hb de_K_withinReach_0 rfl (lv_at hl 0 rfl) ?_
  refine kg_0 (v := .ref (aa 2 0)) hx hb ht hown hK hP (by decide) 1 (by decide) tw_1_172 rfl de_K_withinReach_1 ?_
  refine lv_iload_n hx hb de_K_withinReach_4 rfl (lv_at hl 2 rfl) ?_
  obtain ⟨hi1, h⟩ := gd_some h
  refine kl_2 hx hb hK hP (by decide) (inb_in hi1) de_K_withinReach_5 (fun j2 ej2 => ?_)
  have h := lx_at h j2 ej2
  have hj2 : j2 < 4 := by rw [ej2]; exact inb_lt hi1
  obtain ⟨r3, hr3, h⟩ := bd_some h
  refine kq_i (va_runV (As := []) (rest := []) S (c_E_unseized l D aa q hJ σ j2 hj2 r3 hr3) (cwV 0 ht (gv_in tw_2_0 tw_2_1 tw_2_2 tw_1_5 tc_E_unseized) rfl rfl rfl bh_E_unseized ⟨Nat.le_of_ble_eq_true rfl, Nat.le_of_ble_eq_true rfl⟩) (kpreV hK hP (kr_14 hK hP hj2)) rfl rfl hl.1 rfl (lv_room (Nat.le_of_ble_eq_true rfl)) de_K_withinReach_6 ⟨Nat.zero_le _, Nat.zero_le _⟩) hS (fun H locs hP hS => ?_)
  refine lv_istore_n (lv' := [(3, .int r3), (0, .ref (aa 0 0)), (1, .ref (aa 9 g1)), (2, .int x2)]) hx hb de_K_withinReach_9 rfl hl (by decide) rfl (fun ls hl => ?_)
  refine lv_iconst (v := 0) hx hb de_K_withinReach_10 (by decide) ?_
  refine lv_istore (lv' := [(4, .int 0), (3, .int r3), (0, .ref (aa 0 0)), (1, .ref (aa 9 g1)), (2, .int x2)]) hx hb de_K_withinReach_11 hl (by decide) rfl (fun ls hl => ?_)
  obtain ⟨ex4, hex4, h⟩ := bd_some h
  refine w_K_withinReach_13 hJ S hlocks hK 1000 σ g1 hg1 x2 r3 0 ex4 _ _ _ (lv_sub hl [2, 3, 4, 1, 0] rfl) hP hS hex4 (fun H locs ls hl hP hS => ?_)
  refine lv_iload_n hx hb de_K_withinReach_60 rfl (lv_at hl 3 rfl) ?_
  have h := Option.some.inj h
  subst h
  exact W.iret (v := ex4.1) hx hb hr (fun t ht hW => ⟨⟨_, _, rfl, ⟨rfl, rfl⟩, by rw [ht]; exact hP, va_K.moved hW.alike hK⟩, hS.F ht⟩) hS.2.2 de_K_withinReach_61 hlocks
set_option maxHeartbeats 4000000 in
set_option maxRecDepth 100000 in
theorem w_K_nextLoser_16 {p : Program} {l : Launch} {e : Env} {s : State} {m : MethodId} {args : Array Value} {below : List Frame} {meth : Method} {c : Code} {Q : State → Prop} {D : va_G} {aa : Nat → Nat → Nat} {q : Nat → ClassId} (hJ : wJ kC aa) (S : CallFix p m c bc_K_nextLoser 6 s args lw_g bR_K) (hlocks : meth.locks = false) (hK : va_K D kCl (kT q) s) : ∀ (n : Nat) (σ : kS) (x2 : Int32) (x3 : Int32) (x4 : Int32) (x5 : Int32) (ex : Int32 × Int32 × Int32) (H : Heap) (locs : List Loc) (ls : Array Slot), lv_has ls 6 [(0, .ref (aa 0 0)), (2, .int x2), (3, .int x3), (4, .int x4), (5, .int x5)] → va_P D kCl (kW aa q σ) H → va_S (wA kC aa) s.heap H locs → F_K_nextLoser_16 n σ x2 x3 x4 x5 = some ex → (∀ (H1 : Heap) (locs1 : List Loc) (ls1 : Array Slot), lv_has ls1 6 [(0, .ref (aa 0 0)), (2, .int x2), (3, .int ex.1), (4, .int ex.2.1), (5, .int ex.2.2)] → va_P D kCl (kW aa q σ) H1 → va_S (wA kC aa) s.heap H1 locs1 → W p l e brm_K_nextLoser s m args below meth c H1 locs1 0 0 Q (F0 m 72 ls1 [])) → W p l e brm_K_nextLoser s m args below meth c H locs 0 0 Q (F0 m 16 ls []) := by
  obtain ⟨hx, hb, hml, hown, hts⟩ := id S
  have ht := hts
  intro n
  induction n with
  | zero => intro σ x2 x3 x4 x5 ex H locs ls hl hP hS h k; cases (show (none : Option (Int32 × Int32 × Int32)) = some ex from h)
  | succ n ih =>
    intro σ x2 x3 x4 x5 ex H locs ls hl hP hS h k
    unfold F_K_nextLoser_16 at h
    refine lv_iload hx hb de_K_nextLoser_16 (lv_at hl 4 rfl) ?_
    refine lv_if_lt (tgt := 72) hx hb de_K_nextLoser_18 (by decide) (fun hc => ?_) (fun hc => ?_)
    · have h := ie_t h hc
      have h := Option.some.inj h
      subst h
      exact k _ _ _ (lv_sub hl [0, 1, 2, 3, 4] rfl) hP hS
    · have h := ie_f h hc
      refine lv_aload_n hx hb de_K_nextLoser_21 rfl (lv_at hl 0 rfl) ?_
      refine kg_0 (v := .ref (aa 1 0)) hx hb ht hown hK hP (by decide) 0 (by decide) tw_1_171 rfl de_K_nextLoser_22 ?_
      refine lv_iload hx hb de_K_nextLoser_25 (lv_at hl 4 rfl) ?_
      obtain ⟨hi1, h⟩ := gd_some h
      refine kl_1 hx hb hK hP (by decide) (inb_in hi1) de_K_nextLoser_27 (fun j2 ej2 => ?_)
      have h := lx_at h j2 ej2
      have hj2 : j2 < 12 := by rw [ej2]; exact inb_lt hi1
      refine kg_9 (v := .ref (aa 13 j2)) hx hb ht hown hK hP hj2 4 (by decide) tw_1_69 rfl de_K_nextLoser_28 ?_
      refine lv_iload_n hx hb de_K_nextLoser_31 rfl (lv_at hl 1 rfl) ?_
      obtain ⟨hi3, h⟩ := gd_some h
      refine kl_13 hx hb hK hP hj2 (inb_in hi3) de_K_nextLoser_32 ?_
      refine lv_if_le (tgt := 66) hx hb de_K_nextLoser_33 (by decide) (fun hc => ?_) (fun hc => ?_)
      · have h := ie_t h hc
        refine lv_iinc (k := 4) (v := x5 + (-1)) (lv' := [(5, .int (x5 + (-1))), (0, .ref (aa 0 0)), (2, .int x2), (3, .int x3), (4, .int x4)]) hx hb de_K_nextLoser_66 hl rfl (ii_m1 _) (by decide) rfl (fun ls hl => ?_)
        refine lv_goto (tgt := 16) hx hb de_K_nextLoser_69 (by decide) ?_
        exact ih σ x2 x3 x4 (x5 + (-1)) ex _ _ _ (lv_sub hl [1, 2, 3, 4, 0] rfl) hP hS h k
      · have h := ie_f h hc
        refine lv_aload_n hx hb de_K_nextLoser_36 rfl (lv_at hl 0 rfl) ?_
        refine kg_0 (v := .ref (aa 1 0)) hx hb ht hown hK hP (by decide) 0 (by decide) tw_1_171 rfl de_K_nextLoser_37 ?_
        refine lv_iload hx hb de_K_nextLoser_40 (lv_at hl 4 rfl) ?_
        obtain ⟨hi4, h⟩ := gd_some h
        refine kl_1 hx hb hK hP (by decide) (inb_in hi4) de_K_nextLoser_42 (fun j5 ej5 => ?_)
        have h := lx_at h j5 ej5
        have hj5 : j5 < 12 := by rw [ej5]; exact inb_lt hi4
        refine kg_9 (v := .int (gI σ 4 j5 0)) hx hb ht hown hK hP hj5 6 (by decide) tw_1_73 rfl de_K_nextLoser_43 ?_
        refine lv_iload hx hb de_K_nextLoser_46 (lv_at hl 3 rfl) ?_
        refine lv_icmp_le (tgt := 66) hx hb de_K_nextLoser_48 (by decide) (fun hc => ?_) (fun hc => ?_)
        · have h := ie_t h hc
          refine lv_iinc (k := 4) (v := x5 + (-1)) (lv' := [(5, .int (x5 + (-1))), (0, .ref (aa 0 0)), (2, .int x2), (3, .int x3), (4, .int x4)]) hx hb de_K_nextLoser_66 hl rfl (ii_m1 _) (by decide) rfl (fun ls hl => ?_)
          refine lv_goto (tgt := 16) hx hb de_K_nextLoser_69 (by decide) ?_
          exact ih σ x2 x3 x4 (x5 + (-1)) ex _ _ _ (lv_sub hl [1, 2, 3, 4, 0] rfl) hP hS h k
        · have h := ie_f h hc
          refine lv_iload hx hb de_K_nextLoser_51 (lv_at hl 4 rfl) ?_
          refine lv_istore_n (lv' := [(3, .int x5), (0, .ref (aa 0 0)), (2, .int x2), (4, .int x4), (5, .int x5)]) hx hb de_K_nextLoser_53 rfl hl (by decide) rfl (fun ls hl => ?_)
          refine lv_aload_n hx hb de_K_nextLoser_54 rfl (lv_at hl 1 rfl) ?_
          refine kg_0 (v := .ref (aa 1 0)) hx hb ht hown hK hP (by decide) 0 (by decide) tw_1_171 rfl de_K_nextLoser_55 ?_
          refine lv_iload hx hb de_K_nextLoser_58 (lv_at hl 4 rfl) ?_
          obtain ⟨hi6, h⟩ := gd_some h
          refine kl_1 hx hb hK hP (by decide) (inb_in hi6) de_K_nextLoser_60 (fun j7 ej7 => ?_)
          have h := lx_at h j7 ej7
          have hj7 : j7 < 12 := by rw [ej7]; exact inb_lt hi6
          refine kg_9 (v := .int (gI σ 4 j7 0)) hx hb ht hown hK hP hj7 6 (by decide) tw_1_73 rfl de_K_nextLoser_61 ?_
          refine lv_topi (fun v8 ev8 => ?_)
          have h := lx_at h v8 ev8
          refine lv_istore (lv' := [(4, .int v8), (3, .int x5), (0, .ref (aa 0 0)), (2, .int x2), (5, .int x5)]) hx hb de_K_nextLoser_64 hl (by decide) rfl (fun ls hl => ?_)
          refine lv_iinc (k := 4) (v := x5 + (-1)) (lv' := [(5, .int (x5 + (-1))), (4, .int v8), (3, .int x5), (0, .ref (aa 0 0)), (2, .int x2)]) hx hb de_K_nextLoser_66 hl rfl (ii_m1 _) (by decide) rfl (fun ls hl => ?_)
          refine lv_goto (tgt := 16) hx hb de_K_nextLoser_69 (by decide) ?_
          exact ih σ x2 x5 v8 (x5 + (-1)) ex _ _ _ (lv_sub hl [3, 4, 2, 1, 0] rfl) hP hS h k
set_option maxHeartbeats 4000000 in
set_option maxRecDepth 100000 in
theorem c_K_nextLoser (l : Launch) (D : va_G) (aa : Nat → Nat → Nat) (q : Nat → ClassId) (hJ : wJ kC aa) (σ : kS) (g1 : Nat) (hg1 : g1 < 12) (x2 : Int32) (res : Int32) (h : F_K_nextLoser σ g1 x2 = some res) : Met l by_K_nextLoser (.code by_K_nextLoser bc_K_nextLoser 6 (some .int) :: lw_g) brm_K_nextLoser (va_Pc [.ref (aa 0 0), .ref (aa 9 g1), .int x2] (kPre D aa q σ)) (va_Qi (fun (r : Int32) (u : kS) => r = res ∧ u = σ) (kB D aa q) (wA kC aa)) 0 0 (wA kC aa) := by
  refine Met.ofW (cc := bc_K_nextLoser) (maxL := 6) (ret := (some .int)) (by decide) rfl ?_
  intro p e s m args below meth c s₁ B hml hv
  obtain ⟨rfl, hP, hK⟩ := hv
  have hx := B.exec
  have hb := B.bytes
  have hr := B.returns
  have ht : ∀ w ∈ lw_g, w.before ([.ref (aa 0 0), .ref (aa 9 g1), .int x2] : List Value).toArray s = true := fun w h => atoms_spec (ws := .code by_K_nextLoser bc_K_nextLoser 6 (some .int) :: lw_g) B.pre w (List.mem_cons_of_mem _ h)
  have hown : s.vm.findClass bR_K = some m.cls := findClass_of_methodNamed B.named
  have hlocks := B.notSynchronized
  have S : CallFix p m c bc_K_nextLoser 6 s ([.ref (aa 0 0), .ref (aa 9 g1), .int x2] : List Value).toArray lw_g bR_K := ⟨hx, hb, hml, hown, ht⟩
  have hS : va_S (wA kC aa) s.heap s.heap [] := va_S.rf
  have hl := lv_entry ([.ref (aa 0 0), .ref (aa 9 g1), .int x2]) (n := 6) (Nat.le_of_ble_eq_true rfl)
  rw [lg_entry_eq]
  generalize (lg_sl ([.ref (aa 0 0), .ref (aa 9 g1), .int x2]) ++ List.replicate (6 - (lg_sl ([.ref (aa 0 0), .ref (aa 9 g1), .int x2])).length) Slot.unset).toArray = ls at hl ⊢
  have hl : lv_has ls 6 [(0, .ref (aa 0 0)), (1, .ref (aa 9 g1)), (2, .int x2)] := hl
  unfold F_K_nextLoser at h
  refine lv_iconst (v := (-1)) hx hb de_K_nextLoser_0 (by decide) ?_
  refine lv_istore_n (lv' := [(3, .int (-1)), (0, .ref (aa 0 0)), (1, .ref (aa 9 g1)), (2, .int x2)]) hx hb de_K_nextLoser_1 rfl hl (by decide) rfl (fun ls hl => ?_)
  refine lv_aload_n hx hb de_K_nextLoser_2 rfl (lv_at hl 2 rfl) ?_
  refine kg_9 (v := .int (gI σ 4 g1 0)) hx hb ht hown hK hP hg1 6 (by decide) tw_1_73 rfl de_K_nextLoser_3 ?_
  refine lv_topi (fun v1 ev1 => ?_)
  have h := lx_at h v1 ev1
  refine lv_istore (lv' := [(4, .int v1), (3, .int (-1)), (0, .ref (aa 0 0)), (1, .ref (aa 9 g1)), (2, .int x2)]) hx hb de_K_nextLoser_6 hl (by decide) rfl (fun ls hl => ?_)
  refine lv_aload_n hx hb de_K_nextLoser_8 rfl (lv_at hl 2 rfl) ?_
  refine kg_0 (v := .int (gI σ 0 0 0)) hx hb ht hown hK hP (by decide) 6 (by decide) tw_1_177 rfl de_K_nextLoser_9 ?_
  refine lv_iconst (v := 1) hx hb de_K_nextLoser_12 (by decide) ?_
  refine lv_isub hx hb de_K_nextLoser_13 ?_
  refine lv_topi (fun v2 ev2 => ?_)
  have h := lx_at h v2 ev2
  refine lv_istore (lv' := [(5, .int v2), (4, .int v1), (3, .int (-1)), (0, .ref (aa 0 0)), (1, .ref (aa 9 g1)), (2, .int x2)]) hx hb de_K_nextLoser_14 hl (by decide) rfl (fun ls hl => ?_)
  obtain ⟨ex3, hex3, h⟩ := bd_some h
  refine w_K_nextLoser_16 hJ S hlocks hK 1000 σ x2 (-1) v1 v2 ex3 _ _ _ (lv_sub hl [3, 5, 2, 1, 0] rfl) hP hS hex3 (fun H locs ls hl hP hS => ?_)
  refine lv_iload_n hx hb de_K_nextLoser_72 rfl (lv_at hl 2 rfl) ?_
  have h := Option.some.inj h
  subst h
  exact W.iret (v := ex3.1) hx hb hr (fun t ht hW => ⟨⟨_, _, rfl, ⟨rfl, rfl⟩, by rw [ht]; exact hP, va_K.moved hW.alike hK⟩, hS.F ht⟩) hS.2.2 de_K_nextLoser_73 hlocks
set_option maxHeartbeats 4000000 in
set_option maxRecDepth 100000 in
theorem w_K_takeFromLosers_3 {p : Program} {l : Launch} {e : Env} {s : State} {m : MethodId} {args : Array Value} {below : List Frame} {meth : Method} {c : Code} {Q : State → Prop} {D : va_G} {aa : Nat → Nat → Nat} {q : Nat → ClassId} (hJ : wJ kC aa) (S : CallFix p m c bc_K_takeFromLosers 6 s args lw_g bR_K) (hlocks : meth.locks = false) (hK : va_K D kCl (kT q) s) : ∀ (n : Nat) (σ : kS) (g1 : Nat) (hg1 : g1 < 12) (x2 : Int32) (x3 : Int32) (x4 : Int32) (ex : Nat × kS × Int32) (H : Heap) (locs : List Loc) (ls : Array Slot), lv_has ls 6 [(0, .ref (aa 0 0)), (1, .ref (aa 9 g1)), (2, .int x2), (3, .int x3), (4, .int x4)] → va_P D kCl (kW aa q σ) H → va_S (wA kC aa) s.heap H locs → F_K_takeFromLosers_3 n σ g1 x2 x3 x4 = some ex → (∀ (H1 : Heap) (locs1 : List Loc) (ls1 : Array Slot), lv_has ls1 6 [(0, .ref (aa 0 0)), (1, .ref (aa 9 g1)), (2, .int x2), (3, .int x3), (4, .int ex.2.2)] → va_P D kCl (kW aa q ex.2.1) H1 → va_S (wA kC aa) s.heap H1 locs1 → (ex.1 = 0 → W p l e brm_K_takeFromLosers s m args below meth c H1 locs1 0 0 Q (F0 m 37 ls1 [])) ∧ (ex.1 = 1 → W p l e brm_K_takeFromLosers s m args below meth c H1 locs1 0 0 Q (F0 m 79 ls1 []))) → W p l e brm_K_takeFromLosers s m args below meth c H locs 0 0 Q (F0 m 3 ls []) := by
  obtain ⟨hx, hb, hml, hown, hts⟩ := id S
  have ht := hts
  intro n
  induction n with
  | zero => intro σ g1 hg1 x2 x3 x4 ex H locs ls hl hP hS h k; cases (show (none : Option (Nat × kS × Int32)) = some ex from h)
  | succ n ih =>
    intro σ g1 hg1 x2 x3 x4 ex H locs ls hl hP hS h k
    unfold F_K_takeFromLosers_3 at h
    refine lv_iload hx hb de_K_takeFromLosers_3 (lv_at hl 4 rfl) ?_
    refine lv_bipush (v := 12) hx hb de_K_takeFromLosers_5 (by decide) ?_
    refine lv_icmp_ge (tgt := 79) hx hb de_K_takeFromLosers_7 (by decide) (fun hc => ?_) (fun hc => ?_)
    · have h := ie_t h hc
      have h := Option.some.inj h
      subst h
      exact (k _ _ _ (lv_sub hl [0, 1, 2, 3, 4] rfl) hP hS).2 rfl
    · have h := ie_f h hc
      refine lv_aload_n hx hb de_K_takeFromLosers_10 rfl (lv_at hl 0 rfl) ?_
      refine kg_0 (v := .ref (aa 2 0)) hx hb ht hown hK hP (by decide) 1 (by decide) tw_1_172 rfl de_K_takeFromLosers_11 ?_
      refine lv_iload_n hx hb de_K_takeFromLosers_14 rfl (lv_at hl 2 rfl) ?_
      obtain ⟨hi1, h⟩ := gd_some h
      refine kl_2 hx hb hK hP (by decide) (inb_in hi1) de_K_takeFromLosers_15 (fun j2 ej2 => ?_)
      have h := lx_at h j2 ej2
      have hj2 : j2 < 4 := by rw [ej2]; exact inb_lt hi1
      obtain ⟨r3, hr3, h⟩ := bd_some h
      refine kq_i (va_runV (As := []) (rest := []) S (c_E_unseized l D aa q hJ σ j2 hj2 r3 hr3) (cwV 0 ht (gv_in tw_2_0 tw_2_1 tw_2_2 tw_1_5 tc_E_unseized) rfl rfl rfl bh_E_unseized ⟨Nat.le_of_ble_eq_true rfl, Nat.le_of_ble_eq_true rfl⟩) (kpreV hK hP (kr_14 hK hP hj2)) rfl rfl hl.1 rfl (lv_room (Nat.le_of_ble_eq_true rfl)) de_K_takeFromLosers_16 ⟨Nat.zero_le _, Nat.zero_le _⟩) hS (fun H locs hP hS => ?_)
      refine lv_iload_n hx hb de_K_takeFromLosers_19 rfl (lv_at hl 3 rfl) ?_
      refine lv_icmp_ge (tgt := 79) hx hb de_K_takeFromLosers_20 (by decide) (fun hc => ?_) (fun hc => ?_)
      · have h := ie_t h hc
        have h := Option.some.inj h
        subst h
        exact (k _ _ _ (lv_sub hl [0, 1, 2, 3, 4] rfl) hP hS).2 rfl
      · have h := ie_f h hc
        refine lv_aload_n hx hb de_K_takeFromLosers_23 rfl (lv_at hl 0 rfl) ?_
        refine lv_aload_n hx hb de_K_takeFromLosers_24 rfl (lv_at hl 1 rfl) ?_
        refine lv_iload_n hx hb de_K_takeFromLosers_25 rfl (lv_at hl 2 rfl) ?_
        obtain ⟨r4, hr4, h⟩ := bd_some h
        refine kq_i (va_runV (As := [.ref (aa 9 g1), .int x2]) (rest := []) S (c_K_nextLoser l D aa q hJ σ g1 hg1 x2 r4 hr4) (cwV 2 ht (gv_in tw_2_117 tw_2_119 ts_K_nextLoser tw_1_1 tc_K_nextLoser) rfl rfl rfl bh_K_nextLoser ⟨Nat.le_of_ble_eq_true rfl, Nat.le_of_ble_eq_true rfl⟩) (kpreV hK hP (kr_0 hK hP (by decide))) rfl rfl hl.1 rfl (lv_room (Nat.le_of_ble_eq_true rfl)) de_K_takeFromLosers_26 ⟨Nat.zero_le _, Nat.zero_le _⟩) hS (fun H locs hP hS => ?_)
        refine lv_istore (lv' := [(5, .int r4), (0, .ref (aa 0 0)), (1, .ref (aa 9 g1)), (2, .int x2), (3, .int x3), (4, .int x4)]) hx hb de_K_takeFromLosers_29 hl (by decide) rfl (fun ls hl => ?_)
        refine lv_iload hx hb de_K_takeFromLosers_31 (lv_at hl 0 rfl) ?_
        refine lv_iconst (v := (-1)) hx hb de_K_takeFromLosers_33 (by decide) ?_
        refine lv_icmp_ne (tgt := 40) hx hb de_K_takeFromLosers_34 (by decide) (fun hc => ?_) (fun hc => ?_)
        · have h := ie_f h hc
          refine lv_aload_n hx hb de_K_takeFromLosers_40 rfl (lv_at hl 1 rfl) ?_
          refine lv_aload_n hx hb de_K_takeFromLosers_41 rfl (lv_at hl 1 rfl) ?_
          refine kg_0 (v := .ref (aa 1 0)) hx hb ht hown hK hP (by decide) 0 (by decide) tw_1_171 rfl de_K_takeFromLosers_42 ?_
          refine lv_iload hx hb de_K_takeFromLosers_45 (lv_at hl 0 rfl) ?_
          obtain ⟨hi5, h⟩ := gd_some h
          refine kl_1 hx hb hK hP (by decide) (inb_in hi5) de_K_takeFromLosers_47 (fun j6 ej6 => ?_)
          have h := lx_at h j6 ej6
          have hj6 : j6 < 12 := by rw [ej6]; exact inb_lt hi5
          refine lv_iload_n hx hb de_K_takeFromLosers_48 rfl (lv_at hl 3 rfl) ?_
          refine lv_aload_n hx hb de_K_takeFromLosers_49 rfl (lv_at hl 1 rfl) ?_
          refine kg_0 (v := .ref (aa 1 0)) hx hb ht hown hK hP (by decide) 0 (by decide) tw_1_171 rfl de_K_takeFromLosers_50 ?_
          refine lv_iload hx hb de_K_takeFromLosers_53 (lv_at hl 0 rfl) ?_
          obtain ⟨hi7, h⟩ := gd_some h
          refine kl_1 hx hb hK hP (by decide) (inb_in hi7) de_K_takeFromLosers_55 (fun j8 ej8 => ?_)
          have h := lx_at h j8 ej8
          have hj8 : j8 < 12 := by rw [ej8]; exact inb_lt hi7
          refine kg_9 (v := .ref (aa 13 j8)) hx hb ht hown hK hP hj8 4 (by decide) tw_1_69 rfl de_K_takeFromLosers_56 ?_
          refine lv_iload_n hx hb de_K_takeFromLosers_59 rfl (lv_at hl 3 rfl) ?_
          obtain ⟨hi9, h⟩ := gd_some h
          refine kl_13 hx hb hK hP hj8 (inb_in hi9) de_K_takeFromLosers_60 ?_
          obtain ⟨r10, hr10, h⟩ := bd_some h
          refine kq_v (va_runV (As := [.ref (aa 9 j6), .int x2, .int (gI σ 14 j8 x2.toNatClampNeg)]) (rest := []) S (c_K_takeBack l D aa q hJ σ j6 hj6 x2 (gI σ 14 j8 x2.toNatClampNeg) r10 hr10) (cwV 3 ht (gv_in tw_2_59 tw_2_61 ts_K_takeBack tw_1_1 tc_K_takeBack) rfl rfl rfl bh_K_takeBack ⟨Nat.le_of_ble_eq_true rfl, Nat.le_of_ble_eq_true rfl⟩) (kpreV hK hP (kr_0 hK hP (by decide))) rfl rfl hl.1 rfl (lv_room (Nat.le_of_ble_eq_true rfl)) de_K_takeFromLosers_61 ⟨Nat.zero_le _, Nat.zero_le _⟩) hS (fun H locs hP hS => ?_)
          refine lv_aload_n hx hb de_K_takeFromLosers_64 rfl (lv_at hl 1 rfl) ?_
          refine kg_0 (v := .ref (aa 8 0)) hx hb ht hown hK hP (by decide) 5 (by decide) tw_1_176 rfl de_K_takeFromLosers_65 ?_
          refine lv_iload hx hb de_K_takeFromLosers_68 (lv_at hl 5 rfl) ?_
          refine lv_iload hx hb de_K_takeFromLosers_70 (lv_at hl 0 rfl) ?_
          obtain ⟨hi11, h⟩ := gd_some h
          refine kt_8 hx hb hK hP hJ hS (by decide) (inb_in hi11) de_K_takeFromLosers_72 (fun H locs hP hS => ?_)
          obtain ⟨σ12, eσ12, h⟩ := lx_ex h
          rw [← eσ12] at hP
          refine lv_iinc (k := 5) (v := x4 + 1) (lv' := [(4, .int (x4 + 1)), (5, .int r4), (0, .ref (aa 0 0)), (1, .ref (aa 9 g1)), (2, .int x2), (3, .int x3)]) hx hb de_K_takeFromLosers_73 hl rfl (ii_p1 _) (by decide) rfl (fun ls hl => ?_)
          refine lv_goto (tgt := 3) hx hb de_K_takeFromLosers_76 (by decide) ?_
          exact ih σ12 g1 hg1 x2 x3 (x4 + 1) ex _ _ _ (lv_sub hl [2, 3, 4, 5, 0] rfl) hP hS h k
        · have h := ie_t h hc
          have h := Option.some.inj h
          subst h
          exact (k _ _ _ (lv_sub hl [1, 2, 3, 4, 5] rfl) hP hS).1 rfl
set_option maxHeartbeats 4000000 in
set_option maxRecDepth 100000 in
theorem c_K_takeFromLosers (l : Launch) (D : va_G) (aa : Nat → Nat → Nat) (q : Nat → ClassId) (hJ : wJ kC aa) (σ : kS) (g1 : Nat) (hg1 : g1 < 12) (x2 : Int32) (x3 : Int32) (res : Int32 × kS) (h : F_K_takeFromLosers σ g1 x2 x3 = some res) : Met l by_K_takeFromLosers (.code by_K_takeFromLosers bc_K_takeFromLosers 6 (some .int) :: lw_g) brm_K_takeFromLosers (va_Pc [.ref (aa 0 0), .ref (aa 9 g1), .int x2, .int x3] (kPre D aa q σ)) (va_Qi (fun (r : Int32) (u : kS) => r = res.1 ∧ u = res.2) (kB D aa q) (wA kC aa)) 0 0 (wA kC aa) := by
  refine Met.ofW (cc := bc_K_takeFromLosers) (maxL := 6) (ret := (some .int)) (by decide) rfl ?_
  intro p e s m args below meth c s₁ B hml hv
  obtain ⟨rfl, hP, hK⟩ := hv
  have hx := B.exec
  have hb := B.bytes
  have hr := B.returns
  have ht : ∀ w ∈ lw_g, w.before ([.ref (aa 0 0), .ref (aa 9 g1), .int x2, .int x3] : List Value).toArray s = true := fun w h => atoms_spec (ws := .code by_K_takeFromLosers bc_K_takeFromLosers 6 (some .int) :: lw_g) B.pre w (List.mem_cons_of_mem _ h)
  have hown : s.vm.findClass bR_K = some m.cls := findClass_of_methodNamed B.named
  have hlocks := B.notSynchronized
  have S : CallFix p m c bc_K_takeFromLosers 6 s ([.ref (aa 0 0), .ref (aa 9 g1), .int x2, .int x3] : List Value).toArray lw_g bR_K := ⟨hx, hb, hml, hown, ht⟩
  have hS : va_S (wA kC aa) s.heap s.heap [] := va_S.rf
  have hl := lv_entry ([.ref (aa 0 0), .ref (aa 9 g1), .int x2, .int x3]) (n := 6) (Nat.le_of_ble_eq_true rfl)
  rw [lg_entry_eq]
  generalize (lg_sl ([.ref (aa 0 0), .ref (aa 9 g1), .int x2, .int x3]) ++ List.replicate (6 - (lg_sl ([.ref (aa 0 0), .ref (aa 9 g1), .int x2, .int x3])).length) Slot.unset).toArray = ls at hl ⊢
  have hl : lv_has ls 6 [(0, .ref (aa 0 0)), (1, .ref (aa 9 g1)), (2, .int x2), (3, .int x3)] := hl
  unfold F_K_takeFromLosers at h
  refine lv_iconst (v := 0) hx hb de_K_takeFromLosers_0 (by decide) ?_
  refine lv_istore (lv' := [(4, .int 0), (0, .ref (aa 0 0)), (1, .ref (aa 9 g1)), (2, .int x2), (3, .int x3)]) hx hb de_K_takeFromLosers_1 hl (by decide) rfl (fun ls hl => ?_)
  obtain ⟨ex1, hex1, h⟩ := bd_some h
  refine w_K_takeFromLosers_3 hJ S hlocks hK 1000 σ g1 hg1 x2 x3 0 ex1 _ _ _ (lv_sub hl [1, 2, 3, 4, 0] rfl) hP hS hex1 (fun H locs ls hl hP hS => ⟨fun he => ?_, fun he => ?_⟩)
  · have h := ie_t h he
    refine lv_goto (tgt := 79) hx hb de_K_takeFromLosers_37 (by decide) ?_
    refine lv_iload hx hb de_K_takeFromLosers_79 (lv_at hl 4 rfl) ?_
    have h := Option.some.inj h
    subst h
    exact W.iret (v := ex1.2.2) hx hb hr (fun t ht hW => ⟨⟨_, _, rfl, ⟨rfl, rfl⟩, by rw [ht]; exact hP, va_K.moved hW.alike hK⟩, hS.F ht⟩) hS.2.2 de_K_takeFromLosers_81 hlocks
  · have h := ie_f h (by rw [he]; decide)
    refine lv_iload hx hb de_K_takeFromLosers_79 (lv_at hl 4 rfl) ?_
    have h := Option.some.inj h
    subst h
    exact W.iret (v := ex1.2.2) hx hb hr (fun t ht hW => ⟨⟨_, _, rfl, ⟨rfl, rfl⟩, by rw [ht]; exact hP, va_K.moved hW.alike hK⟩, hS.F ht⟩) hS.2.2 de_K_takeFromLosers_81 hlocks
