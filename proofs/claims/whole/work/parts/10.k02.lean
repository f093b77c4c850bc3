set_option maxHeartbeats 4000000 in
set_option maxRecDepth 100000 in
theorem c_P_firstOperand (l : Launch) (D : va_G) (aa : Nat → Nat → Nat) (q : Nat → ClassId) (hJ : wJ kC aa) (σ : kS) (g0 : Nat) (hg0 : g0 < 12) (res : Int32) (h : F_P_firstOperand σ g0 = some res) : Met l by_P_firstOperand (.code by_P_firstOperand bc_P_firstOperand 1 (some .int) :: lw_g) brm_P_firstOperand (va_Pc [.ref (aa 9 g0)] (kPre D aa q σ)) (va_Qi (fun (r : Int32) (u : kS) => r = res ∧ u = σ) (kB D aa q) (wA kC aa)) 0 0 (wA kC aa) := by
  refine Met.ofW (cc := bc_P_firstOperand) (maxL := 1) (ret := (some .int)) (by decide) rfl ?_
  intro p e s m args below meth c s₁ B hml hv
  obtain ⟨rfl, hP, hK⟩ := hv
  have hx := B.exec
  have hb := B.bytes
  have hr := B.returns
  have ht : ∀ w ∈ lw_g, w.before ([.ref (aa 9 g0)] : List Value).toArray s = true := fun w h => atoms_spec (ws := .code by_P_firstOperand bc_P_firstOperand 1 (some .int) :: lw_g) B.pre w (List.mem_cons_of_mem _ h)
  have hown : s.vm.findClass bR_P = some m.cls := findClass_of_methodNamed B.named
  have hlocks := B.notSynchronized
  have S : CallFix p m c bc_P_firstOperand 1 s ([.ref (aa 9 g0)] : List Value).toArray lw_g bR_P := ⟨hx, hb, hml, hown, ht⟩
  have hS : va_S (wA kC aa) s.heap s.heap [] := va_S.rf
  have hl := lv_entry ([.ref (aa 9 g0)]) (n := 1) (Nat.le_of_ble_eq_true rfl)
  rw [lg_entry_eq]
  generalize (lg_sl ([.ref (aa 9 g0)]) ++ List.replicate (1 - (lg_sl ([.ref (aa 9 g0)])).length) Slot.unset).toArray = ls at hl ⊢
  have hl : lv_has ls 1 [(0, .ref (aa 9 g0))] := hl
  unfold F_P_firstOperand at h
  refine lv_aload_n hx hb de_P_firstOperand_0 rfl (lv_at hl 0 rfl) ?_
  refine kg_9 (v := .ref (aa 11 g0)) hx hb ht hown hK hP hg0 2 (by decide) tw_1_64 rfl de_P_firstOperand_1 ?_
  refine lv_aload_n hx hb de_P_firstOperand_4 rfl (lv_at hl 0 rfl) ?_
  refine kg_9 (v := .int (gI σ 9 g0 0)) hx hb ht hown hK hP hg0 11 (by decide) tw_1_82 rfl de_P_firstOperand_5 ?_
  obtain ⟨hi1, h⟩ := gd_some h
  refine kl_11 hx hb hK hP hg0 (inb_in hi1) de_P_firstOperand_8 ?_
  have h := Option.some.inj h
  subst h
  exact W.iret (v := gI σ 12 g0 (gI σ 9 g0 0).toNatClampNeg) hx hb hr (fun t ht hW => ⟨⟨_, _, rfl, ⟨rfl, rfl⟩, by rw [ht]; exact hP, va_K.moved hW.alike hK⟩, hS.F ht⟩) hS.2.2 de_P_firstOperand_9 hlocks
set_option maxHeartbeats 4000000 in
set_option maxRecDepth 100000 in
theorem c_K_lineOf (l : Launch) (D : va_G) (aa : Nat → Nat → Nat) (q : Nat → ClassId) (hJ : wJ kC aa) (σ : kS) (g1 : Nat) (hg1 : g1 < 12) (res : Int32) (h : F_K_lineOf σ g1 = some res) : Met l by_K_lineOf (.code by_K_lineOf bc_K_lineOf 2 (some .int) :: lw_g) brm_K_lineOf (va_Pc [.ref (aa 0 0), .ref (aa 9 g1)] (kPre D aa q σ)) (va_Qi (fun (r : Int32) (u : kS) => r = res ∧ u = σ) (kB D aa q) (wA kC aa)) 0 0 (wA kC aa) := by
  refine Met.ofW (cc := bc_K_lineOf) (maxL := 2) (ret := (some .int)) (by decide) rfl ?_
  intro p e s m args below meth c s₁ B hml hv
  obtain ⟨rfl, hP, hK⟩ := hv
  have hx := B.exec
  have hb := B.bytes
  have hr := B.returns
  have ht : ∀ w ∈ lw_g, w.before ([.ref (aa 0 0), .ref (aa 9 g1)] : List Value).toArray s = true := fun w h => atoms_spec (ws := .code by_K_lineOf bc_K_lineOf 2 (some .int) :: lw_g) B.pre w (List.mem_cons_of_mem _ h)
  have hown : s.vm.findClass bR_K = some m.cls := findClass_of_methodNamed B.named
  have hlocks := B.notSynchronized
  have S : CallFix p m c bc_K_lineOf 2 s ([.ref (aa 0 0), .ref (aa 9 g1)] : List Value).toArray lw_g bR_K := ⟨hx, hb, hml, hown, ht⟩
  have hS : va_S (wA kC aa) s.heap s.heap [] := va_S.rf
  have hl := lv_entry ([.ref (aa 0 0), .ref (aa 9 g1)]) (n := 2) (Nat.le_of_ble_eq_true rfl)
  rw [lg_entry_eq]
  generalize (lg_sl ([.ref (aa 0 0), .ref (aa 9 g1)]) ++ List.replicate (2 - (lg_sl ([.ref (aa 0 0), .ref (aa 9 g1)])).length) Slot.unset).toArray = ls at hl ⊢
  have hl : lv_has ls 2 [(0, .ref (aa 0 0)), (1, .ref (aa 9 g1))] := hl
  unfold F_K_lineOf at h
  refine lv_aload_n hx hb de_K_lineOf_0 rfl (lv_at hl 1 rfl) ?_
  refine kg_9 (v := .int (gI σ 7 g1 0)) hx hb ht hown hK hP hg1 9 (by decide) tw_1_79 rfl de_K_lineOf_1 ?_
  refine lv_iconst (v := 4) hx hb de_K_lineOf_4 (by decide) ?_
  refine lv_icmp_ne (tgt := 15) hx hb de_K_lineOf_5 (by decide) (fun hc => ?_) (fun hc => ?_)
  · have h := ie_f h hc
    refine lv_iconst (v := (-1)) hx hb de_K_lineOf_15 (by decide) ?_
    have h := Option.some.inj h
    subst h
    exact W.iret (v := (-1)) hx hb hr (fun t ht hW => ⟨⟨_, _, rfl, ⟨rfl, rfl⟩, by rw [ht]; exact hP, va_K.moved hW.alike hK⟩, hS.F ht⟩) hS.2.2 de_K_lineOf_16 hlocks
  · have h := ie_t h hc
    refine lv_aload_n hx hb de_K_lineOf_8 rfl (lv_at hl 1 rfl) ?_
    obtain ⟨r1, hr1, h⟩ := bd_some h
    refine kq_i (va_runV (As := []) (rest := []) S (c_P_firstOperand l D aa q hJ σ g1 hg1 r1 hr1) (cwV 0 ht (gv_in tw_2_36 tw_2_37 tw_2_38 tw_1_4 tc_P_firstOperand) rfl rfl rfl bh_P_firstOperand ⟨Nat.le_of_ble_eq_true rfl, Nat.le_of_ble_eq_true rfl⟩) (kpreV hK hP (kr_9 hK hP hg1)) rfl rfl hl.1 rfl (lv_room (Nat.le_of_ble_eq_true rfl)) de_K_lineOf_9 ⟨Nat.zero_le _, Nat.zero_le _⟩) hS (fun H locs hP hS => ?_)
    refine lv_goto (tgt := 16) hx hb de_K_lineOf_12 (by decide) ?_
    have h := Option.some.inj h
    subst h
    exact W.iret (v := r1) hx hb hr (fun t ht hW => ⟨⟨_, _, rfl, ⟨rfl, rfl⟩, by rw [ht]; exact hP, va_K.moved hW.alike hK⟩, hS.F ht⟩) hS.2.2 de_K_lineOf_16 hlocks
set_option maxHeartbeats 4000000 in
set_option maxRecDepth 100000 in
theorem c_K_leave (l : Launch) (D : va_G) (aa : Nat → Nat → Nat) (q : Nat → ClassId) (hJ : wJ kC aa) (σ : kS) (g1 : Nat) (hg1 : g1 < 12) (res : kS) (h : F_K_leave σ g1 = some res) : Met l by_K_leave (.code by_K_leave bc_K_leave 2 none :: lw_g) brm_K_leave (va_Pc [.ref (aa 0 0), .ref (aa 9 g1)] (kPre D aa q σ)) (va_Qv (fun u : kS => u = res) (kB D aa q) (wA kC aa)) 0 0 (wA kC aa) := by
  refine Met.ofW (cc := bc_K_leave) (maxL := 2) (ret := none) (by decide) rfl ?_
  intro p e s m args below meth c s₁ B hml hv
  obtain ⟨rfl, hP, hK⟩ := hv
  have hx := B.exec
  have hb := B.bytes
  have hr := B.returns
  have ht : ∀ w ∈ lw_g, w.before ([.ref (aa 0 0), .ref (aa 9 g1)] : List Value).toArray s = true := fun w h => atoms_spec (ws := .code by_K_leave bc_K_leave 2 none :: lw_g) B.pre w (List.mem_cons_of_mem _ h)
  have hown : s.vm.findClass bR_K = some m.cls := findClass_of_methodNamed B.named
  have hlocks := B.notSynchronized
  have S : CallFix p m c bc_K_leave 2 s ([.ref (aa 0 0), .ref (aa 9 g1)] : List Value).toArray lw_g bR_K := ⟨hx, hb, hml, hown, ht⟩
  have hS : va_S (wA kC aa) s.heap s.heap [] := va_S.rf
  have hl := lv_entry ([.ref (aa 0 0), .ref (aa 9 g1)]) (n := 2) (Nat.le_of_ble_eq_true rfl)
  rw [lg_entry_eq]
  generalize (lg_sl ([.ref (aa 0 0), .ref (aa 9 g1)]) ++ List.replicate (2 - (lg_sl ([.ref (aa 0 0), .ref (aa 9 g1)])).length) Slot.unset).toArray = ls at hl ⊢
  have hl : lv_has ls 2 [(0, .ref (aa 0 0)), (1, .ref (aa 9 g1))] := hl
  unfold F_K_leave at h
  refine lv_aload_n hx hb de_K_leave_0 rfl (lv_at hl 1 rfl) ?_
  refine lv_iconst (v := 0) hx hb de_K_leave_1 (by decide) ?_
  refine kp_9_listed hx hb ht hown hK hP hJ hS hg1 (by decide) tw_1_85 de_K_leave_2 (fun H locs hP hS => ?_)
  obtain ⟨σ1, eσ1, h⟩ := lx_ex h
  rw [← eσ1] at hP
  refine lv_aload_n hx hb de_K_leave_5 rfl (lv_at hl 1 rfl) ?_
  refine kg_9 (v := .int (gI σ1 7 g1 0)) hx hb ht hown hK hP hg1 9 (by decide) tw_1_79 rfl de_K_leave_6 ?_
  refine lv_iconst (v := 4) hx hb de_K_leave_9 (by decide) ?_
  refine lv_icmp_ne (tgt := 32) hx hb de_K_leave_10 (by decide) (fun hc => ?_) (fun hc => ?_)
  · have h := ie_f h hc
    refine lv_aload_n hx hb de_K_leave_32 rfl (lv_at hl 1 rfl) ?_
    refine kg_9 (v := .int (gI σ1 7 g1 0)) hx hb ht hown hK hP hg1 9 (by decide) tw_1_79 rfl de_K_leave_33 ?_
    refine lv_iconst (v := 5) hx hb de_K_leave_36 (by decide) ?_
    refine lv_icmp_ne (tgt := 51) hx hb de_K_leave_37 (by decide) (fun hc => ?_) (fun hc => ?_)
    · have h := ie_f h hc
      have h := Option.some.inj h
      subst h
      exact W.vret hx hb hr (fun t ht hW => ⟨⟨_, rfl, rfl, by rw [ht]; exact hP, va_K.moved hW.alike hK⟩, hS.F ht⟩) hS.2.2 de_K_leave_51 hlocks
    · have h := ie_t h hc
      refine lv_aload_n hx hb de_K_leave_40 rfl (lv_at hl 0 rfl) ?_
      refine kg_0 (v := .ref (aa 4 4)) hx hb ht hown hK hP (by decide) 3 (by decide) tw_1_174 rfl de_K_leave_41 ?_
      refine lv_aload_n hx hb de_K_leave_44 rfl (lv_at hl 1 rfl) ?_
      refine kg_9 (v := .int (gI σ1 2 g1 0)) hx hb ht hown hK hP hg1 0 (by decide) tw_1_61 rfl de_K_leave_45 ?_
      obtain ⟨r2, hr2, h⟩ := bd_some h
      refine kq_v (va_runV (As := [.int (gI σ1 2 g1 0)]) (rest := []) S (c_L_drop l D aa q hJ σ1 4 (by decide) (gI σ1 2 g1 0) r2 hr2) (cwV 1 ht (gv_in tw_2_8 tw_2_9 tw_2_10 tw_1_2 tc_L_drop) rfl rfl rfl bh_L_drop ⟨Nat.le_of_ble_eq_true rfl, Nat.le_of_ble_eq_true rfl⟩) (kpreV hK hP (kr_4 hK hP (by decide))) rfl rfl hl.1 rfl (lv_room (Nat.le_of_ble_eq_true rfl)) de_K_leave_48 ⟨Nat.zero_le _, Nat.zero_le _⟩) hS (fun H locs hP hS => ?_)
      have h := Option.some.inj h
      subst h
      exact W.vret hx hb hr (fun t ht hW => ⟨⟨_, rfl, rfl, by rw [ht]; exact hP, va_K.moved hW.alike hK⟩, hS.F ht⟩) hS.2.2 de_K_leave_51 hlocks
  · have h := ie_t h hc
    refine lv_aload_n hx hb de_K_leave_13 rfl (lv_at hl 0 rfl) ?_
    refine kg_0 (v := .ref (aa 2 0)) hx hb ht hown hK hP (by decide) 1 (by decide) tw_1_172 rfl de_K_leave_14 ?_
    refine lv_aload_n hx hb de_K_leave_17 rfl (lv_at hl 1 rfl) ?_
    obtain ⟨r3, hr3, h⟩ := bd_some h
    refine kq_i (va_runV (As := []) (rest := [.ref (aa 2 0)]) S (c_P_firstOperand l D aa q hJ σ1 g1 hg1 r3 hr3) (cwV 0 ht (gv_in tw_2_36 tw_2_37 tw_2_38 tw_1_4 tc_P_firstOperand) rfl rfl rfl bh_P_firstOperand ⟨Nat.le_of_ble_eq_true rfl, Nat.le_of_ble_eq_true rfl⟩) (kpreV hK hP (kr_9 hK hP hg1)) rfl rfl hl.1 rfl (lv_room (Nat.le_of_ble_eq_true rfl)) de_K_leave_18 ⟨Nat.zero_le _, Nat.zero_le _⟩) hS (fun H locs hP hS => ?_)
    obtain ⟨hi4, h⟩ := gd_some h
    refine kl_2 hx hb hK hP (by decide) (inb_in hi4) de_K_leave_21 (fun j5 ej5 => ?_)
    have h := lx_at h j5 ej5
    have hj5 : j5 < 4 := by rw [ej5]; exact inb_lt hi4
    refine kg_14 (v := .ref (aa 4 j5)) hx hb ht hown hK hP hj5 0 (by decide) tw_1_133 rfl de_K_leave_22 ?_
    refine lv_aload_n hx hb de_K_leave_25 rfl (lv_at hl 1 rfl) ?_
    refine kg_9 (v := .int (gI σ1 2 g1 0)) hx hb ht hown hK hP hg1 0 (by decide) tw_1_61 rfl de_K_leave_26 ?_
    obtain ⟨r6, hr6, h⟩ := bd_some h
    refine kq_v (va_runV (As := [.int (gI σ1 2 g1 0)]) (rest := []) S (c_L_drop l D aa q hJ σ1 j5 (Nat.lt_succ_of_lt hj5) (gI σ1 2 g1 0) r6 hr6) (cwV 1 ht (gv_in tw_2_8 tw_2_9 tw_2_10 tw_1_2 tc_L_drop) rfl rfl rfl bh_L_drop ⟨Nat.le_of_ble_eq_true rfl, Nat.le_of_ble_eq_true rfl⟩) (kpreV hK hP (kr_4 hK hP (Nat.lt_succ_of_lt hj5))) rfl rfl hl.1 rfl (lv_room (Nat.le_of_ble_eq_true rfl)) de_K_leave_29 ⟨Nat.zero_le _, Nat.zero_le _⟩) hS (fun H locs hP hS => ?_)
    refine lv_aload_n hx hb de_K_leave_32 rfl (lv_at hl 1 rfl) ?_
    refine kg_9 (v := .int (gI r6 7 g1 0)) hx hb ht hown hK hP hg1 9 (by decide) tw_1_79 rfl de_K_leave_33 ?_
    refine lv_iconst (v := 5) hx hb de_K_leave_36 (by decide) ?_
    refine lv_icmp_ne (tgt := 51) hx hb de_K_leave_37 (by decide) (fun hc => ?_) (fun hc => ?_)
    · have h := ie_f h hc
      have h := Option.some.inj h
      subst h
      exact W.vret hx hb hr (fun t ht hW => ⟨⟨_, rfl, rfl, by rw [ht]; exact hP, va_K.moved hW.alike hK⟩, hS.F ht⟩) hS.2.2 de_K_leave_51 hlocks
    · have h := ie_t h hc
      refine lv_aload_n hx hb de_K_leave_40 rfl (lv_at hl 0 rfl) ?_
      refine kg_0 (v := .ref (aa 4 4)) hx hb ht hown hK hP (by decide) 3 (by decide) tw_1_174 rfl de_K_leave_41 ?_
      refine lv_aload_n hx hb de_K_leave_44 rfl (lv_at hl 1 rfl) ?_
      refine kg_9 (v := .int (gI r6 2 g1 0)) hx hb ht hown hK hP hg1 0 (by decide) tw_1_61 rfl de_K_leave_45 ?_
      obtain ⟨r7, hr7, h⟩ := bd_some h
      refine kq_v (va_runV (As := [.int (gI r6 2 g1 0)]) (rest := []) S (c_L_drop l D aa q hJ r6 4 (by decide) (gI r6 2 g1 0) r7 hr7) (cwV 1 ht (gv_in tw_2_8 tw_2_9 tw_2_10 tw_1_2 tc_L_drop) rfl rfl rfl bh_L_drop ⟨Nat.le_of_ble_eq_true rfl, Nat.le_of_ble_eq_true rfl⟩) (kpreV hK hP (kr_4 hK hP (by decide))) rfl rfl hl.1 rfl (lv_room (Nat.le_of_ble_eq_true rfl)) de_K_leave_48 ⟨Nat.zero_le _, Nat.zero_le _⟩) hS (fun H locs hP hS => ?_)
      have h := Option.some.inj h
      subst h
      exact W.vret hx hb hr (fun t ht hW => ⟨⟨_, rfl, rfl, by rw [ht]; exact hP, va_K.moved hW.alike hK⟩, hS.F ht⟩) hS.2.2 de_K_leave_51 hlocks
set_option maxHeartbeats 4000000 in
set_option maxRecDepth 100000 in
theorem c_K_interrupt (l : Launch) (D : va_G) (aa : Nat → Nat → Nat) (q : Nat → ClassId) (hJ : wJ kC aa) (σ : kS) (x1 : Int32) (res : Int32 × kS) (h : F_K_interrupt σ x1 = some res) : Met l by_K_interrupt (.code by_K_interrupt bc_K_interrupt 4 (some .boolean) :: lw_g) brm_K_interrupt (va_Pc [.ref (aa 0 0), .int x1] (kPre D aa q σ)) (va_Qi (fun (r : Int32) (u : kS) => r = res.1 ∧ u = res.2) (kB D aa q) (wA kC aa)) 0 0 (wA kC aa) := by
  refine Met.ofW (cc := bc_K_interrupt) (maxL := 4) (ret := (some .boolean)) (by decide) rfl ?_
  intro p e s m args below meth c s₁ B hml hv
  obtain ⟨rfl, hP, hK⟩ := hv
  have hx := B.exec
  have hb := B.bytes
  have hr := B.returns
  have ht : ∀ w ∈ lw_g, w.before ([.ref (aa 0 0), .int x1] : List Value).toArray s = true := fun w h => atoms_spec (ws := .code by_K_interrupt bc_K_interrupt 4 (some .boolean) :: lw_g) B.pre w (List.mem_cons_of_mem _ h)
  have hown : s.vm.findClass bR_K = some m.cls := findClass_of_methodNamed B.named
  have hlocks := B.notSynchronized
  have S : CallFix p m c bc_K_interrupt 4 s ([.ref (aa 0 0), .int x1] : List Value).toArray lw_g bR_K := ⟨hx, hb, hml, hown, ht⟩
  have hS : va_S (wA kC aa) s.heap s.heap [] := va_S.rf
  have hl := lv_entry ([.ref (aa 0 0), .int x1]) (n := 4) (Nat.le_of_ble_eq_true rfl)
  rw [lg_entry_eq]
  generalize (lg_sl ([.ref (aa 0 0), .int x1]) ++ List.replicate (4 - (lg_sl ([.ref (aa 0 0), .int x1])).length) Slot.unset).toArray = ls at hl ⊢
  have hl : lv_has ls 4 [(0, .ref (aa 0 0)), (1, .int x1)] := hl
  unfold F_K_interrupt at h
  refine lv_aload_n hx hb de_K_interrupt_0 rfl (lv_at hl 0 rfl) ?_
  refine lv_iload_n hx hb de_K_interrupt_1 rfl (lv_at hl 1 rfl) ?_
  obtain ⟨r1, hr1, h⟩ := bd_some h
  refine kq_i (va_runV (As := [.int x1]) (rest := []) S (c_K_isProcess l D aa q hJ σ x1 r1 hr1) (cwV 1 ht (gv_in tw_1_210 tw_1_212 ts_K_isProcess tw_1_1 tc_K_isProcess) rfl rfl rfl bh_K_isProcess ⟨Nat.le_of_ble_eq_true rfl, Nat.le_of_ble_eq_true rfl⟩) (kpreV hK hP (kr_0 hK hP (by decide))) rfl rfl hl.1 rfl (lv_room (Nat.le_of_ble_eq_true rfl)) de_K_interrupt_2 ⟨Nat.zero_le _, Nat.zero_le _⟩) hS (fun H locs hP hS => ?_)
  refine lv_if_eq (tgt := 20) hx hb de_K_interrupt_5 (by decide) (fun hc => ?_) (fun hc => ?_)
  · have h := ie_t h hc
    refine lv_iconst (v := 0) hx hb de_K_interrupt_20 (by decide) ?_
    have h := Option.some.inj h
    subst h
    exact W.zret (v := 0) hx hb hr rfl (fun t ht hW => ⟨⟨_, _, rfl, ⟨rfl, rfl⟩, by rw [ht]; exact hP, va_K.moved hW.alike hK⟩, hS.F ht⟩) hS.2.2 de_K_interrupt_21 hlocks
  · have h := ie_f h hc
    refine lv_aload_n hx hb de_K_interrupt_8 rfl (lv_at hl 0 rfl) ?_
    refine kg_0 (v := .ref (aa 1 0)) hx hb ht hown hK hP (by decide) 0 (by decide) tw_1_171 rfl de_K_interrupt_9 ?_
    refine lv_iload_n hx hb de_K_interrupt_12 rfl (lv_at hl 1 rfl) ?_
    obtain ⟨hi2, h⟩ := gd_some h
    refine kl_1 hx hb hK hP (by decide) (inb_in hi2) de_K_interrupt_13 (fun j3 ej3 => ?_)
    have h := lx_at h j3 ej3
    have hj3 : j3 < 12 := by rw [ej3]; exact inb_lt hi2
    obtain ⟨r4, hr4, h⟩ := bd_some h
    refine kq_i (va_runV (As := []) (rest := []) S (c_P_isBreakable l D aa q hJ σ j3 hj3 r4 hr4) (cwV 0 ht (gv_in tw_2_28 tw_2_29 tw_2_30 tw_1_4 tc_P_isBreakable) rfl rfl rfl bh_P_isBreakable ⟨Nat.le_of_ble_eq_true rfl, Nat.le_of_ble_eq_true rfl⟩) (kpreV hK hP (kr_9 hK hP hj3)) rfl rfl hl.1 rfl (lv_room (Nat.le_of_ble_eq_true rfl)) de_K_interrupt_14 ⟨Nat.zero_le _, Nat.zero_le _⟩) hS (fun H locs hP hS => ?_)
    refine lv_if_ne (tgt := 22) hx hb de_K_interrupt_17 (by decide) (fun hc => ?_) (fun hc => ?_)
    · have h := ie_f h hc
      refine lv_aload_n hx hb de_K_interrupt_22 rfl (lv_at hl 0 rfl) ?_
      refine kg_0 (v := .ref (aa 1 0)) hx hb ht hown hK hP (by decide) 0 (by decide) tw_1_171 rfl de_K_interrupt_23 ?_
      refine lv_iload_n hx hb de_K_interrupt_26 rfl (lv_at hl 1 rfl) ?_
      obtain ⟨hi5, h⟩ := gd_some h
      refine kl_1 hx hb hK hP (by decide) (inb_in hi5) de_K_interrupt_27 (fun j6 ej6 => ?_)
      have h := lx_at h j6 ej6
      have hj6 : j6 < 12 := by rw [ej6]; exact inb_lt hi5
      refine lv_astore_n (lv' := [(2, .ref (aa 9 j6)), (0, .ref (aa 0 0)), (1, .int x1)]) hx hb de_K_interrupt_28 rfl hl (by decide) rfl (fun ls hl => ?_)
      refine lv_aload_n hx hb de_K_interrupt_29 rfl (lv_at hl 1 rfl) ?_
      refine lv_aload_n hx hb de_K_interrupt_30 rfl (lv_at hl 0 rfl) ?_
      obtain ⟨r7, hr7, h⟩ := bd_some h
      refine kq_i (va_runV (As := [.ref (aa 9 j6)]) (rest := []) S (c_K_lineOf l D aa q hJ σ j6 hj6 r7 hr7) (cwV 1 ht (gv_in tw_2_32 tw_2_34 ts_K_lineOf tw_1_1 tc_K_lineOf) rfl rfl rfl bh_K_lineOf ⟨Nat.le_of_ble_eq_true rfl, Nat.le_of_ble_eq_true rfl⟩) (kpreV hK hP (kr_0 hK hP (by decide))) rfl rfl hl.1 rfl (lv_room (Nat.le_of_ble_eq_true rfl)) de_K_interrupt_31 ⟨Nat.zero_le _, Nat.zero_le _⟩) hS (fun H locs hP hS => ?_)
      refine lv_istore_n (lv' := [(3, .int r7), (2, .ref (aa 9 j6)), (0, .ref (aa 0 0)), (1, .int x1)]) hx hb de_K_interrupt_34 rfl hl (by decide) rfl (fun ls hl => ?_)
      refine lv_aload_n hx hb de_K_interrupt_35 rfl (lv_at hl 2 rfl) ?_
      refine lv_aload_n hx hb de_K_interrupt_36 rfl (lv_at hl 1 rfl) ?_
      obtain ⟨r8, hr8, h⟩ := bd_some h
      refine kq_v (va_runV (As := [.ref (aa 9 j6)]) (rest := []) S (c_K_leave l D aa q hJ σ j6 hj6 r8 hr8) (cwV 1 ht (gv_in tw_2_40 tw_2_42 ts_K_leave tw_1_1 tc_K_leave) rfl rfl rfl bh_K_leave ⟨Nat.le_of_ble_eq_true rfl, Nat.le_of_ble_eq_true rfl⟩) (kpreV hK hP (kr_0 hK hP (by decide))) rfl rfl hl.1 rfl (lv_room (Nat.le_of_ble_eq_true rfl)) de_K_interrupt_37 ⟨Nat.zero_le _, Nat.zero_le _⟩) hS (fun H locs hP hS => ?_)
      refine lv_aload_n hx hb de_K_interrupt_40 rfl (lv_at hl 1 rfl) ?_
      refine lv_aload_n hx hb de_K_interrupt_41 rfl (lv_at hl 1 rfl) ?_
      refine kg_9 (v := .int (gI r8 6 j6 0)) hx hb ht hown hK hP hj6 8 (by decide) tw_1_77 rfl de_K_interrupt_42 ?_
      refine kp_9_place hx hb ht hown hK hP hJ hS hj6 tw_1_81 de_K_interrupt_45 (fun H locs hP hS => ?_)
      obtain ⟨σ9, eσ9, h⟩ := lx_ex h
      rw [← eσ9] at hP
      refine lv_aload_n hx hb de_K_interrupt_48 rfl (lv_at hl 2 rfl) ?_
      refine lv_aload_n hx hb de_K_interrupt_49 rfl (lv_at hl 1 rfl) ?_
      refine lv_iconst (v := 1) hx hb de_K_interrupt_50 (by decide) ?_
      refine lv_iconst (v := 0) hx hb de_K_interrupt_51 (by decide) ?_
      obtain ⟨r10, hr10, h⟩ := bd_some h
      refine kq_v (va_runV (As := [.ref (aa 9 j6), .int 1, .int 0]) (rest := []) S (c_K_enter l D aa q hJ σ9 j6 hj6 1 0 r10 hr10) (cwV 3 ht (gv_in tw_2_12 tw_2_14 ts_K_enter tw_1_1 tc_K_enter) rfl rfl rfl bh_K_enter ⟨Nat.le_of_ble_eq_true rfl, Nat.le_of_ble_eq_true rfl⟩) (kpreV hK hP (kr_0 hK hP (by decide))) rfl rfl hl.1 rfl (lv_room (Nat.le_of_ble_eq_true rfl)) de_K_interrupt_52 ⟨Nat.zero_le _, Nat.zero_le _⟩) hS (fun H locs hP hS => ?_)
      refine lv_aload_n hx hb de_K_interrupt_55 rfl (lv_at hl 2 rfl) ?_
      refine lv_iload_n hx hb de_K_interrupt_56 rfl (lv_at hl 0 rfl) ?_
      obtain ⟨r11, hr11, h⟩ := bd_some h
      refine kq_v (va_runV (As := [.int r7]) (rest := []) S (c_K_serve l D aa q hJ r10 r7 r11 hr11) (cwV 1 ht (gv_in tw_1_232 tw_1_234 ts_K_serve tw_1_1 tc_K_serve) rfl rfl rfl bh_K_serve ⟨Nat.le_of_ble_eq_true rfl, Nat.le_of_ble_eq_true rfl⟩) (kpreV hK hP (kr_0 hK hP (by decide))) rfl rfl hl.1 rfl (lv_room (Nat.le_of_ble_eq_true rfl)) de_K_interrupt_57 ⟨Nat.zero_le _, Nat.zero_le _⟩) hS (fun H locs hP hS => ?_)
      refine lv_iconst (v := 1) hx hb de_K_interrupt_60 (by decide) ?_
      have h := Option.some.inj h
      subst h
      exact W.zret (v := 1) hx hb hr rfl (fun t ht hW => ⟨⟨_, _, rfl, ⟨rfl, rfl⟩, by rw [ht]; exact hP, va_K.moved hW.alike hK⟩, hS.F ht⟩) hS.2.2 de_K_interrupt_61 hlocks
    · have h := ie_t h hc
      refine lv_iconst (v := 0) hx hb de_K_interrupt_20 (by decide) ?_
      have h := Option.some.inj h
      subst h
      exact W.zret (v := 0) hx hb hr rfl (fun t ht hW => ⟨⟨_, _, rfl, ⟨rfl, rfl⟩, by rw [ht]; exact hP, va_K.moved hW.alike hK⟩, hS.F ht⟩) hS.2.2 de_K_interrupt_21 hlocks
set_option maxHeartbeats 4000000 in
set_option maxRecDepth 100000 in
theorem c_P_isOver (l : Launch) (D : va_G) (aa : Nat → Nat → Nat) (q : Nat → ClassId) (hJ : wJ kC aa) (σ : kS) (g0 : Nat) (hg0 : g0 < 12) (res : Int32) (h : F_P_isOver σ g0 = some res) : Met l by_P_isOver (.code by_P_isOver bc_P_isOver 1 (some .boolean) :: lw_g) brm_P_isOver (va_Pc [.ref (aa 9 g0)] (kPre D aa q σ)) (va_Qi (fun (r : Int32) (u : kS) => r = res ∧ u = σ) (kB D aa q) (wA kC aa)) 0 0 (wA kC aa) := by
  refine Met.ofW (cc := bc_P_isOver) (maxL := 1) (ret := (some .boolean)) (by decide) rfl ?_
  intro p e s m args below meth c s₁ B hml hv
  obtain ⟨rfl, hP, hK⟩ := hv
  have hx := B.exec
  have hb := B.bytes
  have hr := B.returns
  have ht : ∀ w ∈ lw_g, w.before ([.ref (aa 9 g0)] : List Value).toArray s = true := fun w h => atoms_spec (ws := .code by_P_isOver bc_P_isOver 1 (some .boolean) :: lw_g) B.pre w (List.mem_cons_of_mem _ h)
  have hown : s.vm.findClass bR_P = some m.cls := findClass_of_methodNamed B.named
  have hlocks := B.notSynchronized
  have S : CallFix p m c bc_P_isOver 1 s ([.ref (aa 9 g0)] : List Value).toArray lw_g bR_P := ⟨hx, hb, hml, hown, ht⟩
  have hS : va_S (wA kC aa) s.heap s.heap [] := va_S.rf
  have hl := lv_entry ([.ref (aa 9 g0)]) (n := 1) (Nat.le_of_ble_eq_true rfl)
  rw [lg_entry_eq]
  generalize (lg_sl ([.ref (aa 9 g0)]) ++ List.replicate (1 - (lg_sl ([.ref (aa 9 g0)])).length) Slot.unset).toArray = ls at hl ⊢
  have hl : lv_has ls 1 [(0, .ref (aa 9 g0))] := hl
  unfold F_P_isOver at h
  refine lv_aload_n hx hb de_P_isOver_0 rfl (lv_at hl 0 rfl) ?_
  refine kg_9 (v := .int (gI σ 7 g0 0)) hx hb ht hown hK hP hg0 9 (by decide) tw_1_78 rfl de_P_isOver_1 ?_
  refine lv_bipush (v := 6) hx hb de_P_isOver_4 (by decide) ?_
  refine lv_icmp_eq (tgt := 18) hx hb de_P_isOver_6 (by decide) (fun hc => ?_) (fun hc => ?_)
  · have h := ie_t h hc
    refine lv_iconst (v := 1) hx hb de_P_isOver_18 (by decide) ?_
    refine lv_goto (tgt := 23) hx hb de_P_isOver_19 (by decide) ?_
    have h := Option.some.inj h
    subst h
    exact W.zret (v := 1) hx hb hr rfl (fun t ht hW => ⟨⟨_, _, rfl, ⟨rfl, rfl⟩, by rw [ht]; exact hP, va_K.moved hW.alike hK⟩, hS.F ht⟩) hS.2.2 de_P_isOver_23 hlocks
  · have h := ie_f h hc
    refine lv_aload_n hx hb de_P_isOver_9 rfl (lv_at hl 0 rfl) ?_
    refine kg_9 (v := .int (gI σ 7 g0 0)) hx hb ht hown hK hP hg0 9 (by decide) tw_1_78 rfl de_P_isOver_10 ?_
    refine lv_bipush (v := 7) hx hb de_P_isOver_13 (by decide) ?_
    refine lv_icmp_ne (tgt := 22) hx hb de_P_isOver_15 (by decide) (fun hc => ?_) (fun hc => ?_)
    · have h := ie_f h hc
      refine lv_iconst (v := 0) hx hb de_P_isOver_22 (by decide) ?_
      have h := Option.some.inj h
      subst h
      exact W.zret (v := 0) hx hb hr rfl (fun t ht hW => ⟨⟨_, _, rfl, ⟨rfl, rfl⟩, by rw [ht]; exact hP, va_K.moved hW.alike hK⟩, hS.F ht⟩) hS.2.2 de_P_isOver_23 hlocks
    · have h := ie_t h hc
      refine lv_iconst (v := 1) hx hb de_P_isOver_18 (by decide) ?_
      refine lv_goto (tgt := 23) hx hb de_P_isOver_19 (by decide) ?_
      have h := Option.some.inj h
      subst h
      exact W.zret (v := 1) hx hb hr rfl (fun t ht hW => ⟨⟨_, _, rfl, ⟨rfl, rfl⟩, by rw [ht]; exact hP, va_K.moved hW.alike hK⟩, hS.F ht⟩) hS.2.2 de_P_isOver_23 hlocks
set_option maxHeartbeats 4000000 in
set_option maxRecDepth 100000 in
theorem c_K_takeBack (l : Launch) (D : va_G) (aa : Nat → Nat → Nat) (q : Nat → ClassId) (hJ : wJ kC aa) (σ : kS) (g1 : Nat) (hg1 : g1 < 12) (x2 : Int32) (x3 : Int32) (res : kS) (h : F_K_takeBack σ g1 x2 x3 = some res) : Met l by_K_takeBack (.code by_K_takeBack bc_K_takeBack 4 none :: lw_g) brm_K_takeBack (va_Pc [.ref (aa 0 0), .ref (aa 9 g1), .int x2, .int x3] (kPre D aa q σ)) (va_Qv (fun u : kS => u = res) (kB D aa q) (wA kC aa)) 0 0 (wA kC aa) := by
  refine Met.ofW (cc := bc_K_takeBack) (maxL := 4) (ret := none) (by decide) rfl ?_
  intro p e s m args below meth c s₁ B hml hv
  obtain ⟨rfl, hP, hK⟩ := hv
  have hx := B.exec
  have hb := B.bytes
  have hr := B.returns
  have ht : ∀ w ∈ lw_g, w.before ([.ref (aa 0 0), .ref (aa 9 g1), .int x2, .int x3] : List Value).toArray s = true := fun w h => atoms_spec (ws := .code by_K_takeBack bc_K_takeBack 4 none :: lw_g) B.pre w (List.mem_cons_of_mem _ h)
  have hown : s.vm.findClass bR_K = some m.cls := findClass_of_methodNamed B.named
  have hlocks := B.notSynchronized
  have S : CallFix p m c bc_K_takeBack 4 s ([.ref (aa 0 0), .ref (aa 9 g1), .int x2, .int x3] : List Value).toArray lw_g bR_K := ⟨hx, hb, hml, hown, ht⟩
  have hS : va_S (wA kC aa) s.heap s.heap [] := va_S.rf
  have hl := lv_entry ([.ref (aa 0 0), .ref (aa 9 g1), .int x2, .int x3]) (n := 4) (Nat.le_of_ble_eq_true rfl)
  rw [lg_entry_eq]
  generalize (lg_sl ([.ref (aa 0 0), .ref (aa 9 g1), .int x2, .int x3]) ++ List.replicate (4 - (lg_sl ([.ref (aa 0 0), .ref (aa 9 g1), .int x2, .int x3])).length) Slot.unset).toArray = ls at hl ⊢
  have hl : lv_has ls 4 [(0, .ref (aa 0 0)), (1, .ref (aa 9 g1)), (2, .int x2), (3, .int x3)] := hl
  unfold F_K_takeBack at h
  refine lv_aload_n hx hb de_K_takeBack_0 rfl (lv_at hl 1 rfl) ?_
  refine kg_9 (v := .ref (aa 13 g1)) hx hb ht hown hK hP hg1 4 (by decide) tw_1_69 rfl de_K_takeBack_1 ?_
  refine lv_iload_n hx hb de_K_takeBack_4 rfl (lv_at hl 2 rfl) ?_
  refine lv_dup2_11 hx hb de_K_takeBack_5 rfl rfl ?_
  obtain ⟨hi1, h⟩ := gd_some h
  refine kl_13 hx hb hK hP hg1 (inb_in hi1) de_K_takeBack_6 ?_
  refine lv_iload_n hx hb de_K_takeBack_7 rfl (lv_at hl 3 rfl) ?_
  refine lv_isub hx hb de_K_takeBack_8 ?_
  obtain ⟨hi2, h⟩ := gd_some h
  refine kt_13 hx hb hK hP hJ hS hg1 (inb_in hi2) de_K_takeBack_9 (fun H locs hP hS => ?_)
  obtain ⟨σ3, eσ3, h⟩ := lx_ex h
  rw [← eσ3] at hP
  refine lv_aload_n hx hb de_K_takeBack_10 rfl (lv_at hl 0 rfl) ?_
  refine kg_0 (v := .ref (aa 2 0)) hx hb ht hown hK hP (by decide) 1 (by decide) tw_1_172 rfl de_K_takeBack_11 ?_
  refine lv_iload_n hx hb de_K_takeBack_14 rfl (lv_at hl 2 rfl) ?_
  obtain ⟨hi4, h⟩ := gd_some h
  refine kl_2 hx hb hK hP (by decide) (inb_in hi4) de_K_takeBack_15 (fun j5 ej5 => ?_)
  have h := lx_at h j5 ej5
  have hj5 : j5 < 4 := by rw [ej5]; exact inb_lt hi4
  refine lv_dup hx hb de_K_takeBack_16 rfl ?_
  refine kg_14 (v := .int (gI σ3 16 j5 0)) hx hb ht hown hK hP hj5 2 (by decide) tw_1_137 rfl de_K_takeBack_17 ?_
  refine lv_iload_n hx hb de_K_takeBack_20 rfl (lv_at hl 3 rfl) ?_
  refine lv_isub hx hb de_K_takeBack_21 ?_
  refine kp_14_seized hx hb ht hown hK hP hJ hS hj5 tw_1_137 de_K_takeBack_22 (fun H locs hP hS => ?_)
  obtain ⟨σ6, eσ6, h⟩ := lx_ex h
  rw [← eσ6] at hP
  have h := Option.some.inj h
  subst h
  exact W.vret hx hb hr (fun t ht hW => ⟨⟨_, rfl, rfl, by rw [ht]; exact hP, va_K.moved hW.alike hK⟩, hS.F ht⟩) hS.2.2 de_K_takeBack_25 hlocks
set_option maxHeartbeats 4000000 in
set_option maxRecDepth 100000 in
theorem c_K_giveBack (l : Launch) (D : va_G) (aa : Nat → Nat → Nat) (q : Nat → ClassId) (hJ : wJ kC aa) (σ : kS) (g1 : Nat) (hg1 : g1 < 12) (x2 : Int32) (x3 : Int32) (res : kS) (h : F_K_giveBack σ g1 x2 x3 = some res) : Met l by_K_giveBack (.code by_K_giveBack bc_K_giveBack 4 none :: lw_g) brm_K_giveBack (va_Pc [.ref (aa 0 0), .ref (aa 9 g1), .int x2, .int x3] (kPre D aa q σ)) (va_Qv (fun u : kS => u = res) (kB D aa q) (wA kC aa)) 0 0 (wA kC aa) := by
  refine Met.ofW (cc := bc_K_giveBack) (maxL := 4) (ret := none) (by decide) rfl ?_
  intro p e s m args below meth c s₁ B hml hv
  obtain ⟨rfl, hP, hK⟩ := hv
  have hx := B.exec
  have hb := B.bytes
  have hr := B.returns
  have ht : ∀ w ∈ lw_g, w.before ([.ref (aa 0 0), .ref (aa 9 g1), .int x2, .int x3] : List Value).toArray s = true := fun w h => atoms_spec (ws := .code by_K_giveBack bc_K_giveBack 4 none :: lw_g) B.pre w (List.mem_cons_of_mem _ h)
  have hown : s.vm.findClass bR_K = some m.cls := findClass_of_methodNamed B.named
  have hlocks := B.notSynchronized
  have S : CallFix p m c bc_K_giveBack 4 s ([.ref (aa 0 0), .ref (aa 9 g1), .int x2, .int x3] : List Value).toArray lw_g bR_K := ⟨hx, hb, hml, hown, ht⟩
  have hS : va_S (wA kC aa) s.heap s.heap [] := va_S.rf
  have hl := lv_entry ([.ref (aa 0 0), .ref (aa 9 g1), .int x2, .int x3]) (n := 4) (Nat.le_of_ble_eq_true rfl)
  rw [lg_entry_eq]
  generalize (lg_sl ([.ref (aa 0 0), .ref (aa 9 g1), .int x2, .int x3]) ++ List.replicate (4 - (lg_sl ([.ref (aa 0 0), .ref (aa 9 g1), .int x2, .int x3])).length) Slot.unset).toArray = ls at hl ⊢
  have hl : lv_has ls 4 [(0, .ref (aa 0 0)), (1, .ref (aa 9 g1)), (2, .int x2), (3, .int x3)] := hl
  unfold F_K_giveBack at h
  refine lv_aload_n hx hb de_K_giveBack_0 rfl (lv_at hl 0 rfl) ?_
  refine lv_aload_n hx hb de_K_giveBack_1 rfl (lv_at hl 1 rfl) ?_
  refine lv_iload_n hx hb de_K_giveBack_2 rfl (lv_at hl 2 rfl) ?_
  refine lv_iload_n hx hb de_K_giveBack_3 rfl (lv_at hl 3 rfl) ?_
  refine lv_aload_n hx hb de_K_giveBack_4 rfl (lv_at hl 1 rfl) ?_
  refine kg_9 (v := .ref (aa 13 g1)) hx hb ht hown hK hP hg1 4 (by decide) tw_1_69 rfl de_K_giveBack_5 ?_
  refine lv_iload_n hx hb de_K_giveBack_8 rfl (lv_at hl 2 rfl) ?_
  obtain ⟨hi1, h⟩ := gd_some h
  refine kl_13 hx hb hK hP hg1 (inb_in hi1) de_K_giveBack_9 ?_
  refine va_mmin hx hb (hml.trans hl.1.symm) hown (ht _ tw_2_56) (ht _ tw_2_57) (ht _ tw_1_8) (ht _ tw_min) (Nat.le_of_ble_eq_true rfl) (Nat.le_of_ble_eq_true rfl) (Nat.zero_le _) (Nat.zero_le _) de_K_giveBack_10 ?_
  obtain ⟨r2, hr2, h⟩ := bd_some h
  refine kq_v (va_runV (As := [.ref (aa 9 g1), .int x2, .int (if (gI σ 14 g1 x2.toNatClampNeg) < x3 then (gI σ 14 g1 x2.toNatClampNeg) else x3)]) (rest := []) S (c_K_takeBack l D aa q hJ σ g1 hg1 x2 (if (gI σ 14 g1 x2.toNatClampNeg) < x3 then (gI σ 14 g1 x2.toNatClampNeg) else x3) r2 hr2) (cwV 3 ht (gv_in tw_2_59 tw_2_61 ts_K_takeBack tw_1_1 tc_K_takeBack) rfl rfl rfl bh_K_takeBack ⟨Nat.le_of_ble_eq_true rfl, Nat.le_of_ble_eq_true rfl⟩) (kpreV hK hP (kr_0 hK hP (by decide))) rfl rfl hl.1 rfl (lv_room (Nat.le_of_ble_eq_true rfl)) de_K_giveBack_13 ⟨Nat.zero_le _, Nat.zero_le _⟩) hS (fun H locs hP hS => ?_)
  refine lv_aload_n hx hb de_K_giveBack_16 rfl (lv_at hl 0 rfl) ?_
  refine lv_iload_n hx hb de_K_giveBack_17 rfl (lv_at hl 2 rfl) ?_
  obtain ⟨r3, hr3, h⟩ := bd_some h
  refine kq_v (va_runV (As := [.int x2]) (rest := []) S (c_K_serve l D aa q hJ r2 x2 r3 hr3) (cwV 1 ht (gv_in tw_1_232 tw_1_234 ts_K_serve tw_1_1 tc_K_serve) rfl rfl rfl bh_K_serve ⟨Nat.le_of_ble_eq_true rfl, Nat.le_of_ble_eq_true rfl⟩) (kpreV hK hP (kr_0 hK hP (by decide))) rfl rfl hl.1 rfl (lv_room (Nat.le_of_ble_eq_true rfl)) de_K_giveBack_18 ⟨Nat.zero_le _, Nat.zero_le _⟩) hS (fun H locs hP hS => ?_)
  have h := Option.some.inj h
  subst h
  exact W.vret hx hb hr (fun t ht hW => ⟨⟨_, rfl, rfl, by rw [ht]; exact hP, va_K.moved hW.alike hK⟩, hS.F ht⟩) hS.2.2 de_K_giveBack_21 hlocks
set_option maxHeartbeats 4000000 in
set_option maxRecDepth 100000 in
theorem w_K_kill_52 {p : Program} {l : Launch} {e : Env} {s : State} {m : MethodId} {args : Array Value} {below : List Frame} {meth : Method} {c : Code} {Q : State → Prop} {D : va_G} {aa : Nat → Nat → Nat} {q : Nat → ClassId} (hJ : wJ kC aa) (S : CallFix p m c bc_K_kill 5 s args lw_g bR_K) (hlocks : meth.locks = false) (hK : va_K D kCl (kT q) s) : ∀ (n : Nat) (σ : kS) (g2 : Nat) (hg2 : g2 < 12) (x3 : Int32) (x4 : Int32) (ex : kS × Int32) (H : Heap) (locs : List Loc) (ls : Array Slot), lv_has ls 5 [(0, .ref (aa 0 0)), (2, .ref (aa 9 g2)), (3, .int x3), (4, .int x4)] → va_P D kCl (kW aa q σ) H → va_S (wA kC aa) s.heap H locs → F_K_kill_52 n σ g2 x3 x4 = some ex → (∀ (H1 : Heap) (locs1 : List Loc) (ls1 : Array Slot), lv_has ls1 5 [(0, .ref (aa 0 0)), (2, .ref (aa 9 g2)), (3, .int x3), (4, .int ex.2)] → va_P D kCl (kW aa q ex.1) H1 → va_S (wA kC aa) s.heap H1 locs1 → W p l e brm_K_kill s m args below meth c H1 locs1 0 0 Q (F0 m 97 ls1 [])) → W p l e brm_K_kill s m args below meth c H locs 0 0 Q (F0 m 52 ls []) := by
  obtain ⟨hx, hb, hml, hown, hts⟩ := id S
  have ht := hts
  intro n
  induction n with
  | zero => intro σ g2 hg2 x3 x4 ex H locs ls hl hP hS h k; cases (show (none : Option (kS × Int32)) = some ex from h)
  | succ n ih =>
    intro σ g2 hg2 x3 x4 ex H locs ls hl hP hS h k
    unfold F_K_kill_52 at h
    refine lv_iload hx hb de_K_kill_52 (lv_at hl 3 rfl) ?_
    refine lv_aload_n hx hb de_K_kill_54 rfl (lv_at hl 1 rfl) ?_
    refine kg_9 (v := .int (gI σ 3 g2 0)) hx hb ht hown hK hP hg2 5 (by decide) tw_1_71 rfl de_K_kill_55 ?_
    refine lv_icmp_ge (tgt := 97) hx hb de_K_kill_58 (by decide) (fun hc => ?_) (fun hc => ?_)
    · have h := ie_t h hc
      have h := Option.some.inj h
      subst h
      exact k _ _ _ (lv_sub hl [0, 1, 2, 3] rfl) hP hS
    · have h := ie_f h hc
      refine lv_aload_n hx hb de_K_kill_61 rfl (lv_at hl 1 rfl) ?_
      refine kg_9 (v := .ref (aa 10 g2)) hx hb ht hown hK hP hg2 1 (by decide) tw_1_63 rfl de_K_kill_62 ?_
      refine lv_iload hx hb de_K_kill_65 (lv_at hl 3 rfl) ?_
      obtain ⟨hi1, h⟩ := gd_some h
      refine kl_10 hx hb hK hP hg2 (inb_in hi1) de_K_kill_67 ?_
      refine lv_iconst (v := 3) hx hb de_K_kill_68 (by decide) ?_
      refine lv_icmp_ne (tgt := 91) hx hb de_K_kill_69 (by decide) (fun hc => ?_) (fun hc => ?_)
      · have h := ie_f h hc
        refine lv_iinc (k := 3) (v := x4 + 1) (lv' := [(4, .int (x4 + 1)), (0, .ref (aa 0 0)), (2, .ref (aa 9 g2)), (3, .int x3)]) hx hb de_K_kill_91 hl rfl (ii_p1 _) (by decide) rfl (fun ls hl => ?_)
        refine lv_goto (tgt := 52) hx hb de_K_kill_94 (by decide) ?_
        exact ih σ g2 hg2 x3 (x4 + 1) ex _ _ _ (lv_sub hl [1, 2, 3, 0] rfl) hP hS h k
      · have h := ie_t h hc
        refine lv_aload_n hx hb de_K_kill_72 rfl (lv_at hl 0 rfl) ?_
        refine lv_aload_n hx hb de_K_kill_73 rfl (lv_at hl 1 rfl) ?_
        refine lv_aload_n hx hb de_K_kill_74 rfl (lv_at hl 1 rfl) ?_
        refine kg_9 (v := .ref (aa 11 g2)) hx hb ht hown hK hP hg2 2 (by decide) tw_1_65 rfl de_K_kill_75 ?_
        refine lv_iload hx hb de_K_kill_78 (lv_at hl 3 rfl) ?_
        obtain ⟨hi2, h⟩ := gd_some h
        refine kl_11 hx hb hK hP hg2 (inb_in hi2) de_K_kill_80 ?_
        refine lv_aload_n hx hb de_K_kill_81 rfl (lv_at hl 1 rfl) ?_
        refine kg_9 (v := .ref (aa 12 g2)) hx hb ht hown hK hP hg2 3 (by decide) tw_1_67 rfl de_K_kill_82 ?_
        refine lv_iload hx hb de_K_kill_85 (lv_at hl 3 rfl) ?_
        obtain ⟨hi3, h⟩ := gd_some h
        refine kl_12 hx hb hK hP hg2 (inb_in hi3) de_K_kill_87 ?_
        obtain ⟨r4, hr4, h⟩ := bd_some h
        refine kq_v (va_runV (As := [.ref (aa 9 g2), .int (gI σ 12 g2 x4.toNatClampNeg), .int (gI σ 13 g2 x4.toNatClampNeg)]) (rest := []) S (c_K_giveBack l D aa q hJ σ g2 hg2 (gI σ 12 g2 x4.toNatClampNeg) (gI σ 13 g2 x4.toNatClampNeg) r4 hr4) (cwV 3 ht (gv_in tw_2_52 tw_2_54 ts_K_giveBack tw_1_1 tc_K_giveBack) rfl rfl rfl bh_K_giveBack ⟨Nat.le_of_ble_eq_true rfl, Nat.le_of_ble_eq_true rfl⟩) (kpreV hK hP (kr_0 hK hP (by decide))) rfl rfl hl.1 rfl (lv_room (Nat.le_of_ble_eq_true rfl)) de_K_kill_88 ⟨Nat.zero_le _, Nat.zero_le _⟩) hS (fun H locs hP hS => ?_)
        refine lv_iinc (k := 3) (v := x4 + 1) (lv' := [(4, .int (x4 + 1)), (0, .ref (aa 0 0)), (2, .ref (aa 9 g2)), (3, .int x3)]) hx hb de_K_kill_91 hl rfl (ii_p1 _) (by decide) rfl (fun ls hl => ?_)
        refine lv_goto (tgt := 52) hx hb de_K_kill_94 (by decide) ?_
        exact ih r4 g2 hg2 x3 (x4 + 1) ex _ _ _ (lv_sub hl [1, 2, 3, 0] rfl) hP hS h k
set_option maxHeartbeats 4000000 in
set_option maxRecDepth 100000 in
theorem c_K_kill (l : Launch) (D : va_G) (aa : Nat → Nat → Nat) (q : Nat → ClassId) (hJ : wJ kC aa) (σ : kS) (x1 : Int32) (res : Int32 × kS) (h : F_K_kill σ x1 = some res) : Met l by_K_kill (.code by_K_kill bc_K_kill 5 (some .boolean) :: lw_g) brm_K_kill (va_Pc [.ref (aa 0 0), .int x1] (kPre D aa q σ)) (va_Qi (fun (r : Int32) (u : kS) => r = res.1 ∧ u = res.2) (kB D aa q) (wA kC aa)) 0 0 (wA kC aa) := by
  refine Met.ofW (cc := bc_K_kill) (maxL := 5) (ret := (some .boolean)) (by decide) rfl ?_
  intro p e s m args below meth c s₁ B hml hv
  obtain ⟨rfl, hP, hK⟩ := hv
  have hx := B.exec
  have hb := B.bytes
  have hr := B.returns
  have ht : ∀ w ∈ lw_g, w.before ([.ref (aa 0 0), .int x1] : List Value).toArray s = true := fun w h => atoms_spec (ws := .code by_K_kill bc_K_kill 5 (some .boolean) :: lw_g) B.pre w (List.mem_cons_of_mem _ h)
  have hown : s.vm.findClass bR_K = some m.cls := findClass_of_methodNamed B.named
  have hlocks := B.notSynchronized
  have S : CallFix p m c bc_K_kill 5 s ([.ref (aa 0 0), .int x1] : List Value).toArray lw_g bR_K := ⟨hx, hb, hml, hown, ht⟩
  have hS : va_S (wA kC aa) s.heap s.heap [] := va_S.rf
  have hl := lv_entry ([.ref (aa 0 0), .int x1]) (n := 5) (Nat.le_of_ble_eq_true rfl)
  rw [lg_entry_eq]
  generalize (lg_sl ([.ref (aa 0 0), .int x1]) ++ List.replicate (5 - (lg_sl ([.ref (aa 0 0), .int x1])).length) Slot.unset).toArray = ls at hl ⊢
  have hl : lv_has ls 5 [(0, .ref (aa 0 0)), (1, .int x1)] := hl
  unfold F_K_kill at h
  refine lv_aload_n hx hb de_K_kill_0 rfl (lv_at hl 0 rfl) ?_
  refine lv_iload_n hx hb de_K_kill_1 rfl (lv_at hl 1 rfl) ?_
  obtain ⟨r1, hr1, h⟩ := bd_some h
  refine kq_i (va_runV (As := [.int x1]) (rest := []) S (c_K_isProcess l D aa q hJ σ x1 r1 hr1) (cwV 1 ht (gv_in tw_1_210 tw_1_212 ts_K_isProcess tw_1_1 tc_K_isProcess) rfl rfl rfl bh_K_isProcess ⟨Nat.le_of_ble_eq_true rfl, Nat.le_of_ble_eq_true rfl⟩) (kpreV hK hP (kr_0 hK hP (by decide))) rfl rfl hl.1 rfl (lv_room (Nat.le_of_ble_eq_true rfl)) de_K_kill_2 ⟨Nat.zero_le _, Nat.zero_le _⟩) hS (fun H locs hP hS => ?_)
  refine lv_if_eq (tgt := 20) hx hb de_K_kill_5 (by decide) (fun hc => ?_) (fun hc => ?_)
  · have h := ie_t h hc
    refine lv_iconst (v := 0) hx hb de_K_kill_20 (by decide) ?_
    have h := Option.some.inj h
    subst h
    exact W.zret (v := 0) hx hb hr rfl (fun t ht hW => ⟨⟨_, _, rfl, ⟨rfl, rfl⟩, by rw [ht]; exact hP, va_K.moved hW.alike hK⟩, hS.F ht⟩) hS.2.2 de_K_kill_21 hlocks
  · have h := ie_f h hc
    refine lv_aload_n hx hb de_K_kill_8 rfl (lv_at hl 0 rfl) ?_
    refine kg_0 (v := .ref (aa 1 0)) hx hb ht hown hK hP (by decide) 0 (by decide) tw_1_171 rfl de_K_kill_9 ?_
    refine lv_iload_n hx hb de_K_kill_12 rfl (lv_at hl 1 rfl) ?_
    obtain ⟨hi2, h⟩ := gd_some h
    refine kl_1 hx hb hK hP (by decide) (inb_in hi2) de_K_kill_13 (fun j3 ej3 => ?_)
    have h := lx_at h j3 ej3
    have hj3 : j3 < 12 := by rw [ej3]; exact inb_lt hi2
    obtain ⟨r4, hr4, h⟩ := bd_some h
    refine kq_i (va_runV (As := []) (rest := []) S (c_P_isOver l D aa q hJ σ j3 hj3 r4 hr4) (cwV 0 ht (gv_in tw_2_48 tw_2_49 tw_2_50 tw_1_4 tc_P_isOver) rfl rfl rfl bh_P_isOver ⟨Nat.le_of_ble_eq_true rfl, Nat.le_of_ble_eq_true rfl⟩) (kpreV hK hP (kr_9 hK hP hj3)) rfl rfl hl.1 rfl (lv_room (Nat.le_of_ble_eq_true rfl)) de_K_kill_14 ⟨Nat.zero_le _, Nat.zero_le _⟩) hS (fun H locs hP hS => ?_)
    refine lv_if_eq (tgt := 22) hx hb de_K_kill_17 (by decide) (fun hc => ?_) (fun hc => ?_)
    · have h := ie_t h hc
      refine lv_aload_n hx hb de_K_kill_22 rfl (lv_at hl 0 rfl) ?_
      refine kg_0 (v := .ref (aa 1 0)) hx hb ht hown hK hP (by decide) 0 (by decide) tw_1_171 rfl de_K_kill_23 ?_
      refine lv_iload_n hx hb de_K_kill_26 rfl (lv_at hl 1 rfl) ?_
      obtain ⟨hi5, h⟩ := gd_some h
      refine kl_1 hx hb hK hP (by decide) (inb_in hi5) de_K_kill_27 (fun j6 ej6 => ?_)
      have h := lx_at h j6 ej6
      have hj6 : j6 < 12 := by rw [ej6]; exact inb_lt hi5
      refine lv_astore_n (lv' := [(2, .ref (aa 9 j6)), (0, .ref (aa 0 0)), (1, .int x1)]) hx hb de_K_kill_28 rfl hl (by decide) rfl (fun ls hl => ?_)
      refine lv_aload_n hx hb de_K_kill_29 rfl (lv_at hl 1 rfl) ?_
      refine lv_aload_n hx hb de_K_kill_30 rfl (lv_at hl 0 rfl) ?_
      obtain ⟨r7, hr7, h⟩ := bd_some h
      refine kq_i (va_runV (As := [.ref (aa 9 j6)]) (rest := []) S (c_K_lineOf l D aa q hJ σ j6 hj6 r7 hr7) (cwV 1 ht (gv_in tw_2_32 tw_2_34 ts_K_lineOf tw_1_1 tc_K_lineOf) rfl rfl rfl bh_K_lineOf ⟨Nat.le_of_ble_eq_true rfl, Nat.le_of_ble_eq_true rfl⟩) (kpreV hK hP (kr_0 hK hP (by decide))) rfl rfl hl.1 rfl (lv_room (Nat.le_of_ble_eq_true rfl)) de_K_kill_31 ⟨Nat.zero_le _, Nat.zero_le _⟩) hS (fun H locs hP hS => ?_)
      refine lv_istore_n (lv' := [(3, .int r7), (2, .ref (aa 9 j6)), (0, .ref (aa 0 0)), (1, .int x1)]) hx hb de_K_kill_34 rfl hl (by decide) rfl (fun ls hl => ?_)
      refine lv_aload_n hx hb de_K_kill_35 rfl (lv_at hl 2 rfl) ?_
      refine lv_aload_n hx hb de_K_kill_36 rfl (lv_at hl 1 rfl) ?_
      obtain ⟨r8, hr8, h⟩ := bd_some h
      refine kq_v (va_runV (As := [.ref (aa 9 j6)]) (rest := []) S (c_K_leave l D aa q hJ σ j6 hj6 r8 hr8) (cwV 1 ht (gv_in tw_2_40 tw_2_42 ts_K_leave tw_1_1 tc_K_leave) rfl rfl rfl bh_K_leave ⟨Nat.le_of_ble_eq_true rfl, Nat.le_of_ble_eq_true rfl⟩) (kpreV hK hP (kr_0 hK hP (by decide))) rfl rfl hl.1 rfl (lv_room (Nat.le_of_ble_eq_true rfl)) de_K_kill_37 ⟨Nat.zero_le _, Nat.zero_le _⟩) hS (fun H locs hP hS => ?_)
      refine lv_aload_n hx hb de_K_kill_40 rfl (lv_at hl 1 rfl) ?_
      refine lv_bipush (v := 7) hx hb de_K_kill_41 (by decide) ?_
      refine kp_9_state hx hb ht hown hK hP hJ hS hj6 tw_1_79 de_K_kill_43 (fun H locs hP hS => ?_)
      obtain ⟨σ9, eσ9, h⟩ := lx_ex h
      rw [← eσ9] at hP
      refine lv_aload_n hx hb de_K_kill_46 rfl (lv_at hl 1 rfl) ?_
      refine kg_9 (v := .int (gI σ9 8 j6 0)) hx hb ht hown hK hP hj6 10 (by decide) tw_1_81 rfl de_K_kill_47 ?_
      refine lv_topi (fun v10 ev10 => ?_)
      have h := lx_at h v10 ev10
      refine lv_istore (lv' := [(4, .int v10), (3, .int r7), (2, .ref (aa 9 j6)), (0, .ref (aa 0 0)), (1, .int x1)]) hx hb de_K_kill_50 hl (by decide) rfl (fun ls hl => ?_)
      obtain ⟨ex11, hex11, h⟩ := bd_some h
      refine w_K_kill_52 hJ S hlocks hK 1000 σ9 j6 hj6 r7 v10 ex11 _ _ _ (lv_sub hl [3, 2, 1, 0] rfl) hP hS hex11 (fun H locs ls hl hP hS => ?_)
      refine lv_aload_n hx hb de_K_kill_97 rfl (lv_at hl 0 rfl) ?_
      refine lv_iload_n hx hb de_K_kill_98 rfl (lv_at hl 2 rfl) ?_
      obtain ⟨r12, hr12, h⟩ := bd_some h
      refine kq_v (va_runV (As := [.int r7]) (rest := []) S (c_K_serve l D aa q hJ ex11.1 r7 r12 hr12) (cwV 1 ht (gv_in tw_1_232 tw_1_234 ts_K_serve tw_1_1 tc_K_serve) rfl rfl rfl bh_K_serve ⟨Nat.le_of_ble_eq_true rfl, Nat.le_of_ble_eq_true rfl⟩) (kpreV hK hP (kr_0 hK hP (by decide))) rfl rfl hl.1 rfl (lv_room (Nat.le_of_ble_eq_true rfl)) de_K_kill_99 ⟨Nat.zero_le _, Nat.zero_le _⟩) hS (fun H locs hP hS => ?_)
      refine lv_iconst (v := 1) hx hb de_K_kill_102 (by decide) ?_
      have h := Option.some.inj h
      subst h
      exact W.zret (v := 1) hx hb hr rfl (fun t ht hW => ⟨⟨_, _, rfl, ⟨rfl, rfl⟩, by rw [ht]; exact hP, va_K.moved hW.alike hK⟩, hS.F ht⟩) hS.2.2 de_K_kill_103 hlocks
    · have h := ie_f h hc
      refine lv_iconst (v := 0) hx hb de_K_kill_20 (by decide) ?_
      have h := Option.some.inj h
      subst h
      exact W.zret (v := 0) hx hb hr rfl (fun t ht hW => ⟨⟨_, _, rfl, ⟨rfl, rfl⟩, by rw [ht]; exact hP, va_K.moved hW.alike hK⟩, hS.F ht⟩) hS.2.2 de_K_kill_21 hlocks
set_option maxHeartbeats 4000000 in
set_option maxRecDepth 100000 in
theorem c_P_isBefore (l : Launch) (D : va_G) (aa : Nat → Nat → Nat) (q : Nat → ClassId) (hJ : wJ kC aa) (σ : kS) (g0 : Nat) (hg0 : g0 < 12) (g1 : Nat) (hg1 : g1 < 12) (res : Int32) (h : F_P_isBefore σ g0 g1 = some res) : Met l by_P_isBefore (.code by_P_isBefore bc_P_isBefore 2 (some .boolean) :: lw_g) brm_P_isBefore (va_Pc [.ref (aa 9 g0), .ref (aa 9 g1)] (kPre D aa q σ)) (va_Qi (fun (r : Int32) (u : kS) => r = res ∧ u = σ) (kB D aa q) (wA kC aa)) 0 0 (wA kC aa) := by
  refine Met.ofW (cc := bc_P_isBefore) (maxL := 2) (ret := (some .boolean)) (by decide) rfl ?_
  intro p e s m args below meth c s₁ B hml hv
  obtain ⟨rfl, hP, hK⟩ := hv
  have hx := B.exec
  have hb := B.bytes
  have hr := B.returns
  have ht : ∀ w ∈ lw_g, w.before ([.ref (aa 9 g0), .ref (aa 9 g1)] : List Value).toArray s = true := fun w h => atoms_spec (ws := .code by_P_isBefore bc_P_isBefore 2 (some .boolean) :: lw_g) B.pre w (List.mem_cons_of_mem _ h)
  have hown : s.vm.findClass bR_P = some m.cls := findClass_of_methodNamed B.named
  have hlocks := B.notSynchronized
  have S : CallFix p m c bc_P_isBefore 2 s ([.ref (aa 9 g0), .ref (aa 9 g1)] : List Value).toArray lw_g bR_P := ⟨hx, hb, hml, hown, ht⟩
  have hS : va_S (wA kC aa) s.heap s.heap [] := va_S.rf
  have hl := lv_entry ([.ref (aa 9 g0), .ref (aa 9 g1)]) (n := 2) (Nat.le_of_ble_eq_true rfl)
  rw [lg_entry_eq]
  generalize (lg_sl ([.ref (aa 9 g0), .ref (aa 9 g1)]) ++ List.replicate (2 - (lg_sl ([.ref (aa 9 g0), .ref (aa 9 g1)])).length) Slot.unset).toArray = ls at hl ⊢
  have hl : lv_has ls 2 [(0, .ref (aa 9 g0)), (1, .ref (aa 9 g1))] := hl
  unfold F_P_isBefore at h
  refine lv_aload_n hx hb de_P_isBefore_0 rfl (lv_at hl 0 rfl) ?_
  refine kg_9 (v := .long (gL σ 2 g0 0)) hx hb ht hown hK hP hg0 13 (by decide) tw_1_86 rfl de_P_isBefore_1 ?_
  refine lv_aload_n hx hb de_P_isBefore_4 rfl (lv_at hl 1 rfl) ?_
  refine kg_9 (v := .long (gL σ 2 g1 0)) hx hb ht hown hK hP hg1 13 (by decide) tw_1_86 rfl de_P_isBefore_5 ?_
  refine W.lcmp hx hb de_P_isBefore_8 ?_
  refine lv_if_eq (tgt := 30) hx hb de_P_isBefore_9 (by decide) (fun hc => ?_) (fun hc => ?_)
  · have h := ie_t h hc
    refine lv_aload_n hx hb de_P_isBefore_30 rfl (lv_at hl 0 rfl) ?_
    refine kg_9 (v := .int (gI σ 4 g0 0)) hx hb ht hown hK hP hg0 6 (by decide) tw_1_72 rfl de_P_isBefore_31 ?_
    refine lv_aload_n hx hb de_P_isBefore_34 rfl (lv_at hl 1 rfl) ?_
    refine kg_9 (v := .int (gI σ 4 g1 0)) hx hb ht hown hK hP hg1 6 (by decide) tw_1_72 rfl de_P_isBefore_35 ?_
    refine lv_icmp_eq (tgt := 58) hx hb de_P_isBefore_38 (by decide) (fun hc => ?_) (fun hc => ?_)
    · have h := ie_t h hc
      refine lv_aload_n hx hb de_P_isBefore_58 rfl (lv_at hl 0 rfl) ?_
      refine kg_9 (v := .long (gL σ 3 g0 0)) hx hb ht hown hK hP hg0 14 (by decide) tw_1_88 rfl de_P_isBefore_59 ?_
      refine lv_aload_n hx hb de_P_isBefore_62 rfl (lv_at hl 1 rfl) ?_
      refine kg_9 (v := .long (gL σ 3 g1 0)) hx hb ht hown hK hP hg1 14 (by decide) tw_1_88 rfl de_P_isBefore_63 ?_
      refine W.lcmp hx hb de_P_isBefore_66 ?_
      refine lv_if_ge (tgt := 74) hx hb de_P_isBefore_67 (by decide) (fun hc => ?_) (fun hc => ?_)
      · have h := ie_t h hc
        refine lv_iconst (v := 0) hx hb de_P_isBefore_74 (by decide) ?_
        have h := Option.some.inj h
        subst h
        exact W.zret (v := 0) hx hb hr rfl (fun t ht hW => ⟨⟨_, _, rfl, ⟨rfl, rfl⟩, by rw [ht]; exact hP, va_K.moved hW.alike hK⟩, hS.F ht⟩) hS.2.2 de_P_isBefore_75 hlocks
      · have h := ie_f h hc
        refine lv_iconst (v := 1) hx hb de_P_isBefore_70 (by decide) ?_
        refine lv_goto (tgt := 75) hx hb de_P_isBefore_71 (by decide) ?_
        have h := Option.some.inj h
        subst h
        exact W.zret (v := 1) hx hb hr rfl (fun t ht hW => ⟨⟨_, _, rfl, ⟨rfl, rfl⟩, by rw [ht]; exact hP, va_K.moved hW.alike hK⟩, hS.F ht⟩) hS.2.2 de_P_isBefore_75 hlocks
    · have h := ie_f h hc
      refine lv_aload_n hx hb de_P_isBefore_41 rfl (lv_at hl 0 rfl) ?_
      refine kg_9 (v := .int (gI σ 4 g0 0)) hx hb ht hown hK hP hg0 6 (by decide) tw_1_72 rfl de_P_isBefore_42 ?_
      refine lv_aload_n hx hb de_P_isBefore_45 rfl (lv_at hl 1 rfl) ?_
      refine kg_9 (v := .int (gI σ 4 g1 0)) hx hb ht hown hK hP hg1 6 (by decide) tw_1_72 rfl de_P_isBefore_46 ?_
      refine lv_icmp_ge (tgt := 56) hx hb de_P_isBefore_49 (by decide) (fun hc => ?_) (fun hc => ?_)
      · have h := ie_t h hc
        refine lv_iconst (v := 0) hx hb de_P_isBefore_56 (by decide) ?_
        have h := Option.some.inj h
        subst h
        exact W.zret (v := 0) hx hb hr rfl (fun t ht hW => ⟨⟨_, _, rfl, ⟨rfl, rfl⟩, by rw [ht]; exact hP, va_K.moved hW.alike hK⟩, hS.F ht⟩) hS.2.2 de_P_isBefore_57 hlocks
      · have h := ie_f h hc
        refine lv_iconst (v := 1) hx hb de_P_isBefore_52 (by decide) ?_
        refine lv_goto (tgt := 57) hx hb de_P_isBefore_53 (by decide) ?_
        have h := Option.some.inj h
        subst h
        exact W.zret (v := 1) hx hb hr rfl (fun t ht hW => ⟨⟨_, _, rfl, ⟨rfl, rfl⟩, by rw [ht]; exact hP, va_K.moved hW.alike hK⟩, hS.F ht⟩) hS.2.2 de_P_isBefore_57 hlocks
  · have h := ie_f h hc
    refine lv_aload_n hx hb de_P_isBefore_12 rfl (lv_at hl 0 rfl) ?_
    refine kg_9 (v := .long (gL σ 2 g0 0)) hx hb ht hown hK hP hg0 13 (by decide) tw_1_86 rfl de_P_isBefore_13 ?_
    refine lv_aload_n hx hb de_P_isBefore_16 rfl (lv_at hl 1 rfl) ?_
    refine kg_9 (v := .long (gL σ 2 g1 0)) hx hb ht hown hK hP hg1 13 (by decide) tw_1_86 rfl de_P_isBefore_17 ?_
    refine W.lcmp hx hb de_P_isBefore_20 ?_
    refine lv_if_ge (tgt := 28) hx hb de_P_isBefore_21 (by decide) (fun hc => ?_) (fun hc => ?_)
    · have h := ie_t h hc
      refine lv_iconst (v := 0) hx hb de_P_isBefore_28 (by decide) ?_
      have h := Option.some.inj h
      subst h
      exact W.zret (v := 0) hx hb hr rfl (fun t ht hW => ⟨⟨_, _, rfl, ⟨rfl, rfl⟩, by rw [ht]; exact hP, va_K.moved hW.alike hK⟩, hS.F ht⟩) hS.2.2 de_P_isBefore_29 hlocks
    · have h := ie_f h hc
      refine lv_iconst (v := 1) hx hb de_P_isBefore_24 (by decide) ?_
      refine lv_goto (tgt := 29) hx hb de_P_isBefore_25 (by decide) ?_
      have h := Option.some.inj h
      subst h
      exact W.zret (v := 1) hx hb hr rfl (fun t ht hW => ⟨⟨_, _, rfl, ⟨rfl, rfl⟩, by rw [ht]; exact hP, va_K.moved hW.alike hK⟩, hS.F ht⟩) hS.2.2 de_P_isBefore_29 hlocks
set_option maxHeartbeats 4000000 in
set_option maxRecDepth 100000 in
theorem w_K_firstEntry_4 {p : Program} {l : Launch} {e : Env} {s : State} {m : MethodId} {args : Array Value} {below : List Frame} {meth : Method} {c : Code} {Q : State → Prop} {D : va_G} {aa : Nat → Nat → Nat} {q : Nat → ClassId} (hJ : wJ kC aa) (S : CallFix p m c bc_K_firstEntry 3 s args lw_g bR_K) (hlocks : meth.locks = false) (hK : va_K D kCl (kT q) s) : ∀ (n : Nat) (σ : kS) (x1 : Int32) (x2 : Int32) (ex : Int32 × Int32) (H : Heap) (locs : List Loc) (ls : Array Slot), lv_has ls 3 [(0, .ref (aa 0 0)), (1, .int x1), (2, .int x2)] → va_P D kCl (kW aa q σ) H → va_S (wA kC aa) s.heap H locs → F_K_firstEntry_4 n σ x1 x2 = some ex → (∀ (H1 : Heap) (locs1 : List Loc) (ls1 : Array Slot), lv_has ls1 3 [(0, .ref (aa 0 0)), (1, .int ex.1), (2, .int ex.2)] → va_P D kCl (kW aa q σ) H1 → va_S (wA kC aa) s.heap H1 locs1 → W p l e brm_K_firstEntry s m args below meth c H1 locs1 0 0 Q (F0 m 55 ls1 [])) → W p l e brm_K_firstEntry s m args below meth c H locs 0 0 Q (F0 m 4 ls []) := by
  obtain ⟨hx, hb, hml, hown, hts⟩ := id S
  have ht := hts
  intro n
  induction n with
  | zero => intro σ x1 x2 ex H locs ls hl hP hS h k; cases (show (none : Option (Int32 × Int32)) = some ex from h)
  | succ n ih =>
    intro σ x1 x2 ex H locs ls hl hP hS h k
    unfold F_K_firstEntry_4 at h
    refine lv_iload_n hx hb de_K_firstEntry_4 rfl (lv_at hl 2 rfl) ?_
    refine lv_aload_n hx hb de_K_firstEntry_5 rfl (lv_at hl 0 rfl) ?_
    refine kg_0 (v := .int (gI σ 0 0 0)) hx hb ht hown hK hP (by decide) 6 (by decide) tw_1_177 rfl de_K_firstEntry_6 ?_
    refine lv_icmp_ge (tgt := 55) hx hb de_K_firstEntry_9 (by decide) (fun hc => ?_) (fun hc => ?_)
    · have h := ie_t h hc
      have h := Option.some.inj h
      subst h
      exact k _ _ _ (lv_sub hl [0, 1, 2] rfl) hP hS
    · have h := ie_f h hc
      refine lv_aload_n hx hb de_K_firstEntry_12 rfl (lv_at hl 0 rfl) ?_
      refine kg_0 (v := .ref (aa 1 0)) hx hb ht hown hK hP (by decide) 0 (by decide) tw_1_171 rfl de_K_firstEntry_13 ?_
      refine lv_iload_n hx hb de_K_firstEntry_16 rfl (lv_at hl 2 rfl) ?_
      obtain ⟨hi1, h⟩ := gd_some h
      refine kl_1 hx hb hK hP (by decide) (inb_in hi1) de_K_firstEntry_17 (fun j2 ej2 => ?_)
      have h := lx_at h j2 ej2
      have hj2 : j2 < 12 := by rw [ej2]; exact inb_lt hi1
      refine kg_9 (v := .int (gI σ 10 j2 0)) hx hb ht hown hK hP hj2 12 (by decide) tw_1_85 rfl de_K_firstEntry_18 ?_
      refine lv_if_eq (tgt := 49) hx hb de_K_firstEntry_21 (by decide) (fun hc => ?_) (fun hc => ?_)
      · have h := ie_t h hc
        refine lv_iinc (k := 2) (v := x2 + 1) (lv' := [(2, .int (x2 + 1)), (0, .ref (aa 0 0)), (1, .int x1)]) hx hb de_K_firstEntry_49 hl rfl (ii_p1 _) (by decide) rfl (fun ls hl => ?_)
        refine lv_goto (tgt := 4) hx hb de_K_firstEntry_52 (by decide) ?_
        exact ih σ x1 (x2 + 1) ex _ _ _ (lv_sub hl [1, 2, 0] rfl) hP hS h k
      · have h := ie_f h hc
        refine lv_iload_n hx hb de_K_firstEntry_24 rfl (lv_at hl 1 rfl) ?_
        refine lv_iconst (v := (-1)) hx hb de_K_firstEntry_25 (by decide) ?_
        refine lv_icmp_eq (tgt := 47) hx hb de_K_firstEntry_26 (by decide) (fun hc => ?_) (fun hc => ?_)
        · have h := ie_t h hc
          refine lv_iload_n hx hb de_K_firstEntry_47 rfl (lv_at hl 2 rfl) ?_
          refine lv_istore_n (lv' := [(1, .int x2), (0, .ref (aa 0 0)), (2, .int x2)]) hx hb de_K_firstEntry_48 rfl hl (by decide) rfl (fun ls hl => ?_)
          refine lv_iinc (k := 2) (v := x2 + 1) (lv' := [(2, .int (x2 + 1)), (1, .int x2), (0, .ref (aa 0 0))]) hx hb de_K_firstEntry_49 hl rfl (ii_p1 _) (by decide) rfl (fun ls hl => ?_)
          refine lv_goto (tgt := 4) hx hb de_K_firstEntry_52 (by decide) ?_
          exact ih σ x2 (x2 + 1) ex _ _ _ (lv_sub hl [2, 1, 0] rfl) hP hS h k
        · have h := ie_f h hc
          refine lv_aload_n hx hb de_K_firstEntry_29 rfl (lv_at hl 0 rfl) ?_
          refine kg_0 (v := .ref (aa 1 0)) hx hb ht hown hK hP (by decide) 0 (by decide) tw_1_171 rfl de_K_firstEntry_30 ?_
          refine lv_iload_n hx hb de_K_firstEntry_33 rfl (lv_at hl 2 rfl) ?_
          obtain ⟨hi3, h⟩ := gd_some h
          refine kl_1 hx hb hK hP (by decide) (inb_in hi3) de_K_firstEntry_34 (fun j4 ej4 => ?_)
          have h := lx_at h j4 ej4
          have hj4 : j4 < 12 := by rw [ej4]; exact inb_lt hi3
          refine lv_aload_n hx hb de_K_firstEntry_35 rfl (lv_at hl 0 rfl) ?_
          refine kg_0 (v := .ref (aa 1 0)) hx hb ht hown hK hP (by decide) 0 (by decide) tw_1_171 rfl de_K_firstEntry_36 ?_
          refine lv_iload_n hx hb de_K_firstEntry_39 rfl (lv_at hl 1 rfl) ?_
          obtain ⟨hi5, h⟩ := gd_some h
          refine kl_1 hx hb hK hP (by decide) (inb_in hi5) de_K_firstEntry_40 (fun j6 ej6 => ?_)
          have h := lx_at h j6 ej6
          have hj6 : j6 < 12 := by rw [ej6]; exact inb_lt hi5
          obtain ⟨r7, hr7, h⟩ := bd_some h
          refine kq_i (va_runV (As := [.ref (aa 9 j6)]) (rest := []) S (c_P_isBefore l D aa q hJ σ j4 hj4 j6 hj6 r7 hr7) (cwV 1 ht (gv_in tw_2_72 tw_2_73 tw_2_74 tw_1_4 tc_P_isBefore) rfl rfl rfl bh_P_isBefore ⟨Nat.le_of_ble_eq_true rfl, Nat.le_of_ble_eq_true rfl⟩) (kpreV hK hP (kr_9 hK hP hj4)) rfl rfl hl.1 rfl (lv_room (Nat.le_of_ble_eq_true rfl)) de_K_firstEntry_41 ⟨Nat.zero_le _, Nat.zero_le _⟩) hS (fun H locs hP hS => ?_)
          refine lv_if_eq (tgt := 49) hx hb de_K_firstEntry_44 (by decide) (fun hc => ?_) (fun hc => ?_)
          · have h := ie_t h hc
            refine lv_iinc (k := 2) (v := x2 + 1) (lv' := [(2, .int (x2 + 1)), (0, .ref (aa 0 0)), (1, .int x1)]) hx hb de_K_firstEntry_49 hl rfl (ii_p1 _) (by decide) rfl (fun ls hl => ?_)
            refine lv_goto (tgt := 4) hx hb de_K_firstEntry_52 (by decide) ?_
            exact ih σ x1 (x2 + 1) ex _ _ _ (lv_sub hl [1, 2, 0] rfl) hP hS h k
          · have h := ie_f h hc
            refine lv_iload_n hx hb de_K_firstEntry_47 rfl (lv_at hl 2 rfl) ?_
            refine lv_istore_n (lv' := [(1, .int x2), (0, .ref (aa 0 0)), (2, .int x2)]) hx hb de_K_firstEntry_48 rfl hl (by decide) rfl (fun ls hl => ?_)
            refine lv_iinc (k := 2) (v := x2 + 1) (lv' := [(2, .int (x2 + 1)), (1, .int x2), (0, .ref (aa 0 0))]) hx hb de_K_firstEntry_49 hl rfl (ii_p1 _) (by decide) rfl (fun ls hl => ?_)
            refine lv_goto (tgt := 4) hx hb de_K_firstEntry_52 (by decide) ?_
            exact ih σ x2 (x2 + 1) ex _ _ _ (lv_sub hl [2, 1, 0] rfl) hP hS h k
set_option maxHeartbeats 4000000 in
set_option maxRecDepth 100000 in
theorem c_K_firstEntry (l : Launch) (D : va_G) (aa : Nat → Nat → Nat) (q : Nat → ClassId) (hJ : wJ kC aa) (σ : kS) (res : Int32) (h : F_K_firstEntry σ = some res) : Met l by_K_firstEntry (.code by_K_firstEntry bc_K_firstEntry 3 (some .int) :: lw_g) brm_K_firstEntry (va_Pc [.ref (aa 0 0)] (kPre D aa q σ)) (va_Qi (fun (r : Int32) (u : kS) => r = res ∧ u = σ) (kB D aa q) (wA kC aa)) 0 0 (wA kC aa) := by
  refine Met.ofW (cc := bc_K_firstEntry) (maxL := 3) (ret := (some .int)) (by decide) rfl ?_
  intro p e s m args below meth c s₁ B hml hv
  obtain ⟨rfl, hP, hK⟩ := hv
  have hx := B.exec
  have hb := B.bytes
  have hr := B.returns
  have ht : ∀ w ∈ lw_g, w.before ([.ref (aa 0 0)] : List Value).toArray s = true := fun w h => atoms_spec (ws := .code by_K_firstEntry bc_K_firstEntry 3 (some .int) :: lw_g) B.pre w (List.mem_cons_of_mem _ h)
  have hown : s.vm.findClass bR_K = some m.cls := findClass_of_methodNamed B.named
  have hlocks := B.notSynchronized
  have S : CallFix p m c bc_K_firstEntry 3 s ([.ref (aa 0 0)] : List Value).toArray lw_g bR_K := ⟨hx, hb, hml, hown, ht⟩
  have hS : va_S (wA kC aa) s.heap s.heap [] := va_S.rf
  have hl := lv_entry ([.ref (aa 0 0)]) (n := 3) (Nat.le_of_ble_eq_true rfl)
  rw [lg_entry_eq]
  generalize (lg_sl ([.ref (aa 0 0)]) ++ List.replicate (3 - (lg_sl ([.ref (aa 0 0)])).length) Slot.unset).toArray = ls at hl ⊢
  have hl : lv_has ls 3 [(0, .ref (aa 0 0))] := hl
  unfold F_K_firstEntry at h
  refine lv_iconst (v := (-1)) hx hb de_K_firstEntry_0 (by decide) ?_
  refine lv_istore_n (lv' := [(1, .int (-1)), (0, .ref (aa 0 0))]) hx hb de_K_firstEntry_1 rfl hl (by decide) rfl (fun ls hl => ?_)
  refine lv_iconst (v := 0) hx hb de_K_firstEntry_2 (by decide) ?_
  refine lv_istore_n (lv' := [(2, .int 0), (1, .int (-1)), (0, .ref (aa 0 0))]) hx hb de_K_firstEntry_3 rfl hl (by decide) rfl (fun ls hl => ?_)
  obtain ⟨ex1, hex1, h⟩ := bd_some h
  refine w_K_firstEntry_4 hJ S hlocks hK 1000 σ (-1) 0 ex1 _ _ _ (lv_sub hl [2, 1, 0] rfl) hP hS hex1 (fun H locs ls hl hP hS => ?_)
  refine lv_iload_n hx hb de_K_firstEntry_55 rfl (lv_at hl 1 rfl) ?_
  have h := Option.some.inj h
  subst h
  exact W.iret (v := ex1.1) hx hb hr (fun t ht hW => ⟨⟨_, _, rfl, ⟨rfl, rfl⟩, by rw [ht]; exact hP, va_K.moved hW.alike hK⟩, hS.F ht⟩) hS.2.2 de_K_firstEntry_56 hlocks
