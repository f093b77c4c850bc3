set_option maxHeartbeats 4000000 in
set_option maxRecDepth 100000 in
theorem c_K_isWithin (l : Launch) (D : va_G) (aa : Nat → Nat → Nat) (q : Nat → ClassId) (hJ : wJ kC aa) (σ : kS) (x0 : Int32) (x1 : Int32) (x2 : Int32) (res : Int32) (h : F_K_isWithin σ x0 x1 x2 = some res) : Met l by_K_isWithin (.code by_K_isWithin bc_K_isWithin 3 (some .boolean) :: lw_g) brm_K_isWithin (va_Pc [.int x0, .int x1, .int x2] (kPre D aa q σ)) (va_Qi (fun (r : Int32) (u : kS) => r = res ∧ u = σ) (kB D aa q) (wA kC aa)) 0 0 (wA kC aa) := by
  refine Met.ofW (cc := bc_K_isWithin) (maxL := 3) (ret := (some .boolean)) (by decide) rfl ?_
  intro p e s m args below meth c s₁ B hml hv
  obtain ⟨rfl, hP, hK⟩ := hv
  have hx := B.exec
  have hb := B.bytes
  have hr := B.returns
  have ht : ∀ w ∈ lw_g, w.before ([.int x0, .int x1, .int x2] : List Value).toArray s = true := fun w h => atoms_spec (ws := .code by_K_isWithin bc_K_isWithin 3 (some .boolean) :: lw_g) B.pre w (List.mem_cons_of_mem _ h)
  have hown : s.vm.findClass bR_K = some m.cls := findClass_of_methodNamed B.named
  have hlocks := B.notSynchronized
  have S : CallFix p m c bc_K_isWithin 3 s ([.int x0, .int x1, .int x2] : List Value).toArray lw_g bR_K := ⟨hx, hb, hml, hown, ht⟩
  have hS : va_S (wA kC aa) s.heap s.heap [] := va_S.rf
  have hl := lv_entry ([.int x0, .int x1, .int x2]) (n := 3) (Nat.le_of_ble_eq_true rfl)
  rw [lg_entry_eq]
  generalize (lg_sl ([.int x0, .int x1, .int x2]) ++ List.replicate (3 - (lg_sl ([.int x0, .int x1, .int x2])).length) Slot.unset).toArray = ls at hl ⊢
  have hl : lv_has ls 3 [(0, .int x0), (1, .int x1), (2, .int x2)] := hl
  unfold F_K_isWithin at h
  refine lv_iload_n hx hb de_K_isWithin_0 rfl (lv_at hl 0 rfl) ?_
  refine lv_iload_n hx hb de_K_isWithin_1 rfl (lv_at hl 1 rfl) ?_
  refine lv_icmp_lt (tgt := 14) hx hb de_K_isWithin_2 (by decide) (fun hc => ?_) (fun hc => ?_)
  · have h := ie_t h hc
    refine lv_iconst (v := 0) hx hb de_K_isWithin_14 (by decide) ?_
    have h := Option.some.inj h
    subst h
    exact W.zret (v := 0) hx hb hr rfl (fun t ht hW => ⟨⟨_, _, rfl, ⟨rfl, rfl⟩, by rw [ht]; exact hP, va_K.moved hW.alike hK⟩, hS.F ht⟩) hS.2.2 de_K_isWithin_15 hlocks
  · have h := ie_f h hc
    refine lv_iload_n hx hb de_K_isWithin_5 rfl (lv_at hl 0 rfl) ?_
    refine lv_iload_n hx hb de_K_isWithin_6 rfl (lv_at hl 2 rfl) ?_
    refine lv_icmp_gt (tgt := 14) hx hb de_K_isWithin_7 (by decide) (fun hc => ?_) (fun hc => ?_)
    · have h := ie_t h hc
      refine lv_iconst (v := 0) hx hb de_K_isWithin_14 (by decide) ?_
      have h := Option.some.inj h
      subst h
      exact W.zret (v := 0) hx hb hr rfl (fun t ht hW => ⟨⟨_, _, rfl, ⟨rfl, rfl⟩, by rw [ht]; exact hP, va_K.moved hW.alike hK⟩, hS.F ht⟩) hS.2.2 de_K_isWithin_15 hlocks
    · have h := ie_f h hc
      refine lv_iconst (v := 1) hx hb de_K_isWithin_10 (by decide) ?_
      refine lv_goto (tgt := 15) hx hb de_K_isWithin_11 (by decide) ?_
      have h := Option.some.inj h
      subst h
      exact W.zret (v := 1) hx hb hr rfl (fun t ht hW => ⟨⟨_, _, rfl, ⟨rfl, rfl⟩, by rw [ht]; exact hP, va_K.moved hW.alike hK⟩, hS.F ht⟩) hS.2.2 de_K_isWithin_15 hlocks
set_option maxHeartbeats 4000000 in
set_option maxRecDepth 100000 in
theorem c_K_process (l : Launch) (D : va_G) (aa : Nat → Nat → Nat) (q : Nat → ClassId) (hJ : wJ kC aa) (σ : kS) (x1 : Int32) (x2 : Int32) (x3 : Int32) (res : Int32 × kS) (h : F_K_process σ x1 x2 x3 = some res) : Met l by_K_process (.code by_K_process bc_K_process 5 (some .int) :: lw_g) brm_K_process (va_Pc [.ref (aa 0 0), .int x1, .int x2, .int x3] (kPre D aa q σ)) (va_Qi (fun (r : Int32) (u : kS) => r = res.1 ∧ u = res.2) (kB D aa q) (wA kC aa)) 0 0 (wA kC aa) := by
  refine Met.ofW (cc := bc_K_process) (maxL := 5) (ret := (some .int)) (by decide) rfl ?_
  intro p e s m args below meth c s₁ B hml hv
  obtain ⟨rfl, hP, hK⟩ := hv
  have hx := B.exec
  have hb := B.bytes
  have hr := B.returns
  have ht : ∀ w ∈ lw_g, w.before ([.ref (aa 0 0), .int x1, .int x2, .int x3] : List Value).toArray s = true := fun w h => atoms_spec (ws := .code by_K_process bc_K_process 5 (some .int) :: lw_g) B.pre w (List.mem_cons_of_mem _ h)
  have hown : s.vm.findClass bR_K = some m.cls := findClass_of_methodNamed B.named
  have hlocks := B.notSynchronized
  have S : CallFix p m c bc_K_process 5 s ([.ref (aa 0 0), .int x1, .int x2, .int x3] : List Value).toArray lw_g bR_K := ⟨hx, hb, hml, hown, ht⟩
  have hS : va_S (wA kC aa) s.heap s.heap [] := va_S.rf
  have hl := lv_entry ([.ref (aa 0 0), .int x1, .int x2, .int x3]) (n := 5) (Nat.le_of_ble_eq_true rfl)
  rw [lg_entry_eq]
  generalize (lg_sl ([.ref (aa 0 0), .int x1, .int x2, .int x3]) ++ List.replicate (5 - (lg_sl ([.ref (aa 0 0), .int x1, .int x2, .int x3])).length) Slot.unset).toArray = ls at hl ⊢
  have hl : lv_has ls 5 [(0, .ref (aa 0 0)), (1, .int x1), (2, .int x2), (3, .int x3)] := hl
  unfold F_K_process at h
  refine lv_aload_n hx hb de_K_process_0 rfl (lv_at hl 0 rfl) ?_
  refine kg_0 (v := .int (gI σ 0 0 0)) hx hb ht hown hK hP (by decide) 6 (by decide) tw_1_177 rfl de_K_process_1 ?_
  refine lv_bipush (v := 12) hx hb de_K_process_4 (by decide) ?_
  refine lv_icmp_ge (tgt := 39) hx hb de_K_process_6 (by decide) (fun hc => ?_) (fun hc => ?_)
  · have h := ie_t h hc
    refine lv_iconst (v := (-1)) hx hb de_K_process_39 (by decide) ?_
    have h := Option.some.inj h
    subst h
    exact W.iret (v := (-1)) hx hb hr (fun t ht hW => ⟨⟨_, _, rfl, ⟨rfl, rfl⟩, by rw [ht]; exact hP, va_K.moved hW.alike hK⟩, hS.F ht⟩) hS.2.2 de_K_process_40 hlocks
  · have h := ie_f h hc
    refine lv_iload_n hx hb de_K_process_9 rfl (lv_at hl 1 rfl) ?_
    refine lv_bipush (v := (-4)) hx hb de_K_process_10 (by decide) ?_
    refine lv_iconst (v := 4) hx hb de_K_process_12 (by decide) ?_
    obtain ⟨r1, hr1, h⟩ := bd_some h
    refine kq_i (va_runS (As := [.int x1, .int (-4), .int 4]) (rest := []) S (c_K_isWithin l D aa q hJ σ x1 (-4) 4 r1 hr1) (cwS 3 ht (gs_in tw_1_203 tw_1_204 tw_1_1 tc_K_isWithin) rfl rfl rfl bh_K_isWithin ⟨Nat.le_of_ble_eq_true rfl, Nat.le_of_ble_eq_true rfl⟩) (kpreS hK hP) rfl rfl hl.1 rfl (lv_room (Nat.le_of_ble_eq_true rfl)) de_K_process_13 ⟨Nat.zero_le _, Nat.zero_le _⟩) hS (fun H locs hP hS => ?_)
    refine lv_if_eq (tgt := 39) hx hb de_K_process_16 (by decide) (fun hc => ?_) (fun hc => ?_)
    · have h := ie_t h hc
      refine lv_iconst (v := (-1)) hx hb de_K_process_39 (by decide) ?_
      have h := Option.some.inj h
      subst h
      exact W.iret (v := (-1)) hx hb hr (fun t ht hW => ⟨⟨_, _, rfl, ⟨rfl, rfl⟩, by rw [ht]; exact hP, va_K.moved hW.alike hK⟩, hS.F ht⟩) hS.2.2 de_K_process_40 hlocks
    · have h := ie_f h hc
      refine lv_iload_n hx hb de_K_process_19 rfl (lv_at hl 2 rfl) ?_
      refine lv_iconst (v := 1) hx hb de_K_process_20 (by decide) ?_
      refine lv_bipush (v := 9) hx hb de_K_process_21 (by decide) ?_
      obtain ⟨r2, hr2, h⟩ := bd_some h
      refine kq_i (va_runS (As := [.int x2, .int 1, .int 9]) (rest := []) S (c_K_isWithin l D aa q hJ σ x2 1 9 r2 hr2) (cwS 3 ht (gs_in tw_1_203 tw_1_204 tw_1_1 tc_K_isWithin) rfl rfl rfl bh_K_isWithin ⟨Nat.le_of_ble_eq_true rfl, Nat.le_of_ble_eq_true rfl⟩) (kpreS hK hP) rfl rfl hl.1 rfl (lv_room (Nat.le_of_ble_eq_true rfl)) de_K_process_23 ⟨Nat.zero_le _, Nat.zero_le _⟩) hS (fun H locs hP hS => ?_)
      refine lv_if_eq (tgt := 39) hx hb de_K_process_26 (by decide) (fun hc => ?_) (fun hc => ?_)
      · have h := ie_t h hc
        refine lv_iconst (v := (-1)) hx hb de_K_process_39 (by decide) ?_
        have h := Option.some.inj h
        subst h
        exact W.iret (v := (-1)) hx hb hr (fun t ht hW => ⟨⟨_, _, rfl, ⟨rfl, rfl⟩, by rw [ht]; exact hP, va_K.moved hW.alike hK⟩, hS.F ht⟩) hS.2.2 de_K_process_40 hlocks
      · have h := ie_f h hc
        refine lv_iload_n hx hb de_K_process_29 rfl (lv_at hl 3 rfl) ?_
        refine lv_iconst (v := 0) hx hb de_K_process_30 (by decide) ?_
        refine lv_bipush (v := 10) hx hb de_K_process_31 (by decide) ?_
        obtain ⟨r3, hr3, h⟩ := bd_some h
        refine kq_i (va_runS (As := [.int x3, .int 0, .int 10]) (rest := []) S (c_K_isWithin l D aa q hJ σ x3 0 10 r3 hr3) (cwS 3 ht (gs_in tw_1_203 tw_1_204 tw_1_1 tc_K_isWithin) rfl rfl rfl bh_K_isWithin ⟨Nat.le_of_ble_eq_true rfl, Nat.le_of_ble_eq_true rfl⟩) (kpreS hK hP) rfl rfl hl.1 rfl (lv_room (Nat.le_of_ble_eq_true rfl)) de_K_process_33 ⟨Nat.zero_le _, Nat.zero_le _⟩) hS (fun H locs hP hS => ?_)
        refine lv_if_ne (tgt := 41) hx hb de_K_process_36 (by decide) (fun hc => ?_) (fun hc => ?_)
        · have h := ie_f h hc
          refine lv_aload_n hx hb de_K_process_41 rfl (lv_at hl 0 rfl) ?_
          refine kg_0 (v := .ref (aa 1 0)) hx hb ht hown hK hP (by decide) 0 (by decide) tw_1_171 rfl de_K_process_42 ?_
          refine lv_aload_n hx hb de_K_process_45 rfl (lv_at hl 0 rfl) ?_
          refine kg_0 (v := .int (gI σ 0 0 0)) hx hb ht hown hK hP (by decide) 6 (by decide) tw_1_177 rfl de_K_process_46 ?_
          obtain ⟨hi4, h⟩ := gd_some h
          refine kl_1 hx hb hK hP (by decide) (inb_in hi4) de_K_process_49 (fun j5 ej5 => ?_)
          have h := lx_at h j5 ej5
          have hj5 : j5 < 12 := by rw [ej5]; exact inb_lt hi4
          refine lv_astore (lv' := [(4, .ref (aa 9 j5)), (0, .ref (aa 0 0)), (1, .int x1), (2, .int x2), (3, .int x3)]) hx hb de_K_process_50 hl (by decide) rfl (fun ls hl => ?_)
          refine lv_aload hx hb de_K_process_52 (lv_at hl 0 rfl) ?_
          refine lv_iload_n hx hb de_K_process_54 rfl (lv_at hl 2 rfl) ?_
          refine kp_9_priority hx hb ht hown hK hP hJ hS hj5 tw_1_73 de_K_process_55 (fun H locs hP hS => ?_)
          obtain ⟨σ6, eσ6, h⟩ := lx_ex h
          rw [← eσ6] at hP
          refine lv_aload hx hb de_K_process_58 (lv_at hl 0 rfl) ?_
          refine lv_iload_n hx hb de_K_process_60 rfl (lv_at hl 3 rfl) ?_
          refine kp_9_roundsLeft hx hb ht hown hK hP hJ hS hj5 tw_1_75 de_K_process_61 (fun H locs hP hS => ?_)
          obtain ⟨σ7, eσ7, h⟩ := lx_ex h
          rw [← eσ7] at hP
          refine lv_aload hx hb de_K_process_64 (lv_at hl 0 rfl) ?_
          refine lv_iload_n hx hb de_K_process_66 rfl (lv_at hl 4 rfl) ?_
          refine kp_9_handler hx hb ht hown hK hP hJ hS hj5 tw_1_77 de_K_process_67 (fun H locs hP hS => ?_)
          obtain ⟨σ8, eσ8, h⟩ := lx_ex h
          rw [← eσ8] at hP
          refine lv_aload_n hx hb de_K_process_70 rfl (lv_at hl 1 rfl) ?_
          refine lv_dup hx hb de_K_process_71 rfl ?_
          refine kg_0 (v := .int (gI σ8 0 0 0)) hx hb ht hown hK hP (by decide) 6 (by decide) tw_1_177 rfl de_K_process_72 ?_
          refine lv_iconst (v := 1) hx hb de_K_process_75 (by decide) ?_
          refine lv_iadd hx hb de_K_process_76 ?_
          refine kp_0_made hx hb ht hown hK hP hJ hS (by decide) tw_1_177 de_K_process_77 (fun H locs hP hS => ?_)
          obtain ⟨σ9, eσ9, h⟩ := lx_ex h
          rw [← eσ9] at hP
          refine lv_aload hx hb de_K_process_80 (lv_at hl 0 rfl) ?_
          refine kg_9 (v := .int (gI σ9 2 j5 0)) hx hb ht hown hK hP hj5 0 (by decide) tw_1_61 rfl de_K_process_82 ?_
          have h := Option.some.inj h
          subst h
          exact W.iret (v := gI σ9 2 j5 0) hx hb hr (fun t ht hW => ⟨⟨_, _, rfl, ⟨rfl, rfl⟩, by rw [ht]; exact hP, va_K.moved hW.alike hK⟩, hS.F ht⟩) hS.2.2 de_K_process_85 hlocks
        · have h := ie_t h hc
          refine lv_iconst (v := (-1)) hx hb de_K_process_39 (by decide) ?_
          have h := Option.some.inj h
          subst h
          exact W.iret (v := (-1)) hx hb hr (fun t ht hW => ⟨⟨_, _, rfl, ⟨rfl, rfl⟩, by rw [ht]; exact hP, va_K.moved hW.alike hK⟩, hS.F ht⟩) hS.2.2 de_K_process_40 hlocks
set_option maxHeartbeats 4000000 in
set_option maxRecDepth 100000 in
theorem c_K_isProcess (l : Launch) (D : va_G) (aa : Nat → Nat → Nat) (q : Nat → ClassId) (hJ : wJ kC aa) (σ : kS) (x1 : Int32) (res : Int32) (h : F_K_isProcess σ x1 = some res) : Met l by_K_isProcess (.code by_K_isProcess bc_K_isProcess 2 (some .boolean) :: lw_g) brm_K_isProcess (va_Pc [.ref (aa 0 0), .int x1] (kPre D aa q σ)) (va_Qi (fun (r : Int32) (u : kS) => r = res ∧ u = σ) (kB D aa q) (wA kC aa)) 0 0 (wA kC aa) := by
  refine Met.ofW (cc := bc_K_isProcess) (maxL := 2) (ret := (some .boolean)) (by decide) rfl ?_
  intro p e s m args below meth c s₁ B hml hv
  obtain ⟨rfl, hP, hK⟩ := hv
  have hx := B.exec
  have hb := B.bytes
  have hr := B.returns
  have ht : ∀ w ∈ lw_g, w.before ([.ref (aa 0 0), .int x1] : List Value).toArray s = true := fun w h => atoms_spec (ws := .code by_K_isProcess bc_K_isProcess 2 (some .boolean) :: lw_g) B.pre w (List.mem_cons_of_mem _ h)
  have hown : s.vm.findClass bR_K = some m.cls := findClass_of_methodNamed B.named
  have hlocks := B.notSynchronized
  have S : CallFix p m c bc_K_isProcess 2 s ([.ref (aa 0 0), .int x1] : List Value).toArray lw_g bR_K := ⟨hx, hb, hml, hown, ht⟩
  have hS : va_S (wA kC aa) s.heap s.heap [] := va_S.rf
  have hl := lv_entry ([.ref (aa 0 0), .int x1]) (n := 2) (Nat.le_of_ble_eq_true rfl)
  rw [lg_entry_eq]
  generalize (lg_sl ([.ref (aa 0 0), .int x1]) ++ List.replicate (2 - (lg_sl ([.ref (aa 0 0), .int x1])).length) Slot.unset).toArray = ls at hl ⊢
  have hl : lv_has ls 2 [(0, .ref (aa 0 0)), (1, .int x1)] := hl
  unfold F_K_isProcess at h
  refine lv_iload_n hx hb de_K_isProcess_0 rfl (lv_at hl 1 rfl) ?_
  refine lv_if_lt (tgt := 16) hx hb de_K_isProcess_1 (by decide) (fun hc => ?_) (fun hc => ?_)
  · have h := ie_t h hc
    refine lv_iconst (v := 0) hx hb de_K_isProcess_16 (by decide) ?_
    have h := Option.some.inj h
    subst h
    exact W.zret (v := 0) hx hb hr rfl (fun t ht hW => ⟨⟨_, _, rfl, ⟨rfl, rfl⟩, by rw [ht]; exact hP, va_K.moved hW.alike hK⟩, hS.F ht⟩) hS.2.2 de_K_isProcess_17 hlocks
  · have h := ie_f h hc
    refine lv_iload_n hx hb de_K_isProcess_4 rfl (lv_at hl 1 rfl) ?_
    refine lv_aload_n hx hb de_K_isProcess_5 rfl (lv_at hl 0 rfl) ?_
    refine kg_0 (v := .int (gI σ 0 0 0)) hx hb ht hown hK hP (by decide) 6 (by decide) tw_1_177 rfl de_K_isProcess_6 ?_
    refine lv_icmp_ge (tgt := 16) hx hb de_K_isProcess_9 (by decide) (fun hc => ?_) (fun hc => ?_)
    · have h := ie_t h hc
      refine lv_iconst (v := 0) hx hb de_K_isProcess_16 (by decide) ?_
      have h := Option.some.inj h
      subst h
      exact W.zret (v := 0) hx hb hr rfl (fun t ht hW => ⟨⟨_, _, rfl, ⟨rfl, rfl⟩, by rw [ht]; exact hP, va_K.moved hW.alike hK⟩, hS.F ht⟩) hS.2.2 de_K_isProcess_17 hlocks
    · have h := ie_f h hc
      refine lv_iconst (v := 1) hx hb de_K_isProcess_12 (by decide) ?_
      refine lv_goto (tgt := 17) hx hb de_K_isProcess_13 (by decide) ?_
      have h := Option.some.inj h
      subst h
      exact W.zret (v := 1) hx hb hr rfl (fun t ht hW => ⟨⟨_, _, rfl, ⟨rfl, rfl⟩, by rw [ht]; exact hP, va_K.moved hW.alike hK⟩, hS.F ht⟩) hS.2.2 de_K_isProcess_17 hlocks
set_option maxHeartbeats 4000000 in
set_option maxRecDepth 100000 in
theorem c_K_isResource (l : Launch) (D : va_G) (aa : Nat → Nat → Nat) (q : Nat → ClassId) (hJ : wJ kC aa) (σ : kS) (x0 : Int32) (res : Int32) (h : F_K_isResource σ x0 = some res) : Met l by_K_isResource (.code by_K_isResource bc_K_isResource 1 (some .boolean) :: lw_g) brm_K_isResource (va_Pc [.int x0] (kPre D aa q σ)) (va_Qi (fun (r : Int32) (u : kS) => r = res ∧ u = σ) (kB D aa q) (wA kC aa)) 0 0 (wA kC aa) := by
  refine Met.ofW (cc := bc_K_isResource) (maxL := 1) (ret := (some .boolean)) (by decide) rfl ?_
  intro p e s m args below meth c s₁ B hml hv
  obtain ⟨rfl, hP, hK⟩ := hv
  have hx := B.exec
  have hb := B.bytes
  have hr := B.returns
  have ht : ∀ w ∈ lw_g, w.before ([.int x0] : List Value).toArray s = true := fun w h => atoms_spec (ws := .code by_K_isResource bc_K_isResource 1 (some .boolean) :: lw_g) B.pre w (List.mem_cons_of_mem _ h)
  have hown : s.vm.findClass bR_K = some m.cls := findClass_of_methodNamed B.named
  have hlocks := B.notSynchronized
  have S : CallFix p m c bc_K_isResource 1 s ([.int x0] : List Value).toArray lw_g bR_K := ⟨hx, hb, hml, hown, ht⟩
  have hS : va_S (wA kC aa) s.heap s.heap [] := va_S.rf
  have hl := lv_entry ([.int x0]) (n := 1) (Nat.le_of_ble_eq_true rfl)
  rw [lg_entry_eq]
  generalize (lg_sl ([.int x0]) ++ List.replicate (1 - (lg_sl ([.int x0])).length) Slot.unset).toArray = ls at hl ⊢
  have hl : lv_has ls 1 [(0, .int x0)] := hl
  unfold F_K_isResource at h
  refine lv_iload_n hx hb de_K_isResource_0 rfl (lv_at hl 0 rfl) ?_
  refine lv_iconst (v := 0) hx hb de_K_isResource_1 (by decide) ?_
  refine lv_iconst (v := 3) hx hb de_K_isResource_2 (by decide) ?_
  obtain ⟨r1, hr1, h⟩ := bd_some h
  refine kq_i (va_runS (As := [.int x0, .int 0, .int 3]) (rest := []) S (c_K_isWithin l D aa q hJ σ x0 0 3 r1 hr1) (cwS 3 ht (gs_in tw_1_203 tw_1_204 tw_1_1 tc_K_isWithin) rfl rfl rfl bh_K_isWithin ⟨Nat.le_of_ble_eq_true rfl, Nat.le_of_ble_eq_true rfl⟩) (kpreS hK hP) rfl rfl hl.1 rfl (lv_room (Nat.le_of_ble_eq_true rfl)) de_K_isResource_3 ⟨Nat.zero_le _, Nat.zero_le _⟩) hS (fun H locs hP hS => ?_)
  obtain ⟨hi2, h⟩ := gd_some h
  have h := Option.some.inj h
  subst h
  exact W.zret (v := r1) hx hb hr (bz_nar hi2) (fun t ht hW => ⟨⟨_, _, rfl, ⟨rfl, rfl⟩, by rw [ht]; exact hP, va_K.moved hW.alike hK⟩, hS.F ht⟩) hS.2.2 de_K_isResource_6 hlocks
set_option maxHeartbeats 4000000 in
set_option maxRecDepth 100000 in
theorem c_K_isTank (l : Launch) (D : va_G) (aa : Nat → Nat → Nat) (q : Nat → ClassId) (hJ : wJ kC aa) (σ : kS) (x0 : Int32) (res : Int32) (h : F_K_isTank σ x0 = some res) : Met l by_K_isTank (.code by_K_isTank bc_K_isTank 1 (some .boolean) :: lw_g) brm_K_isTank (va_Pc [.int x0] (kPre D aa q σ)) (va_Qi (fun (r : Int32) (u : kS) => r = res ∧ u = σ) (kB D aa q) (wA kC aa)) 0 0 (wA kC aa) := by
  refine Met.ofW (cc := bc_K_isTank) (maxL := 1) (ret := (some .boolean)) (by decide) rfl ?_
  intro p e s m args below meth c s₁ B hml hv
  obtain ⟨rfl, hP, hK⟩ := hv
  have hx := B.exec
  have hb := B.bytes
  have hr := B.returns
  have ht : ∀ w ∈ lw_g, w.before ([.int x0] : List Value).toArray s = true := fun w h => atoms_spec (ws := .code by_K_isTank bc_K_isTank 1 (some .boolean) :: lw_g) B.pre w (List.mem_cons_of_mem _ h)
  have hown : s.vm.findClass bR_K = some m.cls := findClass_of_methodNamed B.named
  have hlocks := B.notSynchronized
  have S : CallFix p m c bc_K_isTank 1 s ([.int x0] : List Value).toArray lw_g bR_K := ⟨hx, hb, hml, hown, ht⟩
  have hS : va_S (wA kC aa) s.heap s.heap [] := va_S.rf
  have hl := lv_entry ([.int x0]) (n := 1) (Nat.le_of_ble_eq_true rfl)
  rw [lg_entry_eq]
  generalize (lg_sl ([.int x0]) ++ List.replicate (1 - (lg_sl ([.int x0])).length) Slot.unset).toArray = ls at hl ⊢
  have hl : lv_has ls 1 [(0, .int x0)] := hl
  unfold F_K_isTank at h
  refine lv_iload_n hx hb de_K_isTank_0 rfl (lv_at hl 0 rfl) ?_
  refine lv_iconst (v := 0) hx hb de_K_isTank_1 (by decide) ?_
  refine lv_iconst (v := 3) hx hb de_K_isTank_2 (by decide) ?_
  obtain ⟨r1, hr1, h⟩ := bd_some h
  refine kq_i (va_runS (As := [.int x0, .int 0, .int 3]) (rest := []) S (c_K_isWithin l D aa q hJ σ x0 0 3 r1 hr1) (cwS 3 ht (gs_in tw_1_203 tw_1_204 tw_1_1 tc_K_isWithin) rfl rfl rfl bh_K_isWithin ⟨Nat.le_of_ble_eq_true rfl, Nat.le_of_ble_eq_true rfl⟩) (kpreS hK hP) rfl rfl hl.1 rfl (lv_room (Nat.le_of_ble_eq_true rfl)) de_K_isTank_3 ⟨Nat.zero_le _, Nat.zero_le _⟩) hS (fun H locs hP hS => ?_)
  obtain ⟨hi2, h⟩ := gd_some h
  have h := Option.some.inj h
  subst h
  exact W.zret (v := r1) hx hb hr (bz_nar hi2) (fun t ht hW => ⟨⟨_, _, rfl, ⟨rfl, rfl⟩, by rw [ht]; exact hP, va_K.moved hW.alike hK⟩, hS.F ht⟩) hS.2.2 de_K_isTank_6 hlocks
set_option maxHeartbeats 4000000 in
set_option maxRecDepth 100000 in
theorem c_K_isInstruction (l : Launch) (D : va_G) (aa : Nat → Nat → Nat) (q : Nat → ClassId) (hJ : wJ kC aa) (σ : kS) (x0 : Int32) (x1 : Int32) (x2 : Int32) (res : Int32) (h : F_K_isInstruction σ x0 x1 x2 = some res) : Met l by_K_isInstruction (.code by_K_isInstruction bc_K_isInstruction 3 (some .boolean) :: lw_g) brm_K_isInstruction (va_Pc [.int x0, .int x1, .int x2] (kPre D aa q σ)) (va_Qi (fun (r : Int32) (u : kS) => r = res ∧ u = σ) (kB D aa q) (wA kC aa)) 0 0 (wA kC aa) := by
  refine Met.ofW (cc := bc_K_isInstruction) (maxL := 3) (ret := (some .boolean)) (by decide) rfl ?_
  intro p e s m args below meth c s₁ B hml hv
  obtain ⟨rfl, hP, hK⟩ := hv
  have hx := B.exec
  have hb := B.bytes
  have hr := B.returns
  have ht : ∀ w ∈ lw_g, w.before ([.int x0, .int x1, .int x2] : List Value).toArray s = true := fun w h => atoms_spec (ws := .code by_K_isInstruction bc_K_isInstruction 3 (some .boolean) :: lw_g) B.pre w (List.mem_cons_of_mem _ h)
  have hown : s.vm.findClass bR_K = some m.cls := findClass_of_methodNamed B.named
  have hlocks := B.notSynchronized
  have S : CallFix p m c bc_K_isInstruction 3 s ([.int x0, .int x1, .int x2] : List Value).toArray lw_g bR_K := ⟨hx, hb, hml, hown, ht⟩
  have hS : va_S (wA kC aa) s.heap s.heap [] := va_S.rf
  have hl := lv_entry ([.int x0, .int x1, .int x2]) (n := 3) (Nat.le_of_ble_eq_true rfl)
  rw [lg_entry_eq]
  generalize (lg_sl ([.int x0, .int x1, .int x2]) ++ List.replicate (3 - (lg_sl ([.int x0, .int x1, .int x2])).length) Slot.unset).toArray = ls at hl ⊢
  have hl : lv_has ls 3 [(0, .int x0), (1, .int x1), (2, .int x2)] := hl
  unfold F_K_isInstruction at h
  refine lv_iload_n hx hb de_K_isInstruction_0 rfl (lv_at hl 0 rfl) ?_
  by_cases hk1_0 : x0 = 0
  · have h := ie_t h hk1_0
    refine lv_tableIn (off := 55) (tgt := 56) hx hb de_K_isInstruction_1 (by rw [hk1_0]; decide) (by rw [hk1_0]; decide) (by rw [hk1_0]; rfl) (by decide) ?_
    refine lv_iload_n hx hb de_K_isInstruction_56 rfl (lv_at hl 1 rfl) ?_
    refine lv_iconst (v := 0) hx hb de_K_isInstruction_57 (by decide) ?_
    refine lv_ldc (v := 1000000) hx hb hown (ht _ tw_1_217) de_K_isInstruction_58 ?_
    obtain ⟨r1, hr1, h⟩ := bd_some h
    refine kq_i (va_runS (As := [.int x1, .int 0, .int 1000000]) (rest := []) S (c_K_isWithin l D aa q hJ σ x1 0 1000000 r1 hr1) (cwS 3 ht (gs_in tw_1_203 tw_1_204 tw_1_1 tc_K_isWithin) rfl rfl rfl bh_K_isWithin ⟨Nat.le_of_ble_eq_true rfl, Nat.le_of_ble_eq_true rfl⟩) (kpreS hK hP) rfl rfl hl.1 rfl (lv_room (Nat.le_of_ble_eq_true rfl)) de_K_isInstruction_60 ⟨Nat.zero_le _, Nat.zero_le _⟩) hS (fun H locs hP hS => ?_)
    obtain ⟨hi2, h⟩ := gd_some h
    have h := Option.some.inj h
    subst h
    exact W.zret (v := r1) hx hb hr (bz_nar hi2) (fun t ht hW => ⟨⟨_, _, rfl, ⟨rfl, rfl⟩, by rw [ht]; exact hP, va_K.moved hW.alike hK⟩, hS.F ht⟩) hS.2.2 de_K_isInstruction_63 hlocks
  have h := ie_f h hk1_0
  by_cases hk1_1 : x0 = 1
  · have h := ie_t h hk1_1
    refine lv_tableIn (off := 63) (tgt := 64) hx hb de_K_isInstruction_1 (by rw [hk1_1]; decide) (by rw [hk1_1]; decide) (by rw [hk1_1]; rfl) (by decide) ?_
    refine lv_iconst (v := 1) hx hb de_K_isInstruction_64 (by decide) ?_
    have h := Option.some.inj h
    subst h
    exact W.zret (v := 1) hx hb hr rfl (fun t ht hW => ⟨⟨_, _, rfl, ⟨rfl, rfl⟩, by rw [ht]; exact hP, va_K.moved hW.alike hK⟩, hS.F ht⟩) hS.2.2 de_K_isInstruction_65 hlocks
  have h := ie_f h hk1_1
  by_cases hk1_2 : x0 = 2
  · have h := ie_t h hk1_2
    refine lv_tableIn (off := 65) (tgt := 66) hx hb de_K_isInstruction_1 (by rw [hk1_2]; decide) (by rw [hk1_2]; decide) (by rw [hk1_2]; rfl) (by decide) ?_
    refine lv_iload_n hx hb de_K_isInstruction_66 rfl (lv_at hl 1 rfl) ?_
    obtain ⟨r3, hr3, h⟩ := bd_some h
    refine kq_i (va_runS (As := [.int x1]) (rest := []) S (c_K_isResource l D aa q hJ σ x1 r3 hr3) (cwS 1 ht (gs_in tw_1_218 tw_1_219 tw_1_1 tc_K_isResource) rfl rfl rfl bh_K_isResource ⟨Nat.le_of_ble_eq_true rfl, Nat.le_of_ble_eq_true rfl⟩) (kpreS hK hP) rfl rfl hl.1 rfl (lv_room (Nat.le_of_ble_eq_true rfl)) de_K_isInstruction_67 ⟨Nat.zero_le _, Nat.zero_le _⟩) hS (fun H locs hP hS => ?_)
    refine lv_if_eq (tgt := 87) hx hb de_K_isInstruction_70 (by decide) (fun hc => ?_) (fun hc => ?_)
    · have h := ie_t h hc
      refine lv_iconst (v := 0) hx hb de_K_isInstruction_87 (by decide) ?_
      have h := Option.some.inj h
      subst h
      exact W.zret (v := 0) hx hb hr rfl (fun t ht hW => ⟨⟨_, _, rfl, ⟨rfl, rfl⟩, by rw [ht]; exact hP, va_K.moved hW.alike hK⟩, hS.F ht⟩) hS.2.2 de_K_isInstruction_88 hlocks
    · have h := ie_f h hc
      refine lv_iload_n hx hb de_K_isInstruction_73 rfl (lv_at hl 2 rfl) ?_
      refine lv_iconst (v := 1) hx hb de_K_isInstruction_74 (by decide) ?_
      refine lv_bipush (v := 9) hx hb de_K_isInstruction_75 (by decide) ?_
      obtain ⟨r4, hr4, h⟩ := bd_some h
      refine kq_i (va_runS (As := [.int x2, .int 1, .int 9]) (rest := []) S (c_K_isWithin l D aa q hJ σ x2 1 9 r4 hr4) (cwS 3 ht (gs_in tw_1_203 tw_1_204 tw_1_1 tc_K_isWithin) rfl rfl rfl bh_K_isWithin ⟨Nat.le_of_ble_eq_true rfl, Nat.le_of_ble_eq_true rfl⟩) (kpreS hK hP) rfl rfl hl.1 rfl (lv_room (Nat.le_of_ble_eq_true rfl)) de_K_isInstruction_77 ⟨Nat.zero_le _, Nat.zero_le _⟩) hS (fun H locs hP hS => ?_)
      refine lv_if_eq (tgt := 87) hx hb de_K_isInstruction_80 (by decide) (fun hc => ?_) (fun hc => ?_)
      · have h := ie_t h hc
        refine lv_iconst (v := 0) hx hb de_K_isInstruction_87 (by decide) ?_
        have h := Option.some.inj h
        subst h
        exact W.zret (v := 0) hx hb hr rfl (fun t ht hW => ⟨⟨_, _, rfl, ⟨rfl, rfl⟩, by rw [ht]; exact hP, va_K.moved hW.alike hK⟩, hS.F ht⟩) hS.2.2 de_K_isInstruction_88 hlocks
      · have h := ie_f h hc
        refine lv_iconst (v := 1) hx hb de_K_isInstruction_83 (by decide) ?_
        refine lv_goto (tgt := 88) hx hb de_K_isInstruction_84 (by decide) ?_
        have h := Option.some.inj h
        subst h
        exact W.zret (v := 1) hx hb hr rfl (fun t ht hW => ⟨⟨_, _, rfl, ⟨rfl, rfl⟩, by rw [ht]; exact hP, va_K.moved hW.alike hK⟩, hS.F ht⟩) hS.2.2 de_K_isInstruction_88 hlocks
  have h := ie_f h hk1_2
  by_cases hk1_3 : x0 = 3
  · have h := ie_t h hk1_3
    refine lv_tableIn (off := 65) (tgt := 66) hx hb de_K_isInstruction_1 (by rw [hk1_3]; decide) (by rw [hk1_3]; decide) (by rw [hk1_3]; rfl) (by decide) ?_
    refine lv_iload_n hx hb de_K_isInstruction_66 rfl (lv_at hl 1 rfl) ?_
    obtain ⟨r5, hr5, h⟩ := bd_some h
    refine kq_i (va_runS (As := [.int x1]) (rest := []) S (c_K_isResource l D aa q hJ σ x1 r5 hr5) (cwS 1 ht (gs_in tw_1_218 tw_1_219 tw_1_1 tc_K_isResource) rfl rfl rfl bh_K_isResource ⟨Nat.le_of_ble_eq_true rfl, Nat.le_of_ble_eq_true rfl⟩) (kpreS hK hP) rfl rfl hl.1 rfl (lv_room (Nat.le_of_ble_eq_true rfl)) de_K_isInstruction_67 ⟨Nat.zero_le _, Nat.zero_le _⟩) hS (fun H locs hP hS => ?_)
    refine lv_if_eq (tgt := 87) hx hb de_K_isInstruction_70 (by decide) (fun hc => ?_) (fun hc => ?_)
    · have h := ie_t h hc
      refine lv_iconst (v := 0) hx hb de_K_isInstruction_87 (by decide) ?_
      have h := Option.some.inj h
      subst h
      exact W.zret (v := 0) hx hb hr rfl (fun t ht hW => ⟨⟨_, _, rfl, ⟨rfl, rfl⟩, by rw [ht]; exact hP, va_K.moved hW.alike hK⟩, hS.F ht⟩) hS.2.2 de_K_isInstruction_88 hlocks
    · have h := ie_f h hc
      refine lv_iload_n hx hb de_K_isInstruction_73 rfl (lv_at hl 2 rfl) ?_
      refine lv_iconst (v := 1) hx hb de_K_isInstruction_74 (by decide) ?_
      refine lv_bipush (v := 9) hx hb de_K_isInstruction_75 (by decide) ?_
      obtain ⟨r6, hr6, h⟩ := bd_some h
      refine kq_i (va_runS (As := [.int x2, .int 1, .int 9]) (rest := []) S (c_K_isWithin l D aa q hJ σ x2 1 9 r6 hr6) (cwS 3 ht (gs_in tw_1_203 tw_1_204 tw_1_1 tc_K_isWithin) rfl rfl rfl bh_K_isWithin ⟨Nat.le_of_ble_eq_true rfl, Nat.le_of_ble_eq_true rfl⟩) (kpreS hK hP) rfl rfl hl.1 rfl (lv_room (Nat.le_of_ble_eq_true rfl)) de_K_isInstruction_77 ⟨Nat.zero_le _, Nat.zero_le _⟩) hS (fun H locs hP hS => ?_)
      refine lv_if_eq (tgt := 87) hx hb de_K_isInstruction_80 (by decide) (fun hc => ?_) (fun hc => ?_)
      · have h := ie_t h hc
        refine lv_iconst (v := 0) hx hb de_K_isInstruction_87 (by decide) ?_
        have h := Option.some.inj h
        subst h
        exact W.zret (v := 0) hx hb hr rfl (fun t ht hW => ⟨⟨_, _, rfl, ⟨rfl, rfl⟩, by rw [ht]; exact hP, va_K.moved hW.alike hK⟩, hS.F ht⟩) hS.2.2 de_K_isInstruction_88 hlocks
      · have h := ie_f h hc
        refine lv_iconst (v := 1) hx hb de_K_isInstruction_83 (by decide) ?_
        refine lv_goto (tgt := 88) hx hb de_K_isInstruction_84 (by decide) ?_
        have h := Option.some.inj h
        subst h
        exact W.zret (v := 1) hx hb hr rfl (fun t ht hW => ⟨⟨_, _, rfl, ⟨rfl, rfl⟩, by rw [ht]; exact hP, va_K.moved hW.alike hK⟩, hS.F ht⟩) hS.2.2 de_K_isInstruction_88 hlocks
  have h := ie_f h hk1_3
  by_cases hk1_4 : x0 = 4
  · have h := ie_t h hk1_4
    refine lv_tableIn (off := 88) (tgt := 89) hx hb de_K_isInstruction_1 (by rw [hk1_4]; decide) (by rw [hk1_4]; decide) (by rw [hk1_4]; rfl) (by decide) ?_
    refine lv_iload_n hx hb de_K_isInstruction_89 rfl (lv_at hl 1 rfl) ?_
    obtain ⟨r7, hr7, h⟩ := bd_some h
    refine kq_i (va_runS (As := [.int x1]) (rest := []) S (c_K_isTank l D aa q hJ σ x1 r7 hr7) (cwS 1 ht (gs_in tw_1_221 tw_1_222 tw_1_1 tc_K_isTank) rfl rfl rfl bh_K_isTank ⟨Nat.le_of_ble_eq_true rfl, Nat.le_of_ble_eq_true rfl⟩) (kpreS hK hP) rfl rfl hl.1 rfl (lv_room (Nat.le_of_ble_eq_true rfl)) de_K_isInstruction_90 ⟨Nat.zero_le _, Nat.zero_le _⟩) hS (fun H locs hP hS => ?_)
    refine lv_if_eq (tgt := 111) hx hb de_K_isInstruction_93 (by decide) (fun hc => ?_) (fun hc => ?_)
    · have h := ie_t h hc
      refine lv_iconst (v := 0) hx hb de_K_isInstruction_111 (by decide) ?_
      have h := Option.some.inj h
      subst h
      exact W.zret (v := 0) hx hb hr rfl (fun t ht hW => ⟨⟨_, _, rfl, ⟨rfl, rfl⟩, by rw [ht]; exact hP, va_K.moved hW.alike hK⟩, hS.F ht⟩) hS.2.2 de_K_isInstruction_112 hlocks
    · have h := ie_f h hc
      refine lv_iload_n hx hb de_K_isInstruction_96 rfl (lv_at hl 2 rfl) ?_
      refine lv_iconst (v := 1) hx hb de_K_isInstruction_97 (by decide) ?_
      refine lv_sipush (v := 1000) hx hb de_K_isInstruction_98 (by decide) ?_
      obtain ⟨r8, hr8, h⟩ := bd_some h
      refine kq_i (va_runS (As := [.int x2, .int 1, .int 1000]) (rest := []) S (c_K_isWithin l D aa q hJ σ x2 1 1000 r8 hr8) (cwS 3 ht (gs_in tw_1_203 tw_1_204 tw_1_1 tc_K_isWithin) rfl rfl rfl bh_K_isWithin ⟨Nat.le_of_ble_eq_true rfl, Nat.le_of_ble_eq_true rfl⟩) (kpreS hK hP) rfl rfl hl.1 rfl (lv_room (Nat.le_of_ble_eq_true rfl)) de_K_isInstruction_101 ⟨Nat.zero_le _, Nat.zero_le _⟩) hS (fun H locs hP hS => ?_)
      refine lv_if_eq (tgt := 111) hx hb de_K_isInstruction_104 (by decide) (fun hc => ?_) (fun hc => ?_)
      · have h := ie_t h hc
        refine lv_iconst (v := 0) hx hb de_K_isInstruction_111 (by decide) ?_
        have h := Option.some.inj h
        subst h
        exact W.zret (v := 0) hx hb hr rfl (fun t ht hW => ⟨⟨_, _, rfl, ⟨rfl, rfl⟩, by rw [ht]; exact hP, va_K.moved hW.alike hK⟩, hS.F ht⟩) hS.2.2 de_K_isInstruction_112 hlocks
      · have h := ie_f h hc
        refine lv_iconst (v := 1) hx hb de_K_isInstruction_107 (by decide) ?_
        refine lv_goto (tgt := 112) hx hb de_K_isInstruction_108 (by decide) ?_
        have h := Option.some.inj h
        subst h
        exact W.zret (v := 1) hx hb hr rfl (fun t ht hW => ⟨⟨_, _, rfl, ⟨rfl, rfl⟩, by rw [ht]; exact hP, va_K.moved hW.alike hK⟩, hS.F ht⟩) hS.2.2 de_K_isInstruction_112 hlocks
  have h := ie_f h hk1_4
  by_cases hk1_5 : x0 = 5
  · have h := ie_t h hk1_5
    refine lv_tableIn (off := 88) (tgt := 89) hx hb de_K_isInstruction_1 (by rw [hk1_5]; decide) (by rw [hk1_5]; decide) (by rw [hk1_5]; rfl) (by decide) ?_
    refine lv_iload_n hx hb de_K_isInstruction_89 rfl (lv_at hl 1 rfl) ?_
    obtain ⟨r9, hr9, h⟩ := bd_some h
    refine kq_i (va_runS (As := [.int x1]) (rest := []) S (c_K_isTank l D aa q hJ σ x1 r9 hr9) (cwS 1 ht (gs_in tw_1_221 tw_1_222 tw_1_1 tc_K_isTank) rfl rfl rfl bh_K_isTank ⟨Nat.le_of_ble_eq_true rfl, Nat.le_of_ble_eq_true rfl⟩) (kpreS hK hP) rfl rfl hl.1 rfl (lv_room (Nat.le_of_ble_eq_true rfl)) de_K_isInstruction_90 ⟨Nat.zero_le _, Nat.zero_le _⟩) hS (fun H locs hP hS => ?_)
    refine lv_if_eq (tgt := 111) hx hb de_K_isInstruction_93 (by decide) (fun hc => ?_) (fun hc => ?_)
    · have h := ie_t h hc
      refine lv_iconst (v := 0) hx hb de_K_isInstruction_111 (by decide) ?_
      have h := Option.some.inj h
      subst h
      exact W.zret (v := 0) hx hb hr rfl (fun t ht hW => ⟨⟨_, _, rfl, ⟨rfl, rfl⟩, by rw [ht]; exact hP, va_K.moved hW.alike hK⟩, hS.F ht⟩) hS.2.2 de_K_isInstruction_112 hlocks
    · have h := ie_f h hc
      refine lv_iload_n hx hb de_K_isInstruction_96 rfl (lv_at hl 2 rfl) ?_
      refine lv_iconst (v := 1) hx hb de_K_isInstruction_97 (by decide) ?_
      refine lv_sipush (v := 1000) hx hb de_K_isInstruction_98 (by decide) ?_
      obtain ⟨r10, hr10, h⟩ := bd_some h
      refine kq_i (va_runS (As := [.int x2, .int 1, .int 1000]) (rest := []) S (c_K_isWithin l D aa q hJ σ x2 1 1000 r10 hr10) (cwS 3 ht (gs_in tw_1_203 tw_1_204 tw_1_1 tc_K_isWithin) rfl rfl rfl bh_K_isWithin ⟨Nat.le_of_ble_eq_true rfl, Nat.le_of_ble_eq_true rfl⟩) (kpreS hK hP) rfl rfl hl.1 rfl (lv_room (Nat.le_of_ble_eq_true rfl)) de_K_isInstruction_101 ⟨Nat.zero_le _, Nat.zero_le _⟩) hS (fun H locs hP hS => ?_)
      refine lv_if_eq (tgt := 111) hx hb de_K_isInstruction_104 (by decide) (fun hc => ?_) (fun hc => ?_)
      · have h := ie_t h hc
        refine lv_iconst (v := 0) hx hb de_K_isInstruction_111 (by decide) ?_
        have h := Option.some.inj h
        subst h
        exact W.zret (v := 0) hx hb hr rfl (fun t ht hW => ⟨⟨_, _, rfl, ⟨rfl, rfl⟩, by rw [ht]; exact hP, va_K.moved hW.alike hK⟩, hS.F ht⟩) hS.2.2 de_K_isInstruction_112 hlocks
      · have h := ie_f h hc
        refine lv_iconst (v := 1) hx hb de_K_isInstruction_107 (by decide) ?_
        refine lv_goto (tgt := 112) hx hb de_K_isInstruction_108 (by decide) ?_
        have h := Option.some.inj h
        subst h
        exact W.zret (v := 1) hx hb hr rfl (fun t ht hW => ⟨⟨_, _, rfl, ⟨rfl, rfl⟩, by rw [ht]; exact hP, va_K.moved hW.alike hK⟩, hS.F ht⟩) hS.2.2 de_K_isInstruction_112 hlocks
  have h := ie_f h hk1_5
  by_cases hk1_6 : x0 = 6
  · have h := ie_t h hk1_6
    refine lv_tableIn (off := 112) (tgt := 113) hx hb de_K_isInstruction_1 (by rw [hk1_6]; decide) (by rw [hk1_6]; decide) (by rw [hk1_6]; rfl) (by decide) ?_
    refine lv_iload_n hx hb de_K_isInstruction_113 rfl (lv_at hl 1 rfl) ?_
    refine lv_iconst (v := 0) hx hb de_K_isInstruction_114 (by decide) ?_
    refine lv_bipush (v := 11) hx hb de_K_isInstruction_115 (by decide) ?_
    obtain ⟨r11, hr11, h⟩ := bd_some h
    refine kq_i (va_runS (As := [.int x1, .int 0, .int 11]) (rest := []) S (c_K_isWithin l D aa q hJ σ x1 0 11 r11 hr11) (cwS 3 ht (gs_in tw_1_203 tw_1_204 tw_1_1 tc_K_isWithin) rfl rfl rfl bh_K_isWithin ⟨Nat.le_of_ble_eq_true rfl, Nat.le_of_ble_eq_true rfl⟩) (kpreS hK hP) rfl rfl hl.1 rfl (lv_room (Nat.le_of_ble_eq_true rfl)) de_K_isInstruction_117 ⟨Nat.zero_le _, Nat.zero_le _⟩) hS (fun H locs hP hS => ?_)
    obtain ⟨hi12, h⟩ := gd_some h
    have h := Option.some.inj h
    subst h
    exact W.zret (v := r11) hx hb hr (bz_nar hi12) (fun t ht hW => ⟨⟨_, _, rfl, ⟨rfl, rfl⟩, by rw [ht]; exact hP, va_K.moved hW.alike hK⟩, hS.F ht⟩) hS.2.2 de_K_isInstruction_120 hlocks
  have h := ie_f h hk1_6
  by_cases hk1_7 : x0 = 7
  · have h := ie_t h hk1_7
    refine lv_tableIn (off := 112) (tgt := 113) hx hb de_K_isInstruction_1 (by rw [hk1_7]; decide) (by rw [hk1_7]; decide) (by rw [hk1_7]; rfl) (by decide) ?_
    refine lv_iload_n hx hb de_K_isInstruction_113 rfl (lv_at hl 1 rfl) ?_
    refine lv_iconst (v := 0) hx hb de_K_isInstruction_114 (by decide) ?_
    refine lv_bipush (v := 11) hx hb de_K_isInstruction_115 (by decide) ?_
    obtain ⟨r13, hr13, h⟩ := bd_some h
    refine kq_i (va_runS (As := [.int x1, .int 0, .int 11]) (rest := []) S (c_K_isWithin l D aa q hJ σ x1 0 11 r13 hr13) (cwS 3 ht (gs_in tw_1_203 tw_1_204 tw_1_1 tc_K_isWithin) rfl rfl rfl bh_K_isWithin ⟨Nat.le_of_ble_eq_true rfl, Nat.le_of_ble_eq_true rfl⟩) (kpreS hK hP) rfl rfl hl.1 rfl (lv_room (Nat.le_of_ble_eq_true rfl)) de_K_isInstruction_117 ⟨Nat.zero_le _, Nat.zero_le _⟩) hS (fun H locs hP hS => ?_)
    obtain ⟨hi14, h⟩ := gd_some h
    have h := Option.some.inj h
    subst h
    exact W.zret (v := r13) hx hb hr (bz_nar hi14) (fun t ht hW => ⟨⟨_, _, rfl, ⟨rfl, rfl⟩, by rw [ht]; exact hP, va_K.moved hW.alike hK⟩, hS.F ht⟩) hS.2.2 de_K_isInstruction_120 hlocks
  have h := ie_f h hk1_7
  by_cases hk1_8 : x0 = 8
  · have h := ie_t h hk1_8
    refine lv_tableIn (off := 112) (tgt := 113) hx hb de_K_isInstruction_1 (by rw [hk1_8]; decide) (by rw [hk1_8]; decide) (by rw [hk1_8]; rfl) (by decide) ?_
    refine lv_iload_n hx hb de_K_isInstruction_113 rfl (lv_at hl 1 rfl) ?_
    refine lv_iconst (v := 0) hx hb de_K_isInstruction_114 (by decide) ?_
    refine lv_bipush (v := 11) hx hb de_K_isInstruction_115 (by decide) ?_
    obtain ⟨r15, hr15, h⟩ := bd_some h
    refine kq_i (va_runS (As := [.int x1, .int 0, .int 11]) (rest := []) S (c_K_isWithin l D aa q hJ σ x1 0 11 r15 hr15) (cwS 3 ht (gs_in tw_1_203 tw_1_204 tw_1_1 tc_K_isWithin) rfl rfl rfl bh_K_isWithin ⟨Nat.le_of_ble_eq_true rfl, Nat.le_of_ble_eq_true rfl⟩) (kpreS hK hP) rfl rfl hl.1 rfl (lv_room (Nat.le_of_ble_eq_true rfl)) de_K_isInstruction_117 ⟨Nat.zero_le _, Nat.zero_le _⟩) hS (fun H locs hP hS => ?_)
    obtain ⟨hi16, h⟩ := gd_some h
    have h := Option.some.inj h
    subst h
    exact W.zret (v := r15) hx hb hr (bz_nar hi16) (fun t ht hW => ⟨⟨_, _, rfl, ⟨rfl, rfl⟩, by rw [ht]; exact hP, va_K.moved hW.alike hK⟩, hS.F ht⟩) hS.2.2 de_K_isInstruction_120 hlocks
  have h := ie_f h hk1_8
  by_cases hk1_9 : x0 = 9
  · have h := ie_t h hk1_9
    refine lv_tableIn (off := 112) (tgt := 113) hx hb de_K_isInstruction_1 (by rw [hk1_9]; decide) (by rw [hk1_9]; decide) (by rw [hk1_9]; rfl) (by decide) ?_
    refine lv_iload_n hx hb de_K_isInstruction_113 rfl (lv_at hl 1 rfl) ?_
    refine lv_iconst (v := 0) hx hb de_K_isInstruction_114 (by decide) ?_
    refine lv_bipush (v := 11) hx hb de_K_isInstruction_115 (by decide) ?_
    obtain ⟨r17, hr17, h⟩ := bd_some h
    refine kq_i (va_runS (As := [.int x1, .int 0, .int 11]) (rest := []) S (c_K_isWithin l D aa q hJ σ x1 0 11 r17 hr17) (cwS 3 ht (gs_in tw_1_203 tw_1_204 tw_1_1 tc_K_isWithin) rfl rfl rfl bh_K_isWithin ⟨Nat.le_of_ble_eq_true rfl, Nat.le_of_ble_eq_true rfl⟩) (kpreS hK hP) rfl rfl hl.1 rfl (lv_room (Nat.le_of_ble_eq_true rfl)) de_K_isInstruction_117 ⟨Nat.zero_le _, Nat.zero_le _⟩) hS (fun H locs hP hS => ?_)
    obtain ⟨hi18, h⟩ := gd_some h
    have h := Option.some.inj h
    subst h
    exact W.zret (v := r17) hx hb hr (bz_nar hi18) (fun t ht hW => ⟨⟨_, _, rfl, ⟨rfl, rfl⟩, by rw [ht]; exact hP, va_K.moved hW.alike hK⟩, hS.F ht⟩) hS.2.2 de_K_isInstruction_120 hlocks
  have h := ie_f h hk1_9
  refine lv_tableOut (tgt := 121) hx hb de_K_isInstruction_1 (by have a0 := lv_neT (a := 0) hk1_0 (by decide); have a1 := lv_neT (a := 1) hk1_1 (by decide); have a2 := lv_neT (a := 2) hk1_2 (by decide); have a3 := lv_neT (a := 3) hk1_3 (by decide); have a4 := lv_neT (a := 4) hk1_4 (by decide); have a5 := lv_neT (a := 5) hk1_5 (by decide); have a6 := lv_neT (a := 6) hk1_6 (by decide); have a7 := lv_neT (a := 7) hk1_7 (by decide); have a8 := lv_neT (a := 8) hk1_8 (by decide); have a9 := lv_neT (a := 9) hk1_9 (by decide); omega) (by decide) ?_
  refine lv_iconst (v := 0) hx hb de_K_isInstruction_121 (by decide) ?_
  have h := Option.some.inj h
  subst h
  exact W.zret (v := 0) hx hb hr rfl (fun t ht hW => ⟨⟨_, _, rfl, ⟨rfl, rfl⟩, by rw [ht]; exact hP, va_K.moved hW.alike hK⟩, hS.F ht⟩) hS.2.2 de_K_isInstruction_122 hlocks
set_option maxHeartbeats 4000000 in
set_option maxRecDepth 100000 in
theorem c_P_append (l : Launch) (D : va_G) (aa : Nat → Nat → Nat) (q : Nat → ClassId) (hJ : wJ kC aa) (σ : kS) (g0 : Nat) (hg0 : g0 < 12) (x1 : Int32) (x2 : Int32) (x3 : Int32) (res : kS) (h : F_P_append σ g0 x1 x2 x3 = some res) : Met l by_P_append (.code by_P_append bc_P_append 4 none :: lw_g) brm_P_append (va_Pc [.ref (aa 9 g0), .int x1, .int x2, .int x3] (kPre D aa q σ)) (va_Qv (fun u : kS => u = res) (kB D aa q) (wA kC aa)) 0 0 (wA kC aa) := by
  refine Met.ofW (cc := bc_P_append) (maxL := 4) (ret := none) (by decide) rfl ?_
  intro p e s m args below meth c s₁ B hml hv
  obtain ⟨rfl, hP, hK⟩ := hv
  have hx := B.exec
  have hb := B.bytes
  have hr := B.returns
  have ht : ∀ w ∈ lw_g, w.before ([.ref (aa 9 g0), .int x1, .int x2, .int x3] : List Value).toArray s = true := fun w h => atoms_spec (ws := .code by_P_append bc_P_append 4 none :: lw_g) B.pre w (List.mem_cons_of_mem _ h)
  have hown : s.vm.findClass bR_P = some m.cls := findClass_of_methodNamed B.named
  have hlocks := B.notSynchronized
  have S : CallFix p m c bc_P_append 4 s ([.ref (aa 9 g0), .int x1, .int x2, .int x3] : List Value).toArray lw_g bR_P := ⟨hx, hb, hml, hown, ht⟩
  have hS : va_S (wA kC aa) s.heap s.heap [] := va_S.rf
  have hl := lv_entry ([.ref (aa 9 g0), .int x1, .int x2, .int x3]) (n := 4) (Nat.le_of_ble_eq_true rfl)
  rw [lg_entry_eq]
  generalize (lg_sl ([.ref (aa 9 g0), .int x1, .int x2, .int x3]) ++ List.replicate (4 - (lg_sl ([.ref (aa 9 g0), .int x1, .int x2, .int x3])).length) Slot.unset).toArray = ls at hl ⊢
  have hl : lv_has ls 4 [(0, .ref (aa 9 g0)), (1, .int x1), (2, .int x2), (3, .int x3)] := hl
  unfold F_P_append at h
  refine lv_aload_n hx hb de_P_append_0 rfl (lv_at hl 0 rfl) ?_
  refine kg_9 (v := .ref (aa 10 g0)) hx hb ht hown hK hP hg0 1 (by decide) tw_1_62 rfl de_P_append_1 ?_
  refine lv_aload_n hx hb de_P_append_4 rfl (lv_at hl 0 rfl) ?_
  refine kg_9 (v := .int (gI σ 3 g0 0)) hx hb ht hown hK hP hg0 5 (by decide) tw_1_70 rfl de_P_append_5 ?_
  refine lv_iload_n hx hb de_P_append_8 rfl (lv_at hl 1 rfl) ?_
  obtain ⟨hi1, h⟩ := gd_some h
  refine kt_10 hx hb hK hP hJ hS hg0 (inb_in hi1) de_P_append_9 (fun H locs hP hS => ?_)
  obtain ⟨σ2, eσ2, h⟩ := lx_ex h
  rw [← eσ2] at hP
  refine lv_aload_n hx hb de_P_append_10 rfl (lv_at hl 0 rfl) ?_
  refine kg_9 (v := .ref (aa 11 g0)) hx hb ht hown hK hP hg0 2 (by decide) tw_1_64 rfl de_P_append_11 ?_
  refine lv_aload_n hx hb de_P_append_14 rfl (lv_at hl 0 rfl) ?_
  refine kg_9 (v := .int (gI σ2 3 g0 0)) hx hb ht hown hK hP hg0 5 (by decide) tw_1_70 rfl de_P_append_15 ?_
  refine lv_iload_n hx hb de_P_append_18 rfl (lv_at hl 2 rfl) ?_
  obtain ⟨hi3, h⟩ := gd_some h
  refine kt_11 hx hb hK hP hJ hS hg0 (inb_in hi3) de_P_append_19 (fun H locs hP hS => ?_)
  obtain ⟨σ4, eσ4, h⟩ := lx_ex h
  rw [← eσ4] at hP
  refine lv_aload_n hx hb de_P_append_20 rfl (lv_at hl 0 rfl) ?_
  refine kg_9 (v := .ref (aa 12 g0)) hx hb ht hown hK hP hg0 3 (by decide) tw_1_66 rfl de_P_append_21 ?_
  refine lv_aload_n hx hb de_P_append_24 rfl (lv_at hl 0 rfl) ?_
  refine kg_9 (v := .int (gI σ4 3 g0 0)) hx hb ht hown hK hP hg0 5 (by decide) tw_1_70 rfl de_P_append_25 ?_
  refine lv_iload_n hx hb de_P_append_28 rfl (lv_at hl 3 rfl) ?_
  obtain ⟨hi5, h⟩ := gd_some h
  refine kt_12 hx hb hK hP hJ hS hg0 (inb_in hi5) de_P_append_29 (fun H locs hP hS => ?_)
  obtain ⟨σ6, eσ6, h⟩ := lx_ex h
  rw [← eσ6] at hP
  refine lv_aload_n hx hb de_P_append_30 rfl (lv_at hl 0 rfl) ?_
  refine lv_dup hx hb de_P_append_31 rfl ?_
  refine kg_9 (v := .int (gI σ6 3 g0 0)) hx hb ht hown hK hP hg0 5 (by decide) tw_1_70 rfl de_P_append_32 ?_
  refine lv_iconst (v := 1) hx hb de_P_append_35 (by decide) ?_
  refine lv_iadd hx hb de_P_append_36 ?_
  refine kp_9_length hx hb ht hown hK hP hJ hS hg0 tw_1_70 de_P_append_37 (fun H locs hP hS => ?_)
  obtain ⟨σ7, eσ7, h⟩ := lx_ex h
  rw [← eσ7] at hP
  have h := Option.some.inj h
  subst h
  exact W.vret hx hb hr (fun t ht hW => ⟨⟨_, rfl, rfl, by rw [ht]; exact hP, va_K.moved hW.alike hK⟩, hS.F ht⟩) hS.2.2 de_P_append_40 hlocks
set_option maxHeartbeats 4000000 in
set_option maxRecDepth 100000 in
theorem c_K_instruct (l : Launch) (D : va_G) (aa : Nat → Nat → Nat) (q : Nat → ClassId) (hJ : wJ kC aa) (σ : kS) (x1 : Int32) (x2 : Int32) (x3 : Int32) (x4 : Int32) (res : Int32 × kS) (h : F_K_instruct σ x1 x2 x3 x4 = some res) : Met l by_K_instruct (.code by_K_instruct bc_K_instruct 6 (some .boolean) :: lw_g) brm_K_instruct (va_Pc [.ref (aa 0 0), .int x1, .int x2, .int x3, .int x4] (kPre D aa q σ)) (va_Qi (fun (r : Int32) (u : kS) => r = res.1 ∧ u = res.2) (kB D aa q) (wA kC aa)) 0 0 (wA kC aa) := by
  refine Met.ofW (cc := bc_K_instruct) (maxL := 6) (ret := (some .boolean)) (by decide) rfl ?_
  intro p e s m args below meth c s₁ B hml hv
  obtain ⟨rfl, hP, hK⟩ := hv
  have hx := B.exec
  have hb := B.bytes
  have hr := B.returns
  have ht : ∀ w ∈ lw_g, w.before ([.ref (aa 0 0), .int x1, .int x2, .int x3, .int x4] : List Value).toArray s = true := fun w h => atoms_spec (ws := .code by_K_instruct bc_K_instruct 6 (some .boolean) :: lw_g) B.pre w (List.mem_cons_of_mem _ h)
  have hown : s.vm.findClass bR_K = some m.cls := findClass_of_methodNamed B.named
  have hlocks := B.notSynchronized
  have S : CallFix p m c bc_K_instruct 6 s ([.ref (aa 0 0), .int x1, .int x2, .int x3, .int x4] : List Value).toArray lw_g bR_K := ⟨hx, hb, hml, hown, ht⟩
  have hS : va_S (wA kC aa) s.heap s.heap [] := va_S.rf
  have hl := lv_entry ([.ref (aa 0 0), .int x1, .int x2, .int x3, .int x4]) (n := 6) (Nat.le_of_ble_eq_true rfl)
  rw [lg_entry_eq]
  generalize (lg_sl ([.ref (aa 0 0), .int x1, .int x2, .int x3, .int x4]) ++ List.replicate (6 - (lg_sl ([.ref (aa 0 0), .int x1, .int x2, .int x3, .int x4])).length) Slot.unset).toArray = ls at hl ⊢
  have hl : lv_has ls 6 [(0, .ref (aa 0 0)), (1, .int x1), (2, .int x2), (3, .int x3), (4, .int x4)] := hl
  unfold F_K_instruct at h
  refine lv_aload_n hx hb de_K_instruct_0 rfl (lv_at hl 0 rfl) ?_
  refine lv_iload_n hx hb de_K_instruct_1 rfl (lv_at hl 1 rfl) ?_
  obtain ⟨r1, hr1, h⟩ := bd_some h
  refine kq_i (va_runV (As := [.int x1]) (rest := []) S (c_K_isProcess l D aa q hJ σ x1 r1 hr1) (cwV 1 ht (gv_in tw_1_210 tw_1_212 ts_K_isProcess tw_1_1 tc_K_isProcess) rfl rfl rfl bh_K_isProcess ⟨Nat.le_of_ble_eq_true rfl, Nat.le_of_ble_eq_true rfl⟩) (kpreV hK hP (kr_0 hK hP (by decide))) rfl rfl hl.1 rfl (lv_room (Nat.le_of_ble_eq_true rfl)) de_K_instruct_2 ⟨Nat.zero_le _, Nat.zero_le _⟩) hS (fun H locs hP hS => ?_)
  refine lv_if_eq (tgt := 18) hx hb de_K_instruct_5 (by decide) (fun hc => ?_) (fun hc => ?_)
  · have h := ie_t h hc
    refine lv_iconst (v := 0) hx hb de_K_instruct_18 (by decide) ?_
    have h := Option.some.inj h
    subst h
    exact W.zret (v := 0) hx hb hr rfl (fun t ht hW => ⟨⟨_, _, rfl, ⟨rfl, rfl⟩, by rw [ht]; exact hP, va_K.moved hW.alike hK⟩, hS.F ht⟩) hS.2.2 de_K_instruct_19 hlocks
  · have h := ie_f h hc
    refine lv_iload_n hx hb de_K_instruct_8 rfl (lv_at hl 2 rfl) ?_
    refine lv_iload_n hx hb de_K_instruct_9 rfl (lv_at hl 3 rfl) ?_
    refine lv_iload hx hb de_K_instruct_10 (lv_at hl 4 rfl) ?_
    obtain ⟨r2, hr2, h⟩ := bd_some h
    refine kq_i (va_runS (As := [.int x2, .int x3, .int x4]) (rest := []) S (c_K_isInstruction l D aa q hJ σ x2 x3 x4 r2 hr2) (cwS 3 ht (gs_in tw_1_214 tw_1_215 tw_1_1 tc_K_isInstruction) rfl rfl rfl bh_K_isInstruction ⟨Nat.le_of_ble_eq_true rfl, Nat.le_of_ble_eq_true rfl⟩) (kpreS hK hP) rfl rfl hl.1 rfl (lv_room (Nat.le_of_ble_eq_true rfl)) de_K_instruct_12 ⟨Nat.zero_le _, Nat.zero_le _⟩) hS (fun H locs hP hS => ?_)
    refine lv_if_ne (tgt := 20) hx hb de_K_instruct_15 (by decide) (fun hc => ?_) (fun hc => ?_)
    · have h := ie_f h hc
      refine lv_aload_n hx hb de_K_instruct_20 rfl (lv_at hl 0 rfl) ?_
      refine kg_0 (v := .ref (aa 1 0)) hx hb ht hown hK hP (by decide) 0 (by decide) tw_1_171 rfl de_K_instruct_21 ?_
      refine lv_iload_n hx hb de_K_instruct_24 rfl (lv_at hl 1 rfl) ?_
      obtain ⟨hi3, h⟩ := gd_some h
      refine kl_1 hx hb hK hP (by decide) (inb_in hi3) de_K_instruct_25 (fun j4 ej4 => ?_)
      have h := lx_at h j4 ej4
      have hj4 : j4 < 12 := by rw [ej4]; exact inb_lt hi3
      refine lv_astore (lv' := [(5, .ref (aa 9 j4)), (0, .ref (aa 0 0)), (1, .int x1), (2, .int x2), (3, .int x3), (4, .int x4)]) hx hb de_K_instruct_26 hl (by decide) rfl (fun ls hl => ?_)
      refine lv_aload hx hb de_K_instruct_28 (lv_at hl 0 rfl) ?_
      refine kg_9 (v := .int (gI σ 7 j4 0)) hx hb ht hown hK hP hj4 9 (by decide) tw_1_79 rfl de_K_instruct_30 ?_
      refine lv_if_ne (tgt := 46) hx hb de_K_instruct_33 (by decide) (fun hc => ?_) (fun hc => ?_)
      · have h := ie_f h hc
        refine lv_iconst (v := 0) hx hb de_K_instruct_46 (by decide) ?_
        have h := Option.some.inj h
        subst h
        exact W.zret (v := 0) hx hb hr rfl (fun t ht hW => ⟨⟨_, _, rfl, ⟨rfl, rfl⟩, by rw [ht]; exact hP, va_K.moved hW.alike hK⟩, hS.F ht⟩) hS.2.2 de_K_instruct_47 hlocks
      · have h := ie_t h hc
        refine lv_aload hx hb de_K_instruct_36 (lv_at hl 0 rfl) ?_
        refine kg_9 (v := .int (gI σ 3 j4 0)) hx hb ht hown hK hP hj4 5 (by decide) tw_1_71 rfl de_K_instruct_38 ?_
        refine lv_bipush (v := 10) hx hb de_K_instruct_41 (by decide) ?_
        refine lv_icmp_lt (tgt := 48) hx hb de_K_instruct_43 (by decide) (fun hc => ?_) (fun hc => ?_)
        · have h := ie_t h hc
          refine lv_aload hx hb de_K_instruct_48 (lv_at hl 0 rfl) ?_
          refine lv_iload_n hx hb de_K_instruct_50 rfl (lv_at hl 3 rfl) ?_
          refine lv_iload_n hx hb de_K_instruct_51 rfl (lv_at hl 4 rfl) ?_
          refine lv_iload hx hb de_K_instruct_52 (lv_at hl 5 rfl) ?_
          obtain ⟨r5, hr5, h⟩ := bd_some h
          refine kq_v (va_runV (As := [.int x2, .int x3, .int x4]) (rest := []) S (c_P_append l D aa q hJ σ j4 hj4 x2 x3 x4 r5 hr5) (cwV 3 ht (gv_in tw_1_224 tw_1_225 tw_1_226 tw_1_4 tc_P_append) rfl rfl rfl bh_P_append ⟨Nat.le_of_ble_eq_true rfl, Nat.le_of_ble_eq_true rfl⟩) (kpreV hK hP (kr_9 hK hP hj4)) rfl rfl hl.1 rfl (lv_room (Nat.le_of_ble_eq_true rfl)) de_K_instruct_54 ⟨Nat.zero_le _, Nat.zero_le _⟩) hS (fun H locs hP hS => ?_)
          refine lv_iconst (v := 1) hx hb de_K_instruct_57 (by decide) ?_
          have h := Option.some.inj h
          subst h
          exact W.zret (v := 1) hx hb hr rfl (fun t ht hW => ⟨⟨_, _, rfl, ⟨rfl, rfl⟩, by rw [ht]; exact hP, va_K.moved hW.alike hK⟩, hS.F ht⟩) hS.2.2 de_K_instruct_58 hlocks
        · have h := ie_f h hc
          refine lv_iconst (v := 0) hx hb de_K_instruct_46 (by decide) ?_
          have h := Option.some.inj h
          subst h
          exact W.zret (v := 0) hx hb hr rfl (fun t ht hW => ⟨⟨_, _, rfl, ⟨rfl, rfl⟩, by rw [ht]; exact hP, va_K.moved hW.alike hK⟩, hS.F ht⟩) hS.2.2 de_K_instruct_47 hlocks
    · have h := ie_t h hc
      refine lv_iconst (v := 0) hx hb de_K_instruct_18 (by decide) ?_
      have h := Option.some.inj h
      subst h
      exact W.zret (v := 0) hx hb hr rfl (fun t ht hW => ⟨⟨_, _, rfl, ⟨rfl, rfl⟩, by rw [ht]; exact hP, va_K.moved hW.alike hK⟩, hS.F ht⟩) hS.2.2 de_K_instruct_19 hlocks
set_option maxHeartbeats 4000000 in
set_option maxRecDepth 100000 in
theorem c_P_secondOperand (l : Launch) (D : va_G) (aa : Nat → Nat → Nat) (q : Nat → ClassId) (hJ : wJ kC aa) (σ : kS) (g0 : Nat) (hg0 : g0 < 12) (res : Int32) (h : F_P_secondOperand σ g0 = some res) : Met l by_P_secondOperand (.code by_P_secondOperand bc_P_secondOperand 1 (some .int) :: lw_g) brm_P_secondOperand (va_Pc [.ref (aa 9 g0)] (kPre D aa q σ)) (va_Qi (fun (r : Int32) (u : kS) => r = res ∧ u = σ) (kB D aa q) (wA kC aa)) 0 0 (wA kC aa) := by
  refine Met.ofW (cc := bc_P_secondOperand) (maxL := 1) (ret := (some .int)) (by decide) rfl ?_
  intro p e s m args below meth c s₁ B hml hv
  obtain ⟨rfl, hP, hK⟩ := hv
  have hx := B.exec
  have hb := B.bytes
  have hr := B.returns
  have ht : ∀ w ∈ lw_g, w.before ([.ref (aa 9 g0)] : List Value).toArray s = true := fun w h => atoms_spec (ws := .code by_P_secondOperand bc_P_secondOperand 1 (some .int) :: lw_g) B.pre w (List.mem_cons_of_mem _ h)
  have hown : s.vm.findClass bR_P = some m.cls := findClass_of_methodNamed B.named
  have hlocks := B.notSynchronized
  have S : CallFix p m c bc_P_secondOperand 1 s ([.ref (aa 9 g0)] : List Value).toArray lw_g bR_P := ⟨hx, hb, hml, hown, ht⟩
  have hS : va_S (wA kC aa) s.heap s.heap [] := va_S.rf
  have hl := lv_entry ([.ref (aa 9 g0)]) (n := 1) (Nat.le_of_ble_eq_true rfl)
  rw [lg_entry_eq]
  generalize (lg_sl ([.ref (aa 9 g0)]) ++ List.replicate (1 - (lg_sl ([.ref (aa 9 g0)])).length) Slot.unset).toArray = ls at hl ⊢
  have hl : lv_has ls 1 [(0, .ref (aa 9 g0))] := hl
  unfold F_P_secondOperand at h
  refine lv_aload_n hx hb de_P_secondOperand_0 rfl (lv_at hl 0 rfl) ?_
  refine kg_9 (v := .ref (aa 12 g0)) hx hb ht hown hK hP hg0 3 (by decide) tw_1_66 rfl de_P_secondOperand_1 ?_
  refine lv_aload_n hx hb de_P_secondOperand_4 rfl (lv_at hl 0 rfl) ?_
  refine kg_9 (v := .int (gI σ 9 g0 0)) hx hb ht hown hK hP hg0 11 (by decide) tw_1_82 rfl de_P_secondOperand_5 ?_
  obtain ⟨hi1, h⟩ := gd_some h
  refine kl_12 hx hb hK hP hg0 (inb_in hi1) de_P_secondOperand_8 ?_
  have h := Option.some.inj h
  subst h
  exact W.iret (v := gI σ 13 g0 (gI σ 9 g0 0).toNatClampNeg) hx hb hr (fun t ht hW => ⟨⟨_, _, rfl, ⟨rfl, rfl⟩, by rw [ht]; exact hP, va_K.moved hW.alike hK⟩, hS.F ht⟩) hS.2.2 de_P_secondOperand_9 hlocks
