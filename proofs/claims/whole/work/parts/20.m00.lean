set_option maxHeartbeats 4000000 in
set_option maxRecDepth 100000 in
theorem c_M_process (l : Launch) (D : va_G) (aa : Nat → Nat → Nat) (q : Nat → ClassId) (hJ : wJ mC aa) (σ : kS) (x1 : Int32) (x2 : Int32) (x3 : Int32) (res : Int32 × kS) (h : F_M_process σ x1 x2 x3 = some res) : Met l by_M_process (.code by_M_process bc_M_process 4 (some .int) :: lw_g) brm_M_process (va_Pc [.ref (aa 0 0), .int x1, .int x2, .int x3] (mPre D aa q σ)) (va_Qi (fun (r : Int32) (u : kS) => r = res.1 ∧ u = res.2) (mB D aa q) (wA mC aa)) 0 0 (wA mC aa) := by
  refine Met.ofW (cc := bc_M_process) (maxL := 4) (ret := (some .int)) (by decide) rfl ?_
  intro p e s m args below meth c s₁ B hml hv
  obtain ⟨rfl, hP, hK⟩ := hv
  have hx := B.exec
  have hb := B.bytes
  have hr := B.returns
  have ht : ∀ w ∈ lw_g, w.before ([.ref (aa 0 0), .int x1, .int x2, .int x3] : List Value).toArray s = true := fun w h => atoms_spec (ws := .code by_M_process bc_M_process 4 (some .int) :: lw_g) B.pre w (List.mem_cons_of_mem _ h)
  have hown : s.vm.findClass bR_M = some m.cls := findClass_of_methodNamed B.named
  have hlocks := B.notSynchronized
  have S : CallFix p m c bc_M_process 4 s ([.ref (aa 0 0), .int x1, .int x2, .int x3] : List Value).toArray lw_g bR_M := ⟨hx, hb, hml, hown, ht⟩
  have hS : va_S (wA mC aa) s.heap s.heap [] := va_S.rf
  have hl := lv_entry ([.ref (aa 0 0), .int x1, .int x2, .int x3]) (n := 4) (Nat.le_of_ble_eq_true rfl)
  rw [lg_entry_eq]
  generalize (lg_sl ([.ref (aa 0 0), .int x1, .int x2, .int x3]) ++ List.replicate (4 - (lg_sl ([.ref (aa 0 0), .int x1, .int x2, .int x3])).length) Slot.unset).toArray = ls at hl ⊢
  have hl : lv_has ls 4 [(0, .ref (aa 0 0)), (1, .int x1), (2, .int x2), (3, .int x3)] := hl
  unfold F_M_process at h
  refine lv_aload_n hx hb de_M_process_0 rfl (lv_at hl 0 rfl) ?_
  refine mg_0 (v := .int (gI σ 30 0 0)) hx hb ht hown hK hP (by decide) 0 (by decide) tw_2_215 rfl de_M_process_1 ?_
  refine lv_bipush (v := 12) hx hb de_M_process_4 (by decide) ?_
  refine lv_icmp_eq (tgt := 41) hx hb de_M_process_6 (by decide) (fun hc => ?_) (fun hc => ?_)
  · have h := ie_t h hc
    refine lv_iconst (v := (-1)) hx hb de_M_process_41 (by decide) ?_
    have h := Option.some.inj h
    subst h
    exact W.iret (v := (-1)) hx hb hr (fun t ht hW => ⟨⟨_, _, rfl, ⟨rfl, rfl⟩, by rw [ht]; exact hP, va_K.moved hW.alike hK⟩, hS.F ht⟩) hS.2.2 de_M_process_42 hlocks
  · have h := ie_f h hc
    refine lv_iload_n hx hb de_M_process_9 rfl (lv_at hl 1 rfl) ?_
    refine lv_bipush (v := (-4)) hx hb de_M_process_10 (by decide) ?_
    refine lv_icmp_lt (tgt := 41) hx hb de_M_process_12 (by decide) (fun hc => ?_) (fun hc => ?_)
    · have h := ie_t h hc
      refine lv_iconst (v := (-1)) hx hb de_M_process_41 (by decide) ?_
      have h := Option.some.inj h
      subst h
      exact W.iret (v := (-1)) hx hb hr (fun t ht hW => ⟨⟨_, _, rfl, ⟨rfl, rfl⟩, by rw [ht]; exact hP, va_K.moved hW.alike hK⟩, hS.F ht⟩) hS.2.2 de_M_process_42 hlocks
    · have h := ie_f h hc
      refine lv_iload_n hx hb de_M_process_15 rfl (lv_at hl 1 rfl) ?_
      refine lv_iconst (v := 4) hx hb de_M_process_16 (by decide) ?_
      refine lv_icmp_gt (tgt := 41) hx hb de_M_process_17 (by decide) (fun hc => ?_) (fun hc => ?_)
      · have h := ie_t h hc
        refine lv_iconst (v := (-1)) hx hb de_M_process_41 (by decide) ?_
        have h := Option.some.inj h
        subst h
        exact W.iret (v := (-1)) hx hb hr (fun t ht hW => ⟨⟨_, _, rfl, ⟨rfl, rfl⟩, by rw [ht]; exact hP, va_K.moved hW.alike hK⟩, hS.F ht⟩) hS.2.2 de_M_process_42 hlocks
      · have h := ie_f h hc
        refine lv_iload_n hx hb de_M_process_20 rfl (lv_at hl 2 rfl) ?_
        refine lv_iconst (v := 1) hx hb de_M_process_21 (by decide) ?_
        refine lv_icmp_lt (tgt := 41) hx hb de_M_process_22 (by decide) (fun hc => ?_) (fun hc => ?_)
        · have h := ie_t h hc
          refine lv_iconst (v := (-1)) hx hb de_M_process_41 (by decide) ?_
          have h := Option.some.inj h
          subst h
          exact W.iret (v := (-1)) hx hb hr (fun t ht hW => ⟨⟨_, _, rfl, ⟨rfl, rfl⟩, by rw [ht]; exact hP, va_K.moved hW.alike hK⟩, hS.F ht⟩) hS.2.2 de_M_process_42 hlocks
        · have h := ie_f h hc
          refine lv_iload_n hx hb de_M_process_25 rfl (lv_at hl 2 rfl) ?_
          refine lv_bipush (v := 9) hx hb de_M_process_26 (by decide) ?_
          refine lv_icmp_gt (tgt := 41) hx hb de_M_process_28 (by decide) (fun hc => ?_) (fun hc => ?_)
          · have h := ie_t h hc
            refine lv_iconst (v := (-1)) hx hb de_M_process_41 (by decide) ?_
            have h := Option.some.inj h
            subst h
            exact W.iret (v := (-1)) hx hb hr (fun t ht hW => ⟨⟨_, _, rfl, ⟨rfl, rfl⟩, by rw [ht]; exact hP, va_K.moved hW.alike hK⟩, hS.F ht⟩) hS.2.2 de_M_process_42 hlocks
          · have h := ie_f h hc
            refine lv_iload_n hx hb de_M_process_31 rfl (lv_at hl 3 rfl) ?_
            refine lv_if_lt (tgt := 41) hx hb de_M_process_32 (by decide) (fun hc => ?_) (fun hc => ?_)
            · have h := ie_t h hc
              refine lv_iconst (v := (-1)) hx hb de_M_process_41 (by decide) ?_
              have h := Option.some.inj h
              subst h
              exact W.iret (v := (-1)) hx hb hr (fun t ht hW => ⟨⟨_, _, rfl, ⟨rfl, rfl⟩, by rw [ht]; exact hP, va_K.moved hW.alike hK⟩, hS.F ht⟩) hS.2.2 de_M_process_42 hlocks
            · have h := ie_f h hc
              refine lv_iload_n hx hb de_M_process_35 rfl (lv_at hl 3 rfl) ?_
              refine lv_bipush (v := 10) hx hb de_M_process_36 (by decide) ?_
              refine lv_icmp_le (tgt := 43) hx hb de_M_process_38 (by decide) (fun hc => ?_) (fun hc => ?_)
              · have h := ie_t h hc
                refine lv_aload_n hx hb de_M_process_43 rfl (lv_at hl 0 rfl) ?_
                refine mg_0 (v := .ref (aa 1 0)) hx hb ht hown hK hP (by decide) 5 (by decide) tw_2_220 rfl de_M_process_44 ?_
                refine lv_aload_n hx hb de_M_process_47 rfl (lv_at hl 0 rfl) ?_
                refine mg_0 (v := .int (gI σ 30 0 0)) hx hb ht hown hK hP (by decide) 0 (by decide) tw_2_215 rfl de_M_process_48 ?_
                refine lv_iload_n hx hb de_M_process_51 rfl (lv_at hl 1 rfl) ?_
                obtain ⟨hi1, h⟩ := gd_some h
                refine mt_1 hx hb hK hP hJ hS (by decide) (inb_in hi1) de_M_process_52 (fun H locs hP hS => ?_)
                obtain ⟨σ2, eσ2, h⟩ := lx_ex h
                rw [← eσ2] at hP
                refine lv_aload_n hx hb de_M_process_53 rfl (lv_at hl 0 rfl) ?_
                refine mg_0 (v := .ref (aa 2 0)) hx hb ht hown hK hP (by decide) 6 (by decide) tw_2_221 rfl de_M_process_54 ?_
                refine lv_aload_n hx hb de_M_process_57 rfl (lv_at hl 0 rfl) ?_
                refine mg_0 (v := .int (gI σ2 30 0 0)) hx hb ht hown hK hP (by decide) 0 (by decide) tw_2_215 rfl de_M_process_58 ?_
                refine lv_iload_n hx hb de_M_process_61 rfl (lv_at hl 2 rfl) ?_
                obtain ⟨hi3, h⟩ := gd_some h
                refine mt_2 hx hb hK hP hJ hS (by decide) (inb_in hi3) de_M_process_62 (fun H locs hP hS => ?_)
                obtain ⟨σ4, eσ4, h⟩ := lx_ex h
                rw [← eσ4] at hP
                refine lv_aload_n hx hb de_M_process_63 rfl (lv_at hl 0 rfl) ?_
                refine mg_0 (v := .ref (aa 3 0)) hx hb ht hown hK hP (by decide) 7 (by decide) tw_2_222 rfl de_M_process_64 ?_
                refine lv_aload_n hx hb de_M_process_67 rfl (lv_at hl 0 rfl) ?_
                refine mg_0 (v := .int (gI σ4 30 0 0)) hx hb ht hown hK hP (by decide) 0 (by decide) tw_2_215 rfl de_M_process_68 ?_
                refine lv_iload_n hx hb de_M_process_71 rfl (lv_at hl 3 rfl) ?_
                obtain ⟨hi5, h⟩ := gd_some h
                refine mt_3 hx hb hK hP hJ hS (by decide) (inb_in hi5) de_M_process_72 (fun H locs hP hS => ?_)
                obtain ⟨σ6, eσ6, h⟩ := lx_ex h
                rw [← eσ6] at hP
                refine lv_aload_n hx hb de_M_process_73 rfl (lv_at hl 0 rfl) ?_
                refine mg_0 (v := .ref (aa 8 0)) hx hb ht hown hK hP (by decide) 12 (by decide) tw_2_227 rfl de_M_process_74 ?_
                refine lv_aload_n hx hb de_M_process_77 rfl (lv_at hl 0 rfl) ?_
                refine mg_0 (v := .int (gI σ6 30 0 0)) hx hb ht hown hK hP (by decide) 0 (by decide) tw_2_215 rfl de_M_process_78 ?_
                refine lv_iconst (v := (-1)) hx hb de_M_process_81 (by decide) ?_
                obtain ⟨hi7, h⟩ := gd_some h
                refine mt_8 hx hb hK hP hJ hS (by decide) (inb_in hi7) de_M_process_82 (fun H locs hP hS => ?_)
                obtain ⟨σ8, eσ8, h⟩ := lx_ex h
                rw [← eσ8] at hP
                refine lv_aload_n hx hb de_M_process_83 rfl (lv_at hl 0 rfl) ?_
                refine lv_dup hx hb de_M_process_84 rfl ?_
                refine mg_0 (v := .int (gI σ8 30 0 0)) hx hb ht hown hK hP (by decide) 0 (by decide) tw_2_215 rfl de_M_process_85 ?_
                refine lv_iconst (v := 1) hx hb de_M_process_88 (by decide) ?_
                refine lv_iadd hx hb de_M_process_89 ?_
                refine mp_0_count hx hb ht hown hK hP hJ hS (by decide) tw_2_215 de_M_process_90 (fun H locs hP hS => ?_)
                obtain ⟨σ9, eσ9, h⟩ := lx_ex h
                rw [← eσ9] at hP
                refine lv_aload_n hx hb de_M_process_93 rfl (lv_at hl 0 rfl) ?_
                refine mg_0 (v := .int (gI σ9 30 0 0)) hx hb ht hown hK hP (by decide) 0 (by decide) tw_2_215 rfl de_M_process_94 ?_
                refine lv_iconst (v := 1) hx hb de_M_process_97 (by decide) ?_
                refine lv_isub hx hb de_M_process_98 ?_
                have h := Option.some.inj h
                subst h
                exact W.iret (v := (gI σ9 30 0 0) - 1) hx hb hr (fun t ht hW => ⟨⟨_, _, rfl, ⟨rfl, rfl⟩, by rw [ht]; exact hP, va_K.moved hW.alike hK⟩, hS.F ht⟩) hS.2.2 de_M_process_99 hlocks
              · have h := ie_f h hc
                refine lv_iconst (v := (-1)) hx hb de_M_process_41 (by decide) ?_
                have h := Option.some.inj h
                subst h
                exact W.iret (v := (-1)) hx hb hr (fun t ht hW => ⟨⟨_, _, rfl, ⟨rfl, rfl⟩, by rw [ht]; exact hP, va_K.moved hW.alike hK⟩, hS.F ht⟩) hS.2.2 de_M_process_42 hlocks
set_option maxHeartbeats 4000000 in
set_option maxRecDepth 100000 in
theorem c_M_within (l : Launch) (D : va_G) (aa : Nat → Nat → Nat) (q : Nat → ClassId) (hJ : wJ mC aa) (σ : kS) (x1 : Int32) (x2 : Int32) (x3 : Int32) (res : Int32) (h : F_M_within σ x1 x2 x3 = some res) : Met l by_M_within (.code by_M_within bc_M_within 4 (some .boolean) :: lw_g) brm_M_within (va_Pc [.ref (aa 0 0), .int x1, .int x2, .int x3] (mPre D aa q σ)) (va_Qi (fun (r : Int32) (u : kS) => r = res ∧ u = σ) (mB D aa q) (wA mC aa)) 0 0 (wA mC aa) := by
  refine Met.ofW (cc := bc_M_within) (maxL := 4) (ret := (some .boolean)) (by decide) rfl ?_
  intro p e s m args below meth c s₁ B hml hv
  obtain ⟨rfl, hP, hK⟩ := hv
  have hx := B.exec
  have hb := B.bytes
  have hr := B.returns
  have ht : ∀ w ∈ lw_g, w.before ([.ref (aa 0 0), .int x1, .int x2, .int x3] : List Value).toArray s = true := fun w h => atoms_spec (ws := .code by_M_within bc_M_within 4 (some .boolean) :: lw_g) B.pre w (List.mem_cons_of_mem _ h)
  have hown : s.vm.findClass bR_M = some m.cls := findClass_of_methodNamed B.named
  have hlocks := B.notSynchronized
  have S : CallFix p m c bc_M_within 4 s ([.ref (aa 0 0), .int x1, .int x2, .int x3] : List Value).toArray lw_g bR_M := ⟨hx, hb, hml, hown, ht⟩
  have hS : va_S (wA mC aa) s.heap s.heap [] := va_S.rf
  have hl := lv_entry ([.ref (aa 0 0), .int x1, .int x2, .int x3]) (n := 4) (Nat.le_of_ble_eq_true rfl)
  rw [lg_entry_eq]
  generalize (lg_sl ([.ref (aa 0 0), .int x1, .int x2, .int x3]) ++ List.replicate (4 - (lg_sl ([.ref (aa 0 0), .int x1, .int x2, .int x3])).length) Slot.unset).toArray = ls at hl ⊢
  have hl : lv_has ls 4 [(0, .ref (aa 0 0)), (1, .int x1), (2, .int x2), (3, .int x3)] := hl
  unfold F_M_within at h
  refine lv_iload_n hx hb de_M_within_0 rfl (lv_at hl 1 rfl) ?_
  refine lv_iload_n hx hb de_M_within_1 rfl (lv_at hl 2 rfl) ?_
  refine lv_icmp_lt (tgt := 14) hx hb de_M_within_2 (by decide) (fun hc => ?_) (fun hc => ?_)
  · have h := ie_t h hc
    refine lv_iconst (v := 0) hx hb de_M_within_14 (by decide) ?_
    have h := Option.some.inj h
    subst h
    exact W.zret (v := 0) hx hb hr rfl (fun t ht hW => ⟨⟨_, _, rfl, ⟨rfl, rfl⟩, by rw [ht]; exact hP, va_K.moved hW.alike hK⟩, hS.F ht⟩) hS.2.2 de_M_within_15 hlocks
  · have h := ie_f h hc
    refine lv_iload_n hx hb de_M_within_5 rfl (lv_at hl 1 rfl) ?_
    refine lv_iload_n hx hb de_M_within_6 rfl (lv_at hl 3 rfl) ?_
    refine lv_icmp_gt (tgt := 14) hx hb de_M_within_7 (by decide) (fun hc => ?_) (fun hc => ?_)
    · have h := ie_t h hc
      refine lv_iconst (v := 0) hx hb de_M_within_14 (by decide) ?_
      have h := Option.some.inj h
      subst h
      exact W.zret (v := 0) hx hb hr rfl (fun t ht hW => ⟨⟨_, _, rfl, ⟨rfl, rfl⟩, by rw [ht]; exact hP, va_K.moved hW.alike hK⟩, hS.F ht⟩) hS.2.2 de_M_within_15 hlocks
    · have h := ie_f h hc
      refine lv_iconst (v := 1) hx hb de_M_within_10 (by decide) ?_
      refine lv_goto (tgt := 15) hx hb de_M_within_11 (by decide) ?_
      have h := Option.some.inj h
      subst h
      exact W.zret (v := 1) hx hb hr rfl (fun t ht hW => ⟨⟨_, _, rfl, ⟨rfl, rfl⟩, by rw [ht]; exact hP, va_K.moved hW.alike hK⟩, hS.F ht⟩) hS.2.2 de_M_within_15 hlocks
set_option maxHeartbeats 4000000 in
set_option maxRecDepth 100000 in
theorem c_M_fits (l : Launch) (D : va_G) (aa : Nat → Nat → Nat) (q : Nat → ClassId) (hJ : wJ mC aa) (σ : kS) (x1 : Int32) (x2 : Int32) (x3 : Int32) (res : Int32) (h : F_M_fits σ x1 x2 x3 = some res) : Met l by_M_fits (.code by_M_fits bc_M_fits 4 (some .boolean) :: lw_g) brm_M_fits (va_Pc [.ref (aa 0 0), .int x1, .int x2, .int x3] (mPre D aa q σ)) (va_Qi (fun (r : Int32) (u : kS) => r = res ∧ u = σ) (mB D aa q) (wA mC aa)) 0 0 (wA mC aa) := by
  refine Met.ofW (cc := bc_M_fits) (maxL := 4) (ret := (some .boolean)) (by decide) rfl ?_
  intro p e s m args below meth c s₁ B hml hv
  obtain ⟨rfl, hP, hK⟩ := hv
  have hx := B.exec
  have hb := B.bytes
  have hr := B.returns
  have ht : ∀ w ∈ lw_g, w.before ([.ref (aa 0 0), .int x1, .int x2, .int x3] : List Value).toArray s = true := fun w h => atoms_spec (ws := .code by_M_fits bc_M_fits 4 (some .boolean) :: lw_g) B.pre w (List.mem_cons_of_mem _ h)
  have hown : s.vm.findClass bR_M = some m.cls := findClass_of_methodNamed B.named
  have hlocks := B.notSynchronized
  have S : CallFix p m c bc_M_fits 4 s ([.ref (aa 0 0), .int x1, .int x2, .int x3] : List Value).toArray lw_g bR_M := ⟨hx, hb, hml, hown, ht⟩
  have hS : va_S (wA mC aa) s.heap s.heap [] := va_S.rf
  have hl := lv_entry ([.ref (aa 0 0), .int x1, .int x2, .int x3]) (n := 4) (Nat.le_of_ble_eq_true rfl)
  rw [lg_entry_eq]
  generalize (lg_sl ([.ref (aa 0 0), .int x1, .int x2, .int x3]) ++ List.replicate (4 - (lg_sl ([.ref (aa 0 0), .int x1, .int x2, .int x3])).length) Slot.unset).toArray = ls at hl ⊢
  have hl : lv_has ls 4 [(0, .ref (aa 0 0)), (1, .int x1), (2, .int x2), (3, .int x3)] := hl
  unfold F_M_fits at h
  refine lv_iload_n hx hb de_M_fits_0 rfl (lv_at hl 1 rfl) ?_
  refine lv_if_ne (tgt := 13) hx hb de_M_fits_1 (by decide) (fun hc => ?_) (fun hc => ?_)
  · have h := ie_f h hc
    refine lv_iload_n hx hb de_M_fits_13 rfl (lv_at hl 1 rfl) ?_
    refine lv_iconst (v := 1) hx hb de_M_fits_14 (by decide) ?_
    refine lv_icmp_ne (tgt := 20) hx hb de_M_fits_15 (by decide) (fun hc => ?_) (fun hc => ?_)
    · have h := ie_f h hc
      refine lv_iload_n hx hb de_M_fits_20 rfl (lv_at hl 1 rfl) ?_
      refine lv_iconst (v := 3) hx hb de_M_fits_21 (by decide) ?_
      refine lv_icmp_gt (tgt := 52) hx hb de_M_fits_22 (by decide) (fun hc => ?_) (fun hc => ?_)
      · have h := ie_t h hc
        refine lv_iload_n hx hb de_M_fits_52 rfl (lv_at hl 1 rfl) ?_
        refine lv_iconst (v := 5) hx hb de_M_fits_53 (by decide) ?_
        refine lv_icmp_gt (tgt := 85) hx hb de_M_fits_54 (by decide) (fun hc => ?_) (fun hc => ?_)
        · have h := ie_t h hc
          refine lv_aload_n hx hb de_M_fits_85 rfl (lv_at hl 0 rfl) ?_
          refine lv_iload_n hx hb de_M_fits_86 rfl (lv_at hl 2 rfl) ?_
          refine lv_iconst (v := 0) hx hb de_M_fits_87 (by decide) ?_
          refine lv_bipush (v := 11) hx hb de_M_fits_88 (by decide) ?_
          obtain ⟨r1, hr1, h⟩ := bd_some h
          refine mq_i (va_runV (As := [.int x2, .int 0, .int 11]) (rest := []) S (c_M_within l D aa q hJ σ x2 0 11 r1 hr1) (cwV 3 ht (gv_in tw_3_71 tw_3_73 ts_M_within tw_1_7 tc_M_within) rfl rfl rfl bh_M_within ⟨Nat.le_of_ble_eq_true rfl, Nat.le_of_ble_eq_true rfl⟩) (mpreV hK hP (mr_0 hK hP (by decide))) rfl rfl hl.1 rfl (lv_room (Nat.le_of_ble_eq_true rfl)) de_M_fits_90 ⟨Nat.zero_le _, Nat.zero_le _⟩) hS (fun H locs hP hS => ?_)
          obtain ⟨hi2, h⟩ := gd_some h
          have h := Option.some.inj h
          subst h
          exact W.zret (v := r1) hx hb hr (bz_nar hi2) (fun t ht hW => ⟨⟨_, _, rfl, ⟨rfl, rfl⟩, by rw [ht]; exact hP, va_K.moved hW.alike hK⟩, hS.F ht⟩) hS.2.2 de_M_fits_93 hlocks
        · have h := ie_f h hc
          refine lv_aload_n hx hb de_M_fits_57 rfl (lv_at hl 0 rfl) ?_
          refine lv_iload_n hx hb de_M_fits_58 rfl (lv_at hl 2 rfl) ?_
          refine lv_iconst (v := 0) hx hb de_M_fits_59 (by decide) ?_
          refine lv_iconst (v := 3) hx hb de_M_fits_60 (by decide) ?_
          obtain ⟨r3, hr3, h⟩ := bd_some h
          refine mq_i (va_runV (As := [.int x2, .int 0, .int 3]) (rest := []) S (c_M_within l D aa q hJ σ x2 0 3 r3 hr3) (cwV 3 ht (gv_in tw_3_71 tw_3_73 ts_M_within tw_1_7 tc_M_within) rfl rfl rfl bh_M_within ⟨Nat.le_of_ble_eq_true rfl, Nat.le_of_ble_eq_true rfl⟩) (mpreV hK hP (mr_0 hK hP (by decide))) rfl rfl hl.1 rfl (lv_room (Nat.le_of_ble_eq_true rfl)) de_M_fits_61 ⟨Nat.zero_le _, Nat.zero_le _⟩) hS (fun H locs hP hS => ?_)
          refine lv_if_eq (tgt := 83) hx hb de_M_fits_64 (by decide) (fun hc => ?_) (fun hc => ?_)
          · have h := ie_t h hc
            refine lv_iconst (v := 0) hx hb de_M_fits_83 (by decide) ?_
            have h := Option.some.inj h
            subst h
            exact W.zret (v := 0) hx hb hr rfl (fun t ht hW => ⟨⟨_, _, rfl, ⟨rfl, rfl⟩, by rw [ht]; exact hP, va_K.moved hW.alike hK⟩, hS.F ht⟩) hS.2.2 de_M_fits_84 hlocks
          · have h := ie_f h hc
            refine lv_aload_n hx hb de_M_fits_67 rfl (lv_at hl 0 rfl) ?_
            refine lv_iload_n hx hb de_M_fits_68 rfl (lv_at hl 3 rfl) ?_
            refine lv_iconst (v := 1) hx hb de_M_fits_69 (by decide) ?_
            refine lv_sipush (v := 1000) hx hb de_M_fits_70 (by decide) ?_
            obtain ⟨r4, hr4, h⟩ := bd_some h
            refine mq_i (va_runV (As := [.int x3, .int 1, .int 1000]) (rest := []) S (c_M_within l D aa q hJ σ x3 1 1000 r4 hr4) (cwV 3 ht (gv_in tw_3_71 tw_3_73 ts_M_within tw_1_7 tc_M_within) rfl rfl rfl bh_M_within ⟨Nat.le_of_ble_eq_true rfl, Nat.le_of_ble_eq_true rfl⟩) (mpreV hK hP (mr_0 hK hP (by decide))) rfl rfl hl.1 rfl (lv_room (Nat.le_of_ble_eq_true rfl)) de_M_fits_73 ⟨Nat.zero_le _, Nat.zero_le _⟩) hS (fun H locs hP hS => ?_)
            refine lv_if_eq (tgt := 83) hx hb de_M_fits_76 (by decide) (fun hc => ?_) (fun hc => ?_)
            · have h := ie_t h hc
              refine lv_iconst (v := 0) hx hb de_M_fits_83 (by decide) ?_
              have h := Option.some.inj h
              subst h
              exact W.zret (v := 0) hx hb hr rfl (fun t ht hW => ⟨⟨_, _, rfl, ⟨rfl, rfl⟩, by rw [ht]; exact hP, va_K.moved hW.alike hK⟩, hS.F ht⟩) hS.2.2 de_M_fits_84 hlocks
            · have h := ie_f h hc
              refine lv_iconst (v := 1) hx hb de_M_fits_79 (by decide) ?_
              refine lv_goto (tgt := 84) hx hb de_M_fits_80 (by decide) ?_
              have h := Option.some.inj h
              subst h
              exact W.zret (v := 1) hx hb hr rfl (fun t ht hW => ⟨⟨_, _, rfl, ⟨rfl, rfl⟩, by rw [ht]; exact hP, va_K.moved hW.alike hK⟩, hS.F ht⟩) hS.2.2 de_M_fits_84 hlocks
      · have h := ie_f h hc
        refine lv_aload_n hx hb de_M_fits_25 rfl (lv_at hl 0 rfl) ?_
        refine lv_iload_n hx hb de_M_fits_26 rfl (lv_at hl 2 rfl) ?_
        refine lv_iconst (v := 0) hx hb de_M_fits_27 (by decide) ?_
        refine lv_iconst (v := 3) hx hb de_M_fits_28 (by decide) ?_
        obtain ⟨r5, hr5, h⟩ := bd_some h
        refine mq_i (va_runV (As := [.int x2, .int 0, .int 3]) (rest := []) S (c_M_within l D aa q hJ σ x2 0 3 r5 hr5) (cwV 3 ht (gv_in tw_3_71 tw_3_73 ts_M_within tw_1_7 tc_M_within) rfl rfl rfl bh_M_within ⟨Nat.le_of_ble_eq_true rfl, Nat.le_of_ble_eq_true rfl⟩) (mpreV hK hP (mr_0 hK hP (by decide))) rfl rfl hl.1 rfl (lv_room (Nat.le_of_ble_eq_true rfl)) de_M_fits_29 ⟨Nat.zero_le _, Nat.zero_le _⟩) hS (fun H locs hP hS => ?_)
        refine lv_if_eq (tgt := 50) hx hb de_M_fits_32 (by decide) (fun hc => ?_) (fun hc => ?_)
        · have h := ie_t h hc
          refine lv_iconst (v := 0) hx hb de_M_fits_50 (by decide) ?_
          have h := Option.some.inj h
          subst h
          exact W.zret (v := 0) hx hb hr rfl (fun t ht hW => ⟨⟨_, _, rfl, ⟨rfl, rfl⟩, by rw [ht]; exact hP, va_K.moved hW.alike hK⟩, hS.F ht⟩) hS.2.2 de_M_fits_51 hlocks
        · have h := ie_f h hc
          refine lv_aload_n hx hb de_M_fits_35 rfl (lv_at hl 0 rfl) ?_
          refine lv_iload_n hx hb de_M_fits_36 rfl (lv_at hl 3 rfl) ?_
          refine lv_iconst (v := 1) hx hb de_M_fits_37 (by decide) ?_
          refine lv_bipush (v := 9) hx hb de_M_fits_38 (by decide) ?_
          obtain ⟨r6, hr6, h⟩ := bd_some h
          refine mq_i (va_runV (As := [.int x3, .int 1, .int 9]) (rest := []) S (c_M_within l D aa q hJ σ x3 1 9 r6 hr6) (cwV 3 ht (gv_in tw_3_71 tw_3_73 ts_M_within tw_1_7 tc_M_within) rfl rfl rfl bh_M_within ⟨Nat.le_of_ble_eq_true rfl, Nat.le_of_ble_eq_true rfl⟩) (mpreV hK hP (mr_0 hK hP (by decide))) rfl rfl hl.1 rfl (lv_room (Nat.le_of_ble_eq_true rfl)) de_M_fits_40 ⟨Nat.zero_le _, Nat.zero_le _⟩) hS (fun H locs hP hS => ?_)
          refine lv_if_eq (tgt := 50) hx hb de_M_fits_43 (by decide) (fun hc => ?_) (fun hc => ?_)
          · have h := ie_t h hc
            refine lv_iconst (v := 0) hx hb de_M_fits_50 (by decide) ?_
            have h := Option.some.inj h
            subst h
            exact W.zret (v := 0) hx hb hr rfl (fun t ht hW => ⟨⟨_, _, rfl, ⟨rfl, rfl⟩, by rw [ht]; exact hP, va_K.moved hW.alike hK⟩, hS.F ht⟩) hS.2.2 de_M_fits_51 hlocks
          · have h := ie_f h hc
            refine lv_iconst (v := 1) hx hb de_M_fits_46 (by decide) ?_
            refine lv_goto (tgt := 51) hx hb de_M_fits_47 (by decide) ?_
            have h := Option.some.inj h
            subst h
            exact W.zret (v := 1) hx hb hr rfl (fun t ht hW => ⟨⟨_, _, rfl, ⟨rfl, rfl⟩, by rw [ht]; exact hP, va_K.moved hW.alike hK⟩, hS.F ht⟩) hS.2.2 de_M_fits_51 hlocks
    · have h := ie_t h hc
      refine lv_iconst (v := 1) hx hb de_M_fits_18 (by decide) ?_
      have h := Option.some.inj h
      subst h
      exact W.zret (v := 1) hx hb hr rfl (fun t ht hW => ⟨⟨_, _, rfl, ⟨rfl, rfl⟩, by rw [ht]; exact hP, va_K.moved hW.alike hK⟩, hS.F ht⟩) hS.2.2 de_M_fits_19 hlocks
  · have h := ie_t h hc
    refine lv_aload_n hx hb de_M_fits_4 rfl (lv_at hl 0 rfl) ?_
    refine lv_iload_n hx hb de_M_fits_5 rfl (lv_at hl 2 rfl) ?_
    refine lv_iconst (v := 0) hx hb de_M_fits_6 (by decide) ?_
    refine lv_ldc (v := 1000000) hx hb hown (ht _ tw_3_79) de_M_fits_7 ?_
    obtain ⟨r7, hr7, h⟩ := bd_some h
    refine mq_i (va_runV (As := [.int x2, .int 0, .int 1000000]) (rest := []) S (c_M_within l D aa q hJ σ x2 0 1000000 r7 hr7) (cwV 3 ht (gv_in tw_3_71 tw_3_73 ts_M_within tw_1_7 tc_M_within) rfl rfl rfl bh_M_within ⟨Nat.le_of_ble_eq_true rfl, Nat.le_of_ble_eq_true rfl⟩) (mpreV hK hP (mr_0 hK hP (by decide))) rfl rfl hl.1 rfl (lv_room (Nat.le_of_ble_eq_true rfl)) de_M_fits_9 ⟨Nat.zero_le _, Nat.zero_le _⟩) hS (fun H locs hP hS => ?_)
    obtain ⟨hi8, h⟩ := gd_some h
    have h := Option.some.inj h
    subst h
    exact W.zret (v := r7) hx hb hr (bz_nar hi8) (fun t ht hW => ⟨⟨_, _, rfl, ⟨rfl, rfl⟩, by rw [ht]; exact hP, va_K.moved hW.alike hK⟩, hS.F ht⟩) hS.2.2 de_M_fits_12 hlocks
set_option maxHeartbeats 4000000 in
set_option maxRecDepth 100000 in
theorem c_M_none (l : Launch) (D : va_G) (aa : Nat → Nat → Nat) (q : Nat → ClassId) (hJ : wJ mC aa) (σ : kS) (x1 : Int32) (res : Int32) (h : F_M_none σ x1 = some res) : Met l by_M_none (.code by_M_none bc_M_none 2 (some .boolean) :: lw_g) brm_M_none (va_Pc [.ref (aa 0 0), .int x1] (mPre D aa q σ)) (va_Qi (fun (r : Int32) (u : kS) => r = res ∧ u = σ) (mB D aa q) (wA mC aa)) 0 0 (wA mC aa) := by
  refine Met.ofW (cc := bc_M_none) (maxL := 2) (ret := (some .boolean)) (by decide) rfl ?_
  intro p e s m args below meth c s₁ B hml hv
  obtain ⟨rfl, hP, hK⟩ := hv
  have hx := B.exec
  have hb := B.bytes
  have hr := B.returns
  have ht : ∀ w ∈ lw_g, w.before ([.ref (aa 0 0), .int x1] : List Value).toArray s = true := fun w h => atoms_spec (ws := .code by_M_none bc_M_none 2 (some .boolean) :: lw_g) B.pre w (List.mem_cons_of_mem _ h)
  have hown : s.vm.findClass bR_M = some m.cls := findClass_of_methodNamed B.named
  have hlocks := B.notSynchronized
  have S : CallFix p m c bc_M_none 2 s ([.ref (aa 0 0), .int x1] : List Value).toArray lw_g bR_M := ⟨hx, hb, hml, hown, ht⟩
  have hS : va_S (wA mC aa) s.heap s.heap [] := va_S.rf
  have hl := lv_entry ([.ref (aa 0 0), .int x1]) (n := 2) (Nat.le_of_ble_eq_true rfl)
  rw [lg_entry_eq]
  generalize (lg_sl ([.ref (aa 0 0), .int x1]) ++ List.replicate (2 - (lg_sl ([.ref (aa 0 0), .int x1])).length) Slot.unset).toArray = ls at hl ⊢
  have hl : lv_has ls 2 [(0, .ref (aa 0 0)), (1, .int x1)] := hl
  unfold F_M_none at h
  refine lv_iload_n hx hb de_M_none_0 rfl (lv_at hl 1 rfl) ?_
  refine lv_if_lt (tgt := 12) hx hb de_M_none_1 (by decide) (fun hc => ?_) (fun hc => ?_)
  · have h := ie_t h hc
    refine lv_iconst (v := 1) hx hb de_M_none_12 (by decide) ?_
    refine lv_goto (tgt := 17) hx hb de_M_none_13 (by decide) ?_
    have h := Option.some.inj h
    subst h
    exact W.zret (v := 1) hx hb hr rfl (fun t ht hW => ⟨⟨_, _, rfl, ⟨rfl, rfl⟩, by rw [ht]; exact hP, va_K.moved hW.alike hK⟩, hS.F ht⟩) hS.2.2 de_M_none_17 hlocks
  · have h := ie_f h hc
    refine lv_iload_n hx hb de_M_none_4 rfl (lv_at hl 1 rfl) ?_
    refine lv_aload_n hx hb de_M_none_5 rfl (lv_at hl 0 rfl) ?_
    refine mg_0 (v := .int (gI σ 30 0 0)) hx hb ht hown hK hP (by decide) 0 (by decide) tw_2_215 rfl de_M_none_6 ?_
    refine lv_icmp_lt (tgt := 16) hx hb de_M_none_9 (by decide) (fun hc => ?_) (fun hc => ?_)
    · have h := ie_t h hc
      refine lv_iconst (v := 0) hx hb de_M_none_16 (by decide) ?_
      have h := Option.some.inj h
      subst h
      exact W.zret (v := 0) hx hb hr rfl (fun t ht hW => ⟨⟨_, _, rfl, ⟨rfl, rfl⟩, by rw [ht]; exact hP, va_K.moved hW.alike hK⟩, hS.F ht⟩) hS.2.2 de_M_none_17 hlocks
    · have h := ie_f h hc
      refine lv_iconst (v := 1) hx hb de_M_none_12 (by decide) ?_
      refine lv_goto (tgt := 17) hx hb de_M_none_13 (by decide) ?_
      have h := Option.some.inj h
      subst h
      exact W.zret (v := 1) hx hb hr rfl (fun t ht hW => ⟨⟨_, _, rfl, ⟨rfl, rfl⟩, by rw [ht]; exact hP, va_K.moved hW.alike hK⟩, hS.F ht⟩) hS.2.2 de_M_none_17 hlocks
set_option maxHeartbeats 4000000 in
set_option maxRecDepth 100000 in
theorem c_M_instruct (l : Launch) (D : va_G) (aa : Nat → Nat → Nat) (q : Nat → ClassId) (hJ : wJ mC aa) (σ : kS) (x1 : Int32) (x2 : Int32) (x3 : Int32) (x4 : Int32) (res : Int32 × kS) (h : F_M_instruct σ x1 x2 x3 x4 = some res) : Met l by_M_instruct (.code by_M_instruct bc_M_instruct 6 (some .boolean) :: lw_g) brm_M_instruct (va_Pc [.ref (aa 0 0), .int x1, .int x2, .int x3, .int x4] (mPre D aa q σ)) (va_Qi (fun (r : Int32) (u : kS) => r = res.1 ∧ u = res.2) (mB D aa q) (wA mC aa)) 0 0 (wA mC aa) := by
  refine Met.ofW (cc := bc_M_instruct) (maxL := 6) (ret := (some .boolean)) (by decide) rfl ?_
  intro p e s m args below meth c s₁ B hml hv
  obtain ⟨rfl, hP, hK⟩ := hv
  have hx := B.exec
  have hb := B.bytes
  have hr := B.returns
  have ht : ∀ w ∈ lw_g, w.before ([.ref (aa 0 0), .int x1, .int x2, .int x3, .int x4] : List Value).toArray s = true := fun w h => atoms_spec (ws := .code by_M_instruct bc_M_instruct 6 (some .boolean) :: lw_g) B.pre w (List.mem_cons_of_mem _ h)
  have hown : s.vm.findClass bR_M = some m.cls := findClass_of_methodNamed B.named
  have hlocks := B.notSynchronized
  have S : CallFix p m c bc_M_instruct 6 s ([.ref (aa 0 0), .int x1, .int x2, .int x3, .int x4] : List Value).toArray lw_g bR_M := ⟨hx, hb, hml, hown, ht⟩
  have hS : va_S (wA mC aa) s.heap s.heap [] := va_S.rf
  have hl := lv_entry ([.ref (aa 0 0), .int x1, .int x2, .int x3, .int x4]) (n := 6) (Nat.le_of_ble_eq_true rfl)
  rw [lg_entry_eq]
  generalize (lg_sl ([.ref (aa 0 0), .int x1, .int x2, .int x3, .int x4]) ++ List.replicate (6 - (lg_sl ([.ref (aa 0 0), .int x1, .int x2, .int x3, .int x4])).length) Slot.unset).toArray = ls at hl ⊢
  have hl : lv_has ls 6 [(0, .ref (aa 0 0)), (1, .int x1), (2, .int x2), (3, .int x3), (4, .int x4)] := hl
  unfold F_M_instruct at h
  refine lv_aload_n hx hb de_M_instruct_0 rfl (lv_at hl 0 rfl) ?_
  refine lv_iload_n hx hb de_M_instruct_1 rfl (lv_at hl 1 rfl) ?_
  obtain ⟨r1, hr1, h⟩ := bd_some h
  refine mq_i (va_runV (As := [.int x1]) (rest := []) S (c_M_none l D aa q hJ σ x1 r1 hr1) (cwV 1 ht (gv_in tw_3_67 tw_3_69 ts_M_none tw_1_7 tc_M_none) rfl rfl rfl bh_M_none ⟨Nat.le_of_ble_eq_true rfl, Nat.le_of_ble_eq_true rfl⟩) (mpreV hK hP (mr_0 hK hP (by decide))) rfl rfl hl.1 rfl (lv_room (Nat.le_of_ble_eq_true rfl)) de_M_instruct_2 ⟨Nat.zero_le _, Nat.zero_le _⟩) hS (fun H locs hP hS => ?_)
  refine lv_if_ne (tgt := 50) hx hb de_M_instruct_5 (by decide) (fun hc => ?_) (fun hc => ?_)
  · have h := ie_f h hc
    refine lv_iconst (v := 0) hx hb de_M_instruct_50 (by decide) ?_
    have h := Option.some.inj h
    subst h
    exact W.zret (v := 0) hx hb hr rfl (fun t ht hW => ⟨⟨_, _, rfl, ⟨rfl, rfl⟩, by rw [ht]; exact hP, va_K.moved hW.alike hK⟩, hS.F ht⟩) hS.2.2 de_M_instruct_51 hlocks
  · have h := ie_t h hc
    refine lv_aload_n hx hb de_M_instruct_8 rfl (lv_at hl 0 rfl) ?_
    refine mg_0 (v := .ref (aa 6 0)) hx hb ht hown hK hP (by decide) 10 (by decide) tw_2_225 rfl de_M_instruct_9 ?_
    refine lv_iload_n hx hb de_M_instruct_12 rfl (lv_at hl 1 rfl) ?_
    obtain ⟨hi2, h⟩ := gd_some h
    refine ml_6 hx hb hK hP (by decide) (inb_in hi2) de_M_instruct_13 ?_
    refine lv_if_ne (tgt := 50) hx hb de_M_instruct_14 (by decide) (fun hc => ?_) (fun hc => ?_)
    · have h := ie_f h hc
      refine lv_iconst (v := 0) hx hb de_M_instruct_50 (by decide) ?_
      have h := Option.some.inj h
      subst h
      exact W.zret (v := 0) hx hb hr rfl (fun t ht hW => ⟨⟨_, _, rfl, ⟨rfl, rfl⟩, by rw [ht]; exact hP, va_K.moved hW.alike hK⟩, hS.F ht⟩) hS.2.2 de_M_instruct_51 hlocks
    · have h := ie_t h hc
      refine lv_aload_n hx hb de_M_instruct_17 rfl (lv_at hl 0 rfl) ?_
      refine mg_0 (v := .ref (aa 4 0)) hx hb ht hown hK hP (by decide) 8 (by decide) tw_2_223 rfl de_M_instruct_18 ?_
      refine lv_iload_n hx hb de_M_instruct_21 rfl (lv_at hl 1 rfl) ?_
      obtain ⟨hi3, h⟩ := gd_some h
      refine ml_4 hx hb hK hP (by decide) (inb_in hi3) de_M_instruct_22 ?_
      refine lv_bipush (v := 10) hx hb de_M_instruct_23 (by decide) ?_
      refine lv_icmp_eq (tgt := 50) hx hb de_M_instruct_25 (by decide) (fun hc => ?_) (fun hc => ?_)
      · have h := ie_t h hc
        refine lv_iconst (v := 0) hx hb de_M_instruct_50 (by decide) ?_
        have h := Option.some.inj h
        subst h
        exact W.zret (v := 0) hx hb hr rfl (fun t ht hW => ⟨⟨_, _, rfl, ⟨rfl, rfl⟩, by rw [ht]; exact hP, va_K.moved hW.alike hK⟩, hS.F ht⟩) hS.2.2 de_M_instruct_51 hlocks
      · have h := ie_f h hc
        refine lv_aload_n hx hb de_M_instruct_28 rfl (lv_at hl 0 rfl) ?_
        refine lv_iload_n hx hb de_M_instruct_29 rfl (lv_at hl 2 rfl) ?_
        refine lv_iconst (v := 0) hx hb de_M_instruct_30 (by decide) ?_
        refine lv_bipush (v := 9) hx hb de_M_instruct_31 (by decide) ?_
        obtain ⟨r4, hr4, h⟩ := bd_some h
        refine mq_i (va_runV (As := [.int x2, .int 0, .int 9]) (rest := []) S (c_M_within l D aa q hJ σ x2 0 9 r4 hr4) (cwV 3 ht (gv_in tw_3_71 tw_3_73 ts_M_within tw_1_7 tc_M_within) rfl rfl rfl bh_M_within ⟨Nat.le_of_ble_eq_true rfl, Nat.le_of_ble_eq_true rfl⟩) (mpreV hK hP (mr_0 hK hP (by decide))) rfl rfl hl.1 rfl (lv_room (Nat.le_of_ble_eq_true rfl)) de_M_instruct_33 ⟨Nat.zero_le _, Nat.zero_le _⟩) hS (fun H locs hP hS => ?_)
        refine lv_if_eq (tgt := 50) hx hb de_M_instruct_36 (by decide) (fun hc => ?_) (fun hc => ?_)
        · have h := ie_t h hc
          refine lv_iconst (v := 0) hx hb de_M_instruct_50 (by decide) ?_
          have h := Option.some.inj h
          subst h
          exact W.zret (v := 0) hx hb hr rfl (fun t ht hW => ⟨⟨_, _, rfl, ⟨rfl, rfl⟩, by rw [ht]; exact hP, va_K.moved hW.alike hK⟩, hS.F ht⟩) hS.2.2 de_M_instruct_51 hlocks
        · have h := ie_f h hc
          refine lv_aload_n hx hb de_M_instruct_39 rfl (lv_at hl 0 rfl) ?_
          refine lv_iload_n hx hb de_M_instruct_40 rfl (lv_at hl 2 rfl) ?_
          refine lv_iload_n hx hb de_M_instruct_41 rfl (lv_at hl 3 rfl) ?_
          refine lv_iload hx hb de_M_instruct_42 (lv_at hl 4 rfl) ?_
          obtain ⟨r5, hr5, h⟩ := bd_some h
          refine mq_i (va_runV (As := [.int x2, .int x3, .int x4]) (rest := []) S (c_M_fits l D aa q hJ σ x2 x3 x4 r5 hr5) (cwV 3 ht (gv_in tw_3_75 tw_3_77 ts_M_fits tw_1_7 tc_M_fits) rfl rfl rfl bh_M_fits ⟨Nat.le_of_ble_eq_true rfl, Nat.le_of_ble_eq_true rfl⟩) (mpreV hK hP (mr_0 hK hP (by decide))) rfl rfl hl.1 rfl (lv_room (Nat.le_of_ble_eq_true rfl)) de_M_instruct_44 ⟨Nat.zero_le _, Nat.zero_le _⟩) hS (fun H locs hP hS => ?_)
          refine lv_if_ne (tgt := 52) hx hb de_M_instruct_47 (by decide) (fun hc => ?_) (fun hc => ?_)
          · have h := ie_f h hc
            refine lv_bipush (v := 10) hx hb de_M_instruct_52 (by decide) ?_
            refine lv_iload_n hx hb de_M_instruct_54 rfl (lv_at hl 1 rfl) ?_
            refine lv_imul hx hb de_M_instruct_55 ?_
            refine lv_aload_n hx hb de_M_instruct_56 rfl (lv_at hl 0 rfl) ?_
            refine mg_0 (v := .ref (aa 4 0)) hx hb ht hown hK hP (by decide) 8 (by decide) tw_2_223 rfl de_M_instruct_57 ?_
            refine lv_iload_n hx hb de_M_instruct_60 rfl (lv_at hl 1 rfl) ?_
            obtain ⟨hi6, h⟩ := gd_some h
            refine ml_4 hx hb hK hP (by decide) (inb_in hi6) de_M_instruct_61 ?_
            refine lv_iadd hx hb de_M_instruct_62 ?_
            refine lv_topi (fun v7 ev7 => ?_)
            have h := lx_at h v7 ev7
            refine lv_istore (lv' := [(5, .int v7), (0, .ref (aa 0 0)), (1, .int x1), (2, .int x2), (3, .int x3), (4, .int x4)]) hx hb de_M_instruct_63 hl (by decide) rfl (fun ls hl => ?_)
            refine lv_aload_n hx hb de_M_instruct_65 rfl (lv_at hl 1 rfl) ?_
            refine mg_0 (v := .ref (aa 11 0)) hx hb ht hown hK hP (by decide) 15 (by decide) tw_2_230 rfl de_M_instruct_66 ?_
            refine lv_iload hx hb de_M_instruct_69 (lv_at hl 0 rfl) ?_
            refine lv_iload_n hx hb de_M_instruct_71 rfl (lv_at hl 3 rfl) ?_
            obtain ⟨hi8, h⟩ := gd_some h
            refine mt_11 hx hb hK hP hJ hS (by decide) (inb_in hi8) de_M_instruct_72 (fun H locs hP hS => ?_)
            obtain ⟨σ9, eσ9, h⟩ := lx_ex h
            rw [← eσ9] at hP
            refine lv_aload_n hx hb de_M_instruct_73 rfl (lv_at hl 1 rfl) ?_
            refine mg_0 (v := .ref (aa 12 0)) hx hb ht hown hK hP (by decide) 16 (by decide) tw_2_231 rfl de_M_instruct_74 ?_
            refine lv_iload hx hb de_M_instruct_77 (lv_at hl 0 rfl) ?_
            refine lv_iload_n hx hb de_M_instruct_79 rfl (lv_at hl 4 rfl) ?_
            obtain ⟨hi10, h⟩ := gd_some h
            refine mt_12 hx hb hK hP hJ hS (by decide) (inb_in hi10) de_M_instruct_80 (fun H locs hP hS => ?_)
            obtain ⟨σ11, eσ11, h⟩ := lx_ex h
            rw [← eσ11] at hP
            refine lv_aload_n hx hb de_M_instruct_81 rfl (lv_at hl 1 rfl) ?_
            refine mg_0 (v := .ref (aa 13 0)) hx hb ht hown hK hP (by decide) 17 (by decide) tw_2_232 rfl de_M_instruct_82 ?_
            refine lv_iload hx hb de_M_instruct_85 (lv_at hl 0 rfl) ?_
            refine lv_iload hx hb de_M_instruct_87 (lv_at hl 5 rfl) ?_
            obtain ⟨hi12, h⟩ := gd_some h
            refine mt_13 hx hb hK hP hJ hS (by decide) (inb_in hi12) de_M_instruct_89 (fun H locs hP hS => ?_)
            obtain ⟨σ13, eσ13, h⟩ := lx_ex h
            rw [← eσ13] at hP
            refine lv_aload_n hx hb de_M_instruct_90 rfl (lv_at hl 1 rfl) ?_
            refine mg_0 (v := .ref (aa 4 0)) hx hb ht hown hK hP (by decide) 8 (by decide) tw_2_223 rfl de_M_instruct_91 ?_
            refine lv_iload_n hx hb de_M_instruct_94 rfl (lv_at hl 2 rfl) ?_
            refine lv_dup2_11 hx hb de_M_instruct_95 rfl rfl ?_
            obtain ⟨hi14, h⟩ := gd_some h
            refine ml_4 hx hb hK hP (by decide) (inb_in hi14) de_M_instruct_96 ?_
            refine lv_iconst (v := 1) hx hb de_M_instruct_97 (by decide) ?_
            refine lv_iadd hx hb de_M_instruct_98 ?_
            obtain ⟨hi15, h⟩ := gd_some h
            refine mt_4 hx hb hK hP hJ hS (by decide) (inb_in hi15) de_M_instruct_99 (fun H locs hP hS => ?_)
            obtain ⟨σ16, eσ16, h⟩ := lx_ex h
            rw [← eσ16] at hP
            refine lv_iconst (v := 1) hx hb de_M_instruct_100 (by decide) ?_
            have h := Option.some.inj h
            subst h
            exact W.zret (v := 1) hx hb hr rfl (fun t ht hW => ⟨⟨_, _, rfl, ⟨rfl, rfl⟩, by rw [ht]; exact hP, va_K.moved hW.alike hK⟩, hS.F ht⟩) hS.2.2 de_M_instruct_101 hlocks
          · have h := ie_t h hc
            refine lv_iconst (v := 0) hx hb de_M_instruct_50 (by decide) ?_
            have h := Option.some.inj h
            subst h
            exact W.zret (v := 0) hx hb hr rfl (fun t ht hW => ⟨⟨_, _, rfl, ⟨rfl, rfl⟩, by rw [ht]; exact hP, va_K.moved hW.alike hK⟩, hS.F ht⟩) hS.2.2 de_M_instruct_51 hlocks
set_option maxHeartbeats 4000000 in
set_option maxRecDepth 100000 in
theorem w_M_seized_4 {p : Program} {l : Launch} {e : Env} {s : State} {m : MethodId} {args : Array Value} {below : List Frame} {meth : Method} {c : Code} {Q : State → Prop} {D : va_G} {aa : Nat → Nat → Nat} {q : Nat → ClassId} (hJ : wJ mC aa) (S : CallFix p m c bc_M_seized 4 s args lw_g bR_M) (hlocks : meth.locks = false) (hK : va_K D mCl (mT q) s) : ∀ (n : Nat) (σ : kS) (x1 : Int32) (x2 : Int32) (x3 : Int32) (ex : Int32 × Int32) (H : Heap) (locs : List Loc) (ls : Array Slot), lv_has ls 4 [(0, .ref (aa 0 0)), (1, .int x1), (2, .int x2), (3, .int x3)] → va_P D mCl (mW aa q σ) H → va_S (wA mC aa) s.heap H locs → F_M_seized_4 n σ x1 x2 x3 = some ex → (∀ (H1 : Heap) (locs1 : List Loc) (ls1 : Array Slot), lv_has ls1 4 [(0, .ref (aa 0 0)), (1, .int x1), (2, .int ex.1), (3, .int ex.2)] → va_P D mCl (mW aa q σ) H1 → va_S (wA mC aa) s.heap H1 locs1 → W p l e brm_M_seized s m args below meth c H1 locs1 0 0 Q (F0 m 31 ls1 [])) → W p l e brm_M_seized s m args below meth c H locs 0 0 Q (F0 m 4 ls []) := by
  obtain ⟨hx, hb, hml, hown, hts⟩ := id S
  have ht := hts
  intro n
  induction n with
  | zero => intro σ x1 x2 x3 ex H locs ls hl hP hS h k; cases (show (none : Option (Int32 × Int32)) = some ex from h)
  | succ n ih =>
    intro σ x1 x2 x3 ex H locs ls hl hP hS h k
    unfold F_M_seized_4 at h
    refine lv_iload_n hx hb de_M_seized_4 rfl (lv_at hl 3 rfl) ?_
    refine lv_aload_n hx hb de_M_seized_5 rfl (lv_at hl 0 rfl) ?_
    refine mg_0 (v := .int (gI σ 30 0 0)) hx hb ht hown hK hP (by decide) 0 (by decide) tw_2_215 rfl de_M_seized_6 ?_
    refine lv_icmp_ge (tgt := 31) hx hb de_M_seized_9 (by decide) (fun hc => ?_) (fun hc => ?_)
    · have h := ie_t h hc
      have h := Option.some.inj h
      subst h
      exact k _ _ _ (lv_sub hl [0, 1, 2, 3] rfl) hP hS
    · have h := ie_f h hc
      refine lv_iload_n hx hb de_M_seized_12 rfl (lv_at hl 2 rfl) ?_
      refine lv_aload_n hx hb de_M_seized_13 rfl (lv_at hl 0 rfl) ?_
      refine mg_0 (v := .ref (aa 14 0)) hx hb ht hown hK hP (by decide) 18 (by decide) tw_2_233 rfl de_M_seized_14 ?_
      refine lv_iconst (v := 4) hx hb de_M_seized_17 (by decide) ?_
      refine lv_iload_n hx hb de_M_seized_18 rfl (lv_at hl 3 rfl) ?_
      refine lv_imul hx hb de_M_seized_19 ?_
      refine lv_iload_n hx hb de_M_seized_20 rfl (lv_at hl 1 rfl) ?_
      refine lv_iadd hx hb de_M_seized_21 ?_
      obtain ⟨hi1, h⟩ := gd_some h
      refine ml_14 hx hb hK hP (by decide) (inb_in hi1) de_M_seized_22 ?_
      refine lv_iadd hx hb de_M_seized_23 ?_
      refine lv_topi (fun v2 ev2 => ?_)
      have h := lx_at h v2 ev2
      refine lv_istore_n (lv' := [(2, .int v2), (0, .ref (aa 0 0)), (1, .int x1), (3, .int x3)]) hx hb de_M_seized_24 rfl hl (by decide) rfl (fun ls hl => ?_)
      refine lv_iinc (k := 3) (v := x3 + 1) (lv' := [(3, .int (x3 + 1)), (2, .int v2), (0, .ref (aa 0 0)), (1, .int x1)]) hx hb de_M_seized_25 hl rfl (ii_p1 _) (by decide) rfl (fun ls hl => ?_)
      refine lv_goto (tgt := 4) hx hb de_M_seized_28 (by decide) ?_
      exact ih σ x1 v2 (x3 + 1) ex _ _ _ (lv_sub hl [2, 3, 1, 0] rfl) hP hS h k
set_option maxHeartbeats 4000000 in
set_option maxRecDepth 100000 in
theorem c_M_seized (l : Launch) (D : va_G) (aa : Nat → Nat → Nat) (q : Nat → ClassId) (hJ : wJ mC aa) (σ : kS) (x1 : Int32) (res : Int32) (h : F_M_seized σ x1 = some res) : Met l by_M_seized (.code by_M_seized bc_M_seized 4 (some .int) :: lw_g) brm_M_seized (va_Pc [.ref (aa 0 0), .int x1] (mPre D aa q σ)) (va_Qi (fun (r : Int32) (u : kS) => r = res ∧ u = σ) (mB D aa q) (wA mC aa)) 0 0 (wA mC aa) := by
  refine Met.ofW (cc := bc_M_seized) (maxL := 4) (ret := (some .int)) (by decide) rfl ?_
  intro p e s m args below meth c s₁ B hml hv
  obtain ⟨rfl, hP, hK⟩ := hv
  have hx := B.exec
  have hb := B.bytes
  have hr := B.returns
  have ht : ∀ w ∈ lw_g, w.before ([.ref (aa 0 0), .int x1] : List Value).toArray s = true := fun w h => atoms_spec (ws := .code by_M_seized bc_M_seized 4 (some .int) :: lw_g) B.pre w (List.mem_cons_of_mem _ h)
  have hown : s.vm.findClass bR_M = some m.cls := findClass_of_methodNamed B.named
  have hlocks := B.notSynchronized
  have S : CallFix p m c bc_M_seized 4 s ([.ref (aa 0 0), .int x1] : List Value).toArray lw_g bR_M := ⟨hx, hb, hml, hown, ht⟩
  have hS : va_S (wA mC aa) s.heap s.heap [] := va_S.rf
  have hl := lv_entry ([.ref (aa 0 0), .int x1]) (n := 4) (Nat.le_of_ble_eq_true rfl)
  rw [lg_entry_eq]
  generalize (lg_sl ([.ref (aa 0 0), .int x1]) ++ List.replicate (4 - (lg_sl ([.ref (aa 0 0), .int x1])).length) Slot.unset).toArray = ls at hl ⊢
  have hl : lv_has ls 4 [(0, .ref (aa 0 0)), (1, .int x1)] := hl
  unfold F_M_seized at h
  refine lv_iconst (v := 0) hx hb de_M_seized_0 (by decide) ?_
  refine lv_istore_n (lv' := [(2, .int 0), (0, .ref (aa 0 0)), (1, .int x1)]) hx hb de_M_seized_1 rfl hl (by decide) rfl (fun ls hl => ?_)
  refine lv_iconst (v := 0) hx hb de_M_seized_2 (by decide) ?_
  refine lv_istore_n (lv' := [(3, .int 0), (2, .int 0), (0, .ref (aa 0 0)), (1, .int x1)]) hx hb de_M_seized_3 rfl hl (by decide) rfl (fun ls hl => ?_)
  obtain ⟨ex1, hex1, h⟩ := bd_some h
  refine w_M_seized_4 hJ S hlocks hK 1000 σ x1 0 0 ex1 _ _ _ (lv_sub hl [2, 3, 1, 0] rfl) hP hS hex1 (fun H locs ls hl hP hS => ?_)
  refine lv_iload_n hx hb de_M_seized_31 rfl (lv_at hl 2 rfl) ?_
  have h := Option.some.inj h
  subst h
  exact W.iret (v := ex1.1) hx hb hr (fun t ht hW => ⟨⟨_, _, rfl, ⟨rfl, rfl⟩, by rw [ht]; exact hP, va_K.moved hW.alike hK⟩, hS.F ht⟩) hS.2.2 de_M_seized_32 hlocks
set_option maxHeartbeats 4000000 in
set_option maxRecDepth 100000 in
theorem c_M_done (l : Launch) (D : va_G) (aa : Nat → Nat → Nat) (q : Nat → ClassId) (hJ : wJ mC aa) (σ : kS) (x1 : Int32) (res : Int32) (h : F_M_done σ x1 = some res) : Met l by_M_done (.code by_M_done bc_M_done 2 (some .int) :: lw_g) brm_M_done (va_Pc [.ref (aa 0 0), .int x1] (mPre D aa q σ)) (va_Qi (fun (r : Int32) (u : kS) => r = res ∧ u = σ) (mB D aa q) (wA mC aa)) 0 0 (wA mC aa) := by
  refine Met.ofW (cc := bc_M_done) (maxL := 2) (ret := (some .int)) (by decide) rfl ?_
  intro p e s m args below meth c s₁ B hml hv
  obtain ⟨rfl, hP, hK⟩ := hv
  have hx := B.exec
  have hb := B.bytes
  have hr := B.returns
  have ht : ∀ w ∈ lw_g, w.before ([.ref (aa 0 0), .int x1] : List Value).toArray s = true := fun w h => atoms_spec (ws := .code by_M_done bc_M_done 2 (some .int) :: lw_g) B.pre w (List.mem_cons_of_mem _ h)
  have hown : s.vm.findClass bR_M = some m.cls := findClass_of_methodNamed B.named
  have hlocks := B.notSynchronized
  have S : CallFix p m c bc_M_done 2 s ([.ref (aa 0 0), .int x1] : List Value).toArray lw_g bR_M := ⟨hx, hb, hml, hown, ht⟩
  have hS : va_S (wA mC aa) s.heap s.heap [] := va_S.rf
  have hl := lv_entry ([.ref (aa 0 0), .int x1]) (n := 2) (Nat.le_of_ble_eq_true rfl)
  rw [lg_entry_eq]
  generalize (lg_sl ([.ref (aa 0 0), .int x1]) ++ List.replicate (2 - (lg_sl ([.ref (aa 0 0), .int x1])).length) Slot.unset).toArray = ls at hl ⊢
  have hl : lv_has ls 2 [(0, .ref (aa 0 0)), (1, .int x1)] := hl
  unfold F_M_done at h
  refine lv_bipush (v := 10) hx hb de_M_done_0 (by decide) ?_
  refine lv_iload_n hx hb de_M_done_2 rfl (lv_at hl 1 rfl) ?_
  refine lv_imul hx hb de_M_done_3 ?_
  refine lv_aload_n hx hb de_M_done_4 rfl (lv_at hl 0 rfl) ?_
  refine mg_0 (v := .ref (aa 5 0)) hx hb ht hown hK hP (by decide) 9 (by decide) tw_2_224 rfl de_M_done_5 ?_
  refine lv_iload_n hx hb de_M_done_8 rfl (lv_at hl 1 rfl) ?_
  obtain ⟨hi1, h⟩ := gd_some h
  refine ml_5 hx hb hK hP (by decide) (inb_in hi1) de_M_done_9 ?_
  refine lv_iadd hx hb de_M_done_10 ?_
  refine lv_iconst (v := 1) hx hb de_M_done_11 (by decide) ?_
  refine lv_isub hx hb de_M_done_12 ?_
  have h := Option.some.inj h
  subst h
  exact W.iret (v := ((10 * x1) + (gI σ 5 0 x1.toNatClampNeg)) - 1) hx hb hr (fun t ht hW => ⟨⟨_, _, rfl, ⟨rfl, rfl⟩, by rw [ht]; exact hP, va_K.moved hW.alike hK⟩, hS.F ht⟩) hS.2.2 de_M_done_13 hlocks
set_option maxHeartbeats 4000000 in
set_option maxRecDepth 100000 in
theorem w_M_head_4 {p : Program} {l : Launch} {e : Env} {s : State} {m : MethodId} {args : Array Value} {below : List Frame} {meth : Method} {c : Code} {Q : State → Prop} {D : va_G} {aa : Nat → Nat → Nat} {q : Nat → ClassId} (hJ : wJ mC aa) (S : CallFix p m c bc_M_head 4 s args lw_g bR_M) (hlocks : meth.locks = false) (hK : va_K D mCl (mT q) s) : ∀ (n : Nat) (σ : kS) (x1 : Int32) (x2 : Int32) (x3 : Int32) (ex : Int32 × Int32) (H : Heap) (locs : List Loc) (ls : Array Slot), lv_has ls 4 [(0, .ref (aa 0 0)), (1, .int x1), (2, .int x2), (3, .int x3)] → va_P D mCl (mW aa q σ) H → va_S (wA mC aa) s.heap H locs → F_M_head_4 n σ x1 x2 x3 = some ex → (∀ (H1 : Heap) (locs1 : List Loc) (ls1 : Array Slot), lv_has ls1 4 [(0, .ref (aa 0 0)), (1, .int x1), (2, .int ex.1), (3, .int ex.2)] → va_P D mCl (mW aa q σ) H1 → va_S (wA mC aa) s.heap H1 locs1 → W p l e brm_M_head s m args below meth c H1 locs1 0 0 Q (F0 m 93 ls1 [])) → W p l e brm_M_head s m args below meth c H locs 0 0 Q (F0 m 4 ls []) := by
  obtain ⟨hx, hb, hml, hown, hts⟩ := id S
  have ht := hts
  intro n
  induction n with
  | zero => intro σ x1 x2 x3 ex H locs ls hl hP hS h k; cases (show (none : Option (Int32 × Int32)) = some ex from h)
  | succ n ih =>
    intro σ x1 x2 x3 ex H locs ls hl hP hS h k
    unfold F_M_head_4 at h
    refine lv_iload_n hx hb de_M_head_4 rfl (lv_at hl 3 rfl) ?_
    refine lv_aload_n hx hb de_M_head_5 rfl (lv_at hl 0 rfl) ?_
    refine mg_0 (v := .int (gI σ 30 0 0)) hx hb ht hown hK hP (by decide) 0 (by decide) tw_2_215 rfl de_M_head_6 ?_
    refine lv_icmp_ge (tgt := 93) hx hb de_M_head_9 (by decide) (fun hc => ?_) (fun hc => ?_)
    · have h := ie_t h hc
      have h := Option.some.inj h
      subst h
      exact k _ _ _ (lv_sub hl [0, 1, 2, 3] rfl) hP hS
    · have h := ie_f h hc
      refine lv_aload_n hx hb de_M_head_12 rfl (lv_at hl 0 rfl) ?_
      refine mg_0 (v := .ref (aa 6 0)) hx hb ht hown hK hP (by decide) 10 (by decide) tw_2_225 rfl de_M_head_13 ?_
      refine lv_iload_n hx hb de_M_head_16 rfl (lv_at hl 3 rfl) ?_
      obtain ⟨hi1, h⟩ := gd_some h
      refine ml_6 hx hb hK hP (by decide) (inb_in hi1) de_M_head_17 ?_
      refine lv_iconst (v := 4) hx hb de_M_head_18 (by decide) ?_
      refine lv_icmp_ne (tgt := 87) hx hb de_M_head_19 (by decide) (fun hc => ?_) (fun hc => ?_)
      · have h := ie_f h hc
        refine lv_iinc (k := 3) (v := x3 + 1) (lv' := [(3, .int (x3 + 1)), (0, .ref (aa 0 0)), (1, .int x1), (2, .int x2)]) hx hb de_M_head_87 hl rfl (ii_p1 _) (by decide) rfl (fun ls hl => ?_)
        refine lv_goto (tgt := 4) hx hb de_M_head_90 (by decide) ?_
        exact ih σ x1 x2 (x3 + 1) ex _ _ _ (lv_sub hl [1, 2, 3, 0] rfl) hP hS h k
      · have h := ie_t h hc
        refine lv_aload_n hx hb de_M_head_22 rfl (lv_at hl 0 rfl) ?_
        refine mg_0 (v := .ref (aa 12 0)) hx hb ht hown hK hP (by decide) 16 (by decide) tw_2_231 rfl de_M_head_23 ?_
        refine lv_aload_n hx hb de_M_head_26 rfl (lv_at hl 0 rfl) ?_
        refine lv_iload_n hx hb de_M_head_27 rfl (lv_at hl 3 rfl) ?_
        obtain ⟨r2, hr2, h⟩ := bd_some h
        refine mq_i (va_runV (As := [.int x3]) (rest := [.ref (aa 12 0)]) S (c_M_done l D aa q hJ σ x3 r2 hr2) (cwV 1 ht (gv_in tw_3_96 tw_3_98 ts_M_done tw_1_7 tc_M_done) rfl rfl rfl bh_M_done ⟨Nat.le_of_ble_eq_true rfl, Nat.le_of_ble_eq_true rfl⟩) (mpreV hK hP (mr_0 hK hP (by decide))) rfl rfl hl.1 rfl (lv_room (Nat.le_of_ble_eq_true rfl)) de_M_head_28 ⟨Nat.zero_le _, Nat.zero_le _⟩) hS (fun H locs hP hS => ?_)
        obtain ⟨hi3, h⟩ := gd_some h
        refine ml_12 hx hb hK hP (by decide) (inb_in hi3) de_M_head_31 ?_
        refine lv_iload_n hx hb de_M_head_32 rfl (lv_at hl 1 rfl) ?_
        refine lv_icmp_ne (tgt := 87) hx hb de_M_head_33 (by decide) (fun hc => ?_) (fun hc => ?_)
        · have h := ie_f h hc
          refine lv_iinc (k := 3) (v := x3 + 1) (lv' := [(3, .int (x3 + 1)), (0, .ref (aa 0 0)), (1, .int x1), (2, .int x2)]) hx hb de_M_head_87 hl rfl (ii_p1 _) (by decide) rfl (fun ls hl => ?_)
          refine lv_goto (tgt := 4) hx hb de_M_head_90 (by decide) ?_
          exact ih σ x1 x2 (x3 + 1) ex _ _ _ (lv_sub hl [1, 2, 3, 0] rfl) hP hS h k
        · have h := ie_t h hc
          refine lv_iload_n hx hb de_M_head_36 rfl (lv_at hl 2 rfl) ?_
          refine lv_if_lt (tgt := 85) hx hb de_M_head_37 (by decide) (fun hc => ?_) (fun hc => ?_)
          · have h := ie_t h hc
            refine lv_iload_n hx hb de_M_head_85 rfl (lv_at hl 3 rfl) ?_
            refine lv_istore_n (lv' := [(2, .int x3), (0, .ref (aa 0 0)), (1, .int x1), (3, .int x3)]) hx hb de_M_head_86 rfl hl (by decide) rfl (fun ls hl => ?_)
            refine lv_iinc (k := 3) (v := x3 + 1) (lv' := [(3, .int (x3 + 1)), (2, .int x3), (0, .ref (aa 0 0)), (1, .int x1)]) hx hb de_M_head_87 hl rfl (ii_p1 _) (by decide) rfl (fun ls hl => ?_)
            refine lv_goto (tgt := 4) hx hb de_M_head_90 (by decide) ?_
            exact ih σ x1 x3 (x3 + 1) ex _ _ _ (lv_sub hl [2, 3, 1, 0] rfl) hP hS h k
          · have h := ie_f h hc
            refine lv_aload_n hx hb de_M_head_40 rfl (lv_at hl 0 rfl) ?_
            refine mg_0 (v := .ref (aa 1 0)) hx hb ht hown hK hP (by decide) 5 (by decide) tw_2_220 rfl de_M_head_41 ?_
            refine lv_iload_n hx hb de_M_head_44 rfl (lv_at hl 3 rfl) ?_
            obtain ⟨hi4, h⟩ := gd_some h
            refine ml_1 hx hb hK hP (by decide) (inb_in hi4) de_M_head_45 ?_
            refine lv_aload_n hx hb de_M_head_46 rfl (lv_at hl 0 rfl) ?_
            refine mg_0 (v := .ref (aa 1 0)) hx hb ht hown hK hP (by decide) 5 (by decide) tw_2_220 rfl de_M_head_47 ?_
            refine lv_iload_n hx hb de_M_head_50 rfl (lv_at hl 2 rfl) ?_
            obtain ⟨hi5, h⟩ := gd_some h
            refine ml_1 hx hb hK hP (by decide) (inb_in hi5) de_M_head_51 ?_
            refine lv_icmp_lt (tgt := 85) hx hb de_M_head_52 (by decide) (fun hc => ?_) (fun hc => ?_)
            · have h := ie_t h hc
              refine lv_iload_n hx hb de_M_head_85 rfl (lv_at hl 3 rfl) ?_
              refine lv_istore_n (lv' := [(2, .int x3), (0, .ref (aa 0 0)), (1, .int x1), (3, .int x3)]) hx hb de_M_head_86 rfl hl (by decide) rfl (fun ls hl => ?_)
              refine lv_iinc (k := 3) (v := x3 + 1) (lv' := [(3, .int (x3 + 1)), (2, .int x3), (0, .ref (aa 0 0)), (1, .int x1)]) hx hb de_M_head_87 hl rfl (ii_p1 _) (by decide) rfl (fun ls hl => ?_)
              refine lv_goto (tgt := 4) hx hb de_M_head_90 (by decide) ?_
              exact ih σ x1 x3 (x3 + 1) ex _ _ _ (lv_sub hl [2, 3, 1, 0] rfl) hP hS h k
            · have h := ie_f h hc
              refine lv_aload_n hx hb de_M_head_55 rfl (lv_at hl 0 rfl) ?_
              refine mg_0 (v := .ref (aa 1 0)) hx hb ht hown hK hP (by decide) 5 (by decide) tw_2_220 rfl de_M_head_56 ?_
              refine lv_iload_n hx hb de_M_head_59 rfl (lv_at hl 3 rfl) ?_
              obtain ⟨hi6, h⟩ := gd_some h
              refine ml_1 hx hb hK hP (by decide) (inb_in hi6) de_M_head_60 ?_
              refine lv_aload_n hx hb de_M_head_61 rfl (lv_at hl 0 rfl) ?_
              refine mg_0 (v := .ref (aa 1 0)) hx hb ht hown hK hP (by decide) 5 (by decide) tw_2_220 rfl de_M_head_62 ?_
              refine lv_iload_n hx hb de_M_head_65 rfl (lv_at hl 2 rfl) ?_
              obtain ⟨hi7, h⟩ := gd_some h
              refine ml_1 hx hb hK hP (by decide) (inb_in hi7) de_M_head_66 ?_
              refine lv_icmp_ne (tgt := 87) hx hb de_M_head_67 (by decide) (fun hc => ?_) (fun hc => ?_)
              · have h := ie_f h hc
                refine lv_iinc (k := 3) (v := x3 + 1) (lv' := [(3, .int (x3 + 1)), (0, .ref (aa 0 0)), (1, .int x1), (2, .int x2)]) hx hb de_M_head_87 hl rfl (ii_p1 _) (by decide) rfl (fun ls hl => ?_)
                refine lv_goto (tgt := 4) hx hb de_M_head_90 (by decide) ?_
                exact ih σ x1 x2 (x3 + 1) ex _ _ _ (lv_sub hl [1, 2, 3, 0] rfl) hP hS h k
              · have h := ie_t h hc
                refine lv_aload_n hx hb de_M_head_70 rfl (lv_at hl 0 rfl) ?_
                refine mg_0 (v := .ref (aa 9 0)) hx hb ht hown hK hP (by decide) 13 (by decide) tw_2_228 rfl de_M_head_71 ?_
                refine lv_iload_n hx hb de_M_head_74 rfl (lv_at hl 3 rfl) ?_
                obtain ⟨hi8, h⟩ := gd_some h
                refine ml_9 hx hb hK hP (by decide) (inb_in hi8) de_M_head_75 ?_
                refine lv_aload_n hx hb de_M_head_76 rfl (lv_at hl 0 rfl) ?_
                refine mg_0 (v := .ref (aa 9 0)) hx hb ht hown hK hP (by decide) 13 (by decide) tw_2_228 rfl de_M_head_77 ?_
                refine lv_iload_n hx hb de_M_head_80 rfl (lv_at hl 2 rfl) ?_
                obtain ⟨hi9, h⟩ := gd_some h
                refine ml_9 hx hb hK hP (by decide) (inb_in hi9) de_M_head_81 ?_
                refine lv_icmp_ge (tgt := 87) hx hb de_M_head_82 (by decide) (fun hc => ?_) (fun hc => ?_)
                · have h := ie_t h hc
                  refine lv_iinc (k := 3) (v := x3 + 1) (lv' := [(3, .int (x3 + 1)), (0, .ref (aa 0 0)), (1, .int x1), (2, .int x2)]) hx hb de_M_head_87 hl rfl (ii_p1 _) (by decide) rfl (fun ls hl => ?_)
                  refine lv_goto (tgt := 4) hx hb de_M_head_90 (by decide) ?_
                  exact ih σ x1 x2 (x3 + 1) ex _ _ _ (lv_sub hl [1, 2, 3, 0] rfl) hP hS h k
                · have h := ie_f h hc
                  refine lv_iload_n hx hb de_M_head_85 rfl (lv_at hl 3 rfl) ?_
                  refine lv_istore_n (lv' := [(2, .int x3), (0, .ref (aa 0 0)), (1, .int x1), (3, .int x3)]) hx hb de_M_head_86 rfl hl (by decide) rfl (fun ls hl => ?_)
                  refine lv_iinc (k := 3) (v := x3 + 1) (lv' := [(3, .int (x3 + 1)), (2, .int x3), (0, .ref (aa 0 0)), (1, .int x1)]) hx hb de_M_head_87 hl rfl (ii_p1 _) (by decide) rfl (fun ls hl => ?_)
                  refine lv_goto (tgt := 4) hx hb de_M_head_90 (by decide) ?_
                  exact ih σ x1 x3 (x3 + 1) ex _ _ _ (lv_sub hl [2, 3, 1, 0] rfl) hP hS h k
set_option maxHeartbeats 4000000 in
set_option maxRecDepth 100000 in
theorem c_M_head (l : Launch) (D : va_G) (aa : Nat → Nat → Nat) (q : Nat → ClassId) (hJ : wJ mC aa) (σ : kS) (x1 : Int32) (res : Int32) (h : F_M_head σ x1 = some res) : Met l by_M_head (.code by_M_head bc_M_head 4 (some .int) :: lw_g) brm_M_head (va_Pc [.ref (aa 0 0), .int x1] (mPre D aa q σ)) (va_Qi (fun (r : Int32) (u : kS) => r = res ∧ u = σ) (mB D aa q) (wA mC aa)) 0 0 (wA mC aa) := by
  refine Met.ofW (cc := bc_M_head) (maxL := 4) (ret := (some .int)) (by decide) rfl ?_
  intro p e s m args below meth c s₁ B hml hv
  obtain ⟨rfl, hP, hK⟩ := hv
  have hx := B.exec
  have hb := B.bytes
  have hr := B.returns
  have ht : ∀ w ∈ lw_g, w.before ([.ref (aa 0 0), .int x1] : List Value).toArray s = true := fun w h => atoms_spec (ws := .code by_M_head bc_M_head 4 (some .int) :: lw_g) B.pre w (List.mem_cons_of_mem _ h)
  have hown : s.vm.findClass bR_M = some m.cls := findClass_of_methodNamed B.named
  have hlocks := B.notSynchronized
  have S : CallFix p m c bc_M_head 4 s ([.ref (aa 0 0), .int x1] : List Value).toArray lw_g bR_M := ⟨hx, hb, hml, hown, ht⟩
  have hS : va_S (wA mC aa) s.heap s.heap [] := va_S.rf
  have hl := lv_entry ([.ref (aa 0 0), .int x1]) (n := 4) (Nat.le_of_ble_eq_true rfl)
  rw [lg_entry_eq]
  generalize (lg_sl ([.ref (aa 0 0), .int x1]) ++ List.replicate (4 - (lg_sl ([.ref (aa 0 0), .int x1])).length) Slot.unset).toArray = ls at hl ⊢
  have hl : lv_has ls 4 [(0, .ref (aa 0 0)), (1, .int x1)] := hl
  unfold F_M_head at h
  refine lv_iconst (v := (-1)) hx hb de_M_head_0 (by decide) ?_
  refine lv_istore_n (lv' := [(2, .int (-1)), (0, .ref (aa 0 0)), (1, .int x1)]) hx hb de_M_head_1 rfl hl (by decide) rfl (fun ls hl => ?_)
  refine lv_iconst (v := 0) hx hb de_M_head_2 (by decide) ?_
  refine lv_istore_n (lv' := [(3, .int 0), (2, .int (-1)), (0, .ref (aa 0 0)), (1, .int x1)]) hx hb de_M_head_3 rfl hl (by decide) rfl (fun ls hl => ?_)
  obtain ⟨ex1, hex1, h⟩ := bd_some h
  refine w_M_head_4 hJ S hlocks hK 1000 σ x1 (-1) 0 ex1 _ _ _ (lv_sub hl [2, 3, 1, 0] rfl) hP hS hex1 (fun H locs ls hl hP hS => ?_)
  refine lv_iload_n hx hb de_M_head_93 rfl (lv_at hl 2 rfl) ?_
  have h := Option.some.inj h
  subst h
  exact W.iret (v := ex1.1) hx hb hr (fun t ht hW => ⟨⟨_, _, rfl, ⟨rfl, rfl⟩, by rw [ht]; exact hP, va_K.moved hW.alike hK⟩, hS.F ht⟩) hS.2.2 de_M_head_94 hlocks
