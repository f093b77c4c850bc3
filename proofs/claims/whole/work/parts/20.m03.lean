set_option maxHeartbeats 4000000 in
set_option maxRecDepth 100000 in
theorem c_M_release (l : Launch) (D : va_G) (aa : Nat → Nat → Nat) (q : Nat → ClassId) (hJ : wJ mC aa) (σ : kS) (x1 : Int32) (x2 : Int32) (x3 : Int32) (res : kS) (h : F_M_release σ x1 x2 x3 = some res) : Met l by_M_release (.code by_M_release bc_M_release 5 none :: lw_g) brm_M_release (va_Pc [.ref (aa 0 0), .int x1, .int x2, .int x3] (mPre D aa q σ)) (va_Qv (fun u : kS => u = res) (mB D aa q) (wA mC aa)) 0 0 (wA mC aa) := by
  refine Met.ofW (cc := bc_M_release) (maxL := 5) (ret := none) (by decide) rfl ?_
  intro p e s m args below meth c s₁ B hml hv
  obtain ⟨rfl, hP, hK⟩ := hv
  have hx := B.exec
  have hb := B.bytes
  have hr := B.returns
  have ht : ∀ w ∈ lw_g, w.before ([.ref (aa 0 0), .int x1, .int x2, .int x3] : List Value).toArray s = true := fun w h => atoms_spec (ws := .code by_M_release bc_M_release 5 none :: lw_g) B.pre w (List.mem_cons_of_mem _ h)
  have hown : s.vm.findClass bR_M = some m.cls := findClass_of_methodNamed B.named
  have hlocks := B.notSynchronized
  have S : CallFix p m c bc_M_release 5 s ([.ref (aa 0 0), .int x1, .int x2, .int x3] : List Value).toArray lw_g bR_M := ⟨hx, hb, hml, hown, ht⟩
  have hS : va_S (wA mC aa) s.heap s.heap [] := va_S.rf
  have hl := lv_entry ([.ref (aa 0 0), .int x1, .int x2, .int x3]) (n := 5) (Nat.le_of_ble_eq_true rfl)
  rw [lg_entry_eq]
  generalize (lg_sl ([.ref (aa 0 0), .int x1, .int x2, .int x3]) ++ List.replicate (5 - (lg_sl ([.ref (aa 0 0), .int x1, .int x2, .int x3])).length) Slot.unset).toArray = ls at hl ⊢
  have hl : lv_has ls 5 [(0, .ref (aa 0 0)), (1, .int x1), (2, .int x2), (3, .int x3)] := hl
  unfold F_M_release at h
  refine lv_iconst (v := 4) hx hb de_M_release_0 (by decide) ?_
  refine lv_iload_n hx hb de_M_release_1 rfl (lv_at hl 1 rfl) ?_
  refine lv_imul hx hb de_M_release_2 ?_
  refine lv_iload_n hx hb de_M_release_3 rfl (lv_at hl 2 rfl) ?_
  refine lv_iadd hx hb de_M_release_4 ?_
  refine lv_topi (fun v1 ev1 => ?_)
  have h := lx_at h v1 ev1
  refine lv_istore (lv' := [(4, .int v1), (0, .ref (aa 0 0)), (1, .int x1), (2, .int x2), (3, .int x3)]) hx hb de_M_release_5 hl (by decide) rfl (fun ls hl => ?_)
  refine lv_aload_n hx hb de_M_release_7 rfl (lv_at hl 1 rfl) ?_
  refine mg_0 (v := .ref (aa 14 0)) hx hb ht hown hK hP (by decide) 18 (by decide) tw_2_233 rfl de_M_release_8 ?_
  refine lv_iload hx hb de_M_release_11 (lv_at hl 0 rfl) ?_
  refine lv_aload_n hx hb de_M_release_13 rfl (lv_at hl 1 rfl) ?_
  refine mg_0 (v := .ref (aa 14 0)) hx hb ht hown hK hP (by decide) 18 (by decide) tw_2_233 rfl de_M_release_14 ?_
  refine lv_iload hx hb de_M_release_17 (lv_at hl 0 rfl) ?_
  obtain ⟨hi2, h⟩ := gd_some h
  refine ml_14 hx hb hK hP (by decide) (inb_in hi2) de_M_release_19 ?_
  refine lv_iload_n hx hb de_M_release_20 rfl (lv_at hl 4 rfl) ?_
  refine lv_icmp_le (tgt := 36) hx hb de_M_release_21 (by decide) (fun hc => ?_) (fun hc => ?_)
  · have h := ie_t h hc
    refine lv_iconst (v := 0) hx hb de_M_release_36 (by decide) ?_
    obtain ⟨hi3, h⟩ := gd_some h
    refine mt_14 hx hb hK hP hJ hS (by decide) (inb_in hi3) de_M_release_37 (fun H locs hP hS => ?_)
    obtain ⟨σ4, eσ4, h⟩ := lx_ex h
    rw [← eσ4] at hP
    refine lv_aload_n hx hb de_M_release_38 rfl (lv_at hl 1 rfl) ?_
    refine lv_iload_n hx hb de_M_release_39 rfl (lv_at hl 3 rfl) ?_
    obtain ⟨r5, hr5, h⟩ := bd_some h
    refine mq_v (va_runV (As := [.int x2]) (rest := []) S (c_M_serve l D aa q hJ σ4 x2 r5 hr5) (cwV 1 ht (gv_in tw_3_88 tw_3_90 ts_M_serve tw_1_7 tc_M_serve) rfl rfl rfl bh_M_serve ⟨Nat.le_of_ble_eq_true rfl, Nat.le_of_ble_eq_true rfl⟩) (mpreV hK hP (mr_0 hK hP (by decide))) rfl rfl hl.1 rfl (lv_room (Nat.le_of_ble_eq_true rfl)) de_M_release_40 ⟨Nat.zero_le _, Nat.zero_le _⟩) hS (fun H locs hP hS => ?_)
    have h := Option.some.inj h
    subst h
    exact W.vret hx hb hr (fun t ht hW => ⟨⟨_, rfl, rfl, by rw [ht]; exact hP, va_K.moved hW.alike hK⟩, hS.F ht⟩) hS.2.2 de_M_release_43 hlocks
  · have h := ie_f h hc
    refine lv_aload_n hx hb de_M_release_24 rfl (lv_at hl 1 rfl) ?_
    refine mg_0 (v := .ref (aa 14 0)) hx hb ht hown hK hP (by decide) 18 (by decide) tw_2_233 rfl de_M_release_25 ?_
    refine lv_iload hx hb de_M_release_28 (lv_at hl 0 rfl) ?_
    obtain ⟨hi6, h⟩ := gd_some h
    refine ml_14 hx hb hK hP (by decide) (inb_in hi6) de_M_release_30 ?_
    refine lv_iload_n hx hb de_M_release_31 rfl (lv_at hl 4 rfl) ?_
    refine lv_isub hx hb de_M_release_32 ?_
    refine lv_goto (tgt := 37) hx hb de_M_release_33 (by decide) ?_
    obtain ⟨hi7, h⟩ := gd_some h
    refine mt_14 hx hb hK hP hJ hS (by decide) (inb_in hi7) de_M_release_37 (fun H locs hP hS => ?_)
    obtain ⟨σ8, eσ8, h⟩ := lx_ex h
    rw [← eσ8] at hP
    refine lv_aload_n hx hb de_M_release_38 rfl (lv_at hl 1 rfl) ?_
    refine lv_iload_n hx hb de_M_release_39 rfl (lv_at hl 3 rfl) ?_
    obtain ⟨r9, hr9, h⟩ := bd_some h
    refine mq_v (va_runV (As := [.int x2]) (rest := []) S (c_M_serve l D aa q hJ σ8 x2 r9 hr9) (cwV 1 ht (gv_in tw_3_88 tw_3_90 ts_M_serve tw_1_7 tc_M_serve) rfl rfl rfl bh_M_serve ⟨Nat.le_of_ble_eq_true rfl, Nat.le_of_ble_eq_true rfl⟩) (mpreV hK hP (mr_0 hK hP (by decide))) rfl rfl hl.1 rfl (lv_room (Nat.le_of_ble_eq_true rfl)) de_M_release_40 ⟨Nat.zero_le _, Nat.zero_le _⟩) hS (fun H locs hP hS => ?_)
    have h := Option.some.inj h
    subst h
    exact W.vret hx hb hr (fun t ht hW => ⟨⟨_, rfl, rfl, by rw [ht]; exact hP, va_K.moved hW.alike hK⟩, hS.F ht⟩) hS.2.2 de_M_release_43 hlocks
set_option maxHeartbeats 4000000 in
set_option maxRecDepth 100000 in
theorem c_M_holds (l : Launch) (D : va_G) (aa : Nat → Nat → Nat) (q : Nat → ClassId) (hJ : wJ mC aa) (σ : kS) (x1 : Int32) (res : Int32) (h : F_M_holds σ x1 = some res) : Met l by_M_holds (.code by_M_holds bc_M_holds 3 (some .boolean) :: lw_g) brm_M_holds (va_Pc [.ref (aa 0 0), .int x1] (mPre D aa q σ)) (va_Qi (fun (r : Int32) (u : kS) => r = res ∧ u = σ) (mB D aa q) (wA mC aa)) 0 0 (wA mC aa) := by
  refine Met.ofW (cc := bc_M_holds) (maxL := 3) (ret := (some .boolean)) (by decide) rfl ?_
  intro p e s m args below meth c s₁ B hml hv
  obtain ⟨rfl, hP, hK⟩ := hv
  have hx := B.exec
  have hb := B.bytes
  have hr := B.returns
  have ht : ∀ w ∈ lw_g, w.before ([.ref (aa 0 0), .int x1] : List Value).toArray s = true := fun w h => atoms_spec (ws := .code by_M_holds bc_M_holds 3 (some .boolean) :: lw_g) B.pre w (List.mem_cons_of_mem _ h)
  have hown : s.vm.findClass bR_M = some m.cls := findClass_of_methodNamed B.named
  have hlocks := B.notSynchronized
  have S : CallFix p m c bc_M_holds 3 s ([.ref (aa 0 0), .int x1] : List Value).toArray lw_g bR_M := ⟨hx, hb, hml, hown, ht⟩
  have hS : va_S (wA mC aa) s.heap s.heap [] := va_S.rf
  have hl := lv_entry ([.ref (aa 0 0), .int x1]) (n := 3) (Nat.le_of_ble_eq_true rfl)
  rw [lg_entry_eq]
  generalize (lg_sl ([.ref (aa 0 0), .int x1]) ++ List.replicate (3 - (lg_sl ([.ref (aa 0 0), .int x1])).length) Slot.unset).toArray = ls at hl ⊢
  have hl : lv_has ls 3 [(0, .ref (aa 0 0)), (1, .int x1)] := hl
  unfold F_M_holds at h
  refine lv_aload_n hx hb de_M_holds_0 rfl (lv_at hl 0 rfl) ?_
  refine mg_0 (v := .ref (aa 12 0)) hx hb ht hown hK hP (by decide) 16 (by decide) tw_2_231 rfl de_M_holds_1 ?_
  refine lv_iload_n hx hb de_M_holds_4 rfl (lv_at hl 1 rfl) ?_
  obtain ⟨hi1, h⟩ := gd_some h
  refine ml_12 hx hb hK hP (by decide) (inb_in hi1) de_M_holds_5 ?_
  refine lv_topi (fun v2 ev2 => ?_)
  have h := lx_at h v2 ev2
  refine lv_istore_n (lv' := [(2, .int v2), (0, .ref (aa 0 0)), (1, .int x1)]) hx hb de_M_holds_6 rfl hl (by decide) rfl (fun ls hl => ?_)
  refine lv_aload_n hx hb de_M_holds_7 rfl (lv_at hl 1 rfl) ?_
  refine mg_0 (v := .ref (aa 11 0)) hx hb ht hown hK hP (by decide) 15 (by decide) tw_2_230 rfl de_M_holds_8 ?_
  refine lv_iload_n hx hb de_M_holds_11 rfl (lv_at hl 2 rfl) ?_
  obtain ⟨hi3, h⟩ := gd_some h
  refine ml_11 hx hb hK hP (by decide) (inb_in hi3) de_M_holds_12 ?_
  refine lv_iconst (v := 4) hx hb de_M_holds_13 (by decide) ?_
  refine lv_icmp_ne (tgt := 45) hx hb de_M_holds_14 (by decide) (fun hc => ?_) (fun hc => ?_)
  · have h := ie_f h hc
    refine lv_aload_n hx hb de_M_holds_45 rfl (lv_at hl 1 rfl) ?_
    refine mg_0 (v := .ref (aa 11 0)) hx hb ht hown hK hP (by decide) 15 (by decide) tw_2_230 rfl de_M_holds_46 ?_
    refine lv_iload_n hx hb de_M_holds_49 rfl (lv_at hl 2 rfl) ?_
    obtain ⟨hi4, h⟩ := gd_some h
    refine ml_11 hx hb hK hP (by decide) (inb_in hi4) de_M_holds_50 ?_
    refine lv_iconst (v := 5) hx hb de_M_holds_51 (by decide) ?_
    refine lv_icmp_ne (tgt := 76) hx hb de_M_holds_52 (by decide) (fun hc => ?_) (fun hc => ?_)
    · have h := ie_f h hc
      refine lv_iload_n hx hb de_M_holds_76 rfl (lv_at hl 0 rfl) ?_
      refine lv_aload_n hx hb de_M_holds_77 rfl (lv_at hl 1 rfl) ?_
      refine mg_0 (v := .int (gI σ 30 0 0)) hx hb ht hown hK hP (by decide) 0 (by decide) tw_2_215 rfl de_M_holds_78 ?_
      refine lv_icmp_ge (tgt := 95) hx hb de_M_holds_81 (by decide) (fun hc => ?_) (fun hc => ?_)
      · have h := ie_t h hc
        refine lv_iconst (v := 1) hx hb de_M_holds_95 (by decide) ?_
        refine lv_goto (tgt := 100) hx hb de_M_holds_96 (by decide) ?_
        have h := Option.some.inj h
        subst h
        exact W.zret (v := 1) hx hb hr rfl (fun t ht hW => ⟨⟨_, _, rfl, ⟨rfl, rfl⟩, by rw [ht]; exact hP, va_K.moved hW.alike hK⟩, hS.F ht⟩) hS.2.2 de_M_holds_100 hlocks
      · have h := ie_f h hc
        refine lv_aload_n hx hb de_M_holds_84 rfl (lv_at hl 1 rfl) ?_
        refine mg_0 (v := .ref (aa 6 0)) hx hb ht hown hK hP (by decide) 10 (by decide) tw_2_225 rfl de_M_holds_85 ?_
        refine lv_iload_n hx hb de_M_holds_88 rfl (lv_at hl 0 rfl) ?_
        obtain ⟨hi5, h⟩ := gd_some h
        refine ml_6 hx hb hK hP (by decide) (inb_in hi5) de_M_holds_89 ?_
        refine lv_bipush (v := 6) hx hb de_M_holds_90 (by decide) ?_
        refine lv_icmp_lt (tgt := 99) hx hb de_M_holds_92 (by decide) (fun hc => ?_) (fun hc => ?_)
        · have h := ie_t h hc
          refine lv_iconst (v := 0) hx hb de_M_holds_99 (by decide) ?_
          have h := Option.some.inj h
          subst h
          exact W.zret (v := 0) hx hb hr rfl (fun t ht hW => ⟨⟨_, _, rfl, ⟨rfl, rfl⟩, by rw [ht]; exact hP, va_K.moved hW.alike hK⟩, hS.F ht⟩) hS.2.2 de_M_holds_100 hlocks
        · have h := ie_f h hc
          refine lv_iconst (v := 1) hx hb de_M_holds_95 (by decide) ?_
          refine lv_goto (tgt := 100) hx hb de_M_holds_96 (by decide) ?_
          have h := Option.some.inj h
          subst h
          exact W.zret (v := 1) hx hb hr rfl (fun t ht hW => ⟨⟨_, _, rfl, ⟨rfl, rfl⟩, by rw [ht]; exact hP, va_K.moved hW.alike hK⟩, hS.F ht⟩) hS.2.2 de_M_holds_100 hlocks
    · have h := ie_t h hc
      refine lv_aload_n hx hb de_M_holds_55 rfl (lv_at hl 1 rfl) ?_
      refine mg_0 (v := .ref (aa 20 0)) hx hb ht hown hK hP (by decide) 24 (by decide) tw_2_239 rfl de_M_holds_56 ?_
      refine lv_iload_n hx hb de_M_holds_59 rfl (lv_at hl 0 rfl) ?_
      obtain ⟨hi6, h⟩ := gd_some h
      refine ml_20 hx hb hK hP (by decide) (inb_in hi6) de_M_holds_60 ?_
      refine lv_aload_n hx hb de_M_holds_61 rfl (lv_at hl 1 rfl) ?_
      refine mg_0 (v := .ref (aa 13 0)) hx hb ht hown hK hP (by decide) 17 (by decide) tw_2_232 rfl de_M_holds_62 ?_
      refine lv_iload_n hx hb de_M_holds_65 rfl (lv_at hl 2 rfl) ?_
      obtain ⟨hi7, h⟩ := gd_some h
      refine ml_13 hx hb hK hP (by decide) (inb_in hi7) de_M_holds_66 ?_
      refine lv_icmp_lt (tgt := 74) hx hb de_M_holds_67 (by decide) (fun hc => ?_) (fun hc => ?_)
      · have h := ie_t h hc
        refine lv_iconst (v := 0) hx hb de_M_holds_74 (by decide) ?_
        have h := Option.some.inj h
        subst h
        exact W.zret (v := 0) hx hb hr rfl (fun t ht hW => ⟨⟨_, _, rfl, ⟨rfl, rfl⟩, by rw [ht]; exact hP, va_K.moved hW.alike hK⟩, hS.F ht⟩) hS.2.2 de_M_holds_75 hlocks
      · have h := ie_f h hc
        refine lv_iconst (v := 1) hx hb de_M_holds_70 (by decide) ?_
        refine lv_goto (tgt := 75) hx hb de_M_holds_71 (by decide) ?_
        have h := Option.some.inj h
        subst h
        exact W.zret (v := 1) hx hb hr rfl (fun t ht hW => ⟨⟨_, _, rfl, ⟨rfl, rfl⟩, by rw [ht]; exact hP, va_K.moved hW.alike hK⟩, hS.F ht⟩) hS.2.2 de_M_holds_75 hlocks
  · have h := ie_t h hc
    refine lv_aload_n hx hb de_M_holds_17 rfl (lv_at hl 1 rfl) ?_
    refine mg_0 (v := .ref (aa 20 0)) hx hb ht hown hK hP (by decide) 24 (by decide) tw_2_239 rfl de_M_holds_18 ?_
    refine lv_iload_n hx hb de_M_holds_21 rfl (lv_at hl 0 rfl) ?_
    obtain ⟨hi8, h⟩ := gd_some h
    refine ml_20 hx hb hK hP (by decide) (inb_in hi8) de_M_holds_22 ?_
    refine lv_aload_n hx hb de_M_holds_23 rfl (lv_at hl 1 rfl) ?_
    refine mg_0 (v := .ref (aa 13 0)) hx hb ht hown hK hP (by decide) 17 (by decide) tw_2_232 rfl de_M_holds_24 ?_
    refine lv_iload_n hx hb de_M_holds_27 rfl (lv_at hl 2 rfl) ?_
    obtain ⟨hi9, h⟩ := gd_some h
    refine ml_13 hx hb hK hP (by decide) (inb_in hi9) de_M_holds_28 ?_
    refine lv_iadd hx hb de_M_holds_29 ?_
    refine lv_aload_n hx hb de_M_holds_30 rfl (lv_at hl 1 rfl) ?_
    refine mg_0 (v := .ref (aa 19 0)) hx hb ht hown hK hP (by decide) 23 (by decide) tw_2_238 rfl de_M_holds_31 ?_
    refine lv_iload_n hx hb de_M_holds_34 rfl (lv_at hl 0 rfl) ?_
    obtain ⟨hi10, h⟩ := gd_some h
    refine ml_19 hx hb hK hP (by decide) (inb_in hi10) de_M_holds_35 ?_
    refine lv_icmp_gt (tgt := 43) hx hb de_M_holds_36 (by decide) (fun hc => ?_) (fun hc => ?_)
    · have h := ie_t h hc
      refine lv_iconst (v := 0) hx hb de_M_holds_43 (by decide) ?_
      have h := Option.some.inj h
      subst h
      exact W.zret (v := 0) hx hb hr rfl (fun t ht hW => ⟨⟨_, _, rfl, ⟨rfl, rfl⟩, by rw [ht]; exact hP, va_K.moved hW.alike hK⟩, hS.F ht⟩) hS.2.2 de_M_holds_44 hlocks
    · have h := ie_f h hc
      refine lv_iconst (v := 1) hx hb de_M_holds_39 (by decide) ?_
      refine lv_goto (tgt := 44) hx hb de_M_holds_40 (by decide) ?_
      have h := Option.some.inj h
      subst h
      exact W.zret (v := 1) hx hb hr rfl (fun t ht hW => ⟨⟨_, _, rfl, ⟨rfl, rfl⟩, by rw [ht]; exact hP, va_K.moved hW.alike hK⟩, hS.F ht⟩) hS.2.2 de_M_holds_44 hlocks
set_option maxHeartbeats 4000000 in
set_option maxRecDepth 100000 in
theorem c_M_pour (l : Launch) (D : va_G) (aa : Nat → Nat → Nat) (q : Nat → ClassId) (hJ : wJ mC aa) (σ : kS) (x1 : Int32) (res : kS) (h : F_M_pour σ x1 = some res) : Met l by_M_pour (.code by_M_pour bc_M_pour 2 none :: lw_g) brm_M_pour (va_Pc [.ref (aa 0 0), .int x1] (mPre D aa q σ)) (va_Qv (fun u : kS => u = res) (mB D aa q) (wA mC aa)) 0 0 (wA mC aa) := by
  refine Met.ofW (cc := bc_M_pour) (maxL := 2) (ret := none) (by decide) rfl ?_
  intro p e s m args below meth c s₁ B hml hv
  obtain ⟨rfl, hP, hK⟩ := hv
  have hx := B.exec
  have hb := B.bytes
  have hr := B.returns
  have ht : ∀ w ∈ lw_g, w.before ([.ref (aa 0 0), .int x1] : List Value).toArray s = true := fun w h => atoms_spec (ws := .code by_M_pour bc_M_pour 2 none :: lw_g) B.pre w (List.mem_cons_of_mem _ h)
  have hown : s.vm.findClass bR_M = some m.cls := findClass_of_methodNamed B.named
  have hlocks := B.notSynchronized
  have S : CallFix p m c bc_M_pour 2 s ([.ref (aa 0 0), .int x1] : List Value).toArray lw_g bR_M := ⟨hx, hb, hml, hown, ht⟩
  have hS : va_S (wA mC aa) s.heap s.heap [] := va_S.rf
  have hl := lv_entry ([.ref (aa 0 0), .int x1]) (n := 2) (Nat.le_of_ble_eq_true rfl)
  rw [lg_entry_eq]
  generalize (lg_sl ([.ref (aa 0 0), .int x1]) ++ List.replicate (2 - (lg_sl ([.ref (aa 0 0), .int x1])).length) Slot.unset).toArray = ls at hl ⊢
  have hl : lv_has ls 2 [(0, .ref (aa 0 0)), (1, .int x1)] := hl
  unfold F_M_pour at h
  refine lv_aload_n hx hb de_M_pour_0 rfl (lv_at hl 0 rfl) ?_
  refine mg_0 (v := .ref (aa 11 0)) hx hb ht hown hK hP (by decide) 15 (by decide) tw_2_230 rfl de_M_pour_1 ?_
  refine lv_iload_n hx hb de_M_pour_4 rfl (lv_at hl 1 rfl) ?_
  obtain ⟨hi1, h⟩ := gd_some h
  refine ml_11 hx hb hK hP (by decide) (inb_in hi1) de_M_pour_5 ?_
  refine lv_bipush (v := 6) hx hb de_M_pour_6 (by decide) ?_
  refine lv_icmp_ge (tgt := 51) hx hb de_M_pour_8 (by decide) (fun hc => ?_) (fun hc => ?_)
  · have h := ie_t h hc
    have h := Option.some.inj h
    subst h
    exact W.vret hx hb hr (fun t ht hW => ⟨⟨_, rfl, rfl, by rw [ht]; exact hP, va_K.moved hW.alike hK⟩, hS.F ht⟩) hS.2.2 de_M_pour_51 hlocks
  · have h := ie_f h hc
    refine lv_aload_n hx hb de_M_pour_11 rfl (lv_at hl 0 rfl) ?_
    refine mg_0 (v := .ref (aa 20 0)) hx hb ht hown hK hP (by decide) 24 (by decide) tw_2_239 rfl de_M_pour_12 ?_
    refine lv_aload_n hx hb de_M_pour_15 rfl (lv_at hl 0 rfl) ?_
    refine mg_0 (v := .ref (aa 12 0)) hx hb ht hown hK hP (by decide) 16 (by decide) tw_2_231 rfl de_M_pour_16 ?_
    refine lv_iload_n hx hb de_M_pour_19 rfl (lv_at hl 1 rfl) ?_
    obtain ⟨hi2, h⟩ := gd_some h
    refine ml_12 hx hb hK hP (by decide) (inb_in hi2) de_M_pour_20 ?_
    refine lv_dup2_11 hx hb de_M_pour_21 rfl rfl ?_
    obtain ⟨hi3, h⟩ := gd_some h
    refine ml_20 hx hb hK hP (by decide) (inb_in hi3) de_M_pour_22 ?_
    refine lv_aload_n hx hb de_M_pour_23 rfl (lv_at hl 0 rfl) ?_
    refine mg_0 (v := .ref (aa 11 0)) hx hb ht hown hK hP (by decide) 15 (by decide) tw_2_230 rfl de_M_pour_24 ?_
    refine lv_iload_n hx hb de_M_pour_27 rfl (lv_at hl 1 rfl) ?_
    obtain ⟨hi4, h⟩ := gd_some h
    refine ml_11 hx hb hK hP (by decide) (inb_in hi4) de_M_pour_28 ?_
    refine lv_iconst (v := 4) hx hb de_M_pour_29 (by decide) ?_
    refine lv_icmp_ne (tgt := 42) hx hb de_M_pour_30 (by decide) (fun hc => ?_) (fun hc => ?_)
    · have h := ie_f h hc
      refine lv_aload_n hx hb de_M_pour_42 rfl (lv_at hl 0 rfl) ?_
      refine mg_0 (v := .ref (aa 13 0)) hx hb ht hown hK hP (by decide) 17 (by decide) tw_2_232 rfl de_M_pour_43 ?_
      refine lv_iload_n hx hb de_M_pour_46 rfl (lv_at hl 1 rfl) ?_
      obtain ⟨hi5, h⟩ := gd_some h
      refine ml_13 hx hb hK hP (by decide) (inb_in hi5) de_M_pour_47 ?_
      refine lv_ineg hx hb de_M_pour_48 ?_
      refine lv_iadd hx hb de_M_pour_49 ?_
      obtain ⟨hi6, h⟩ := gd_some h
      refine mt_20 hx hb hK hP hJ hS (by decide) (inb_in hi6) de_M_pour_50 (fun H locs hP hS => ?_)
      obtain ⟨σ7, eσ7, h⟩ := lx_ex h
      rw [← eσ7] at hP
      have h := Option.some.inj h
      subst h
      exact W.vret hx hb hr (fun t ht hW => ⟨⟨_, rfl, rfl, by rw [ht]; exact hP, va_K.moved hW.alike hK⟩, hS.F ht⟩) hS.2.2 de_M_pour_51 hlocks
    · have h := ie_t h hc
      refine lv_aload_n hx hb de_M_pour_33 rfl (lv_at hl 0 rfl) ?_
      refine mg_0 (v := .ref (aa 13 0)) hx hb ht hown hK hP (by decide) 17 (by decide) tw_2_232 rfl de_M_pour_34 ?_
      refine lv_iload_n hx hb de_M_pour_37 rfl (lv_at hl 1 rfl) ?_
      obtain ⟨hi8, h⟩ := gd_some h
      refine ml_13 hx hb hK hP (by decide) (inb_in hi8) de_M_pour_38 ?_
      refine lv_goto (tgt := 49) hx hb de_M_pour_39 (by decide) ?_
      refine lv_iadd hx hb de_M_pour_49 ?_
      obtain ⟨hi9, h⟩ := gd_some h
      refine mt_20 hx hb hK hP hJ hS (by decide) (inb_in hi9) de_M_pour_50 (fun H locs hP hS => ?_)
      obtain ⟨σ10, eσ10, h⟩ := lx_ex h
      rw [← eσ10] at hP
      have h := Option.some.inj h
      subst h
      exact W.vret hx hb hr (fun t ht hW => ⟨⟨_, rfl, rfl, by rw [ht]; exact hP, va_K.moved hW.alike hK⟩, hS.F ht⟩) hS.2.2 de_M_pour_51 hlocks
set_option maxHeartbeats 4000000 in
set_option maxRecDepth 100000 in
theorem w_M_goOver_15 {p : Program} {l : Launch} {e : Env} {s : State} {m : MethodId} {args : Array Value} {below : List Frame} {meth : Method} {c : Code} {Q : State → Prop} {D : va_G} {aa : Nat → Nat → Nat} {q : Nat → ClassId} (hJ : wJ mC aa) (S : CallFix p m c bc_M_goOver 5 s args lw_g bR_M) (hlocks : meth.locks = false) (hK : va_K D mCl (mT q) s) : ∀ (n : Nat) (σ : kS) (x1 : Int32) (x2 : Int32) (x3 : Int32) (x4 : Int32) (ex : Int32 × Int32) (H : Heap) (locs : List Loc) (ls : Array Slot), lv_has ls 5 [(0, .ref (aa 0 0)), (1, .int x1), (2, .int x2), (3, .int x3), (4, .int x4)] → va_P D mCl (mW aa q σ) H → va_S (wA mC aa) s.heap H locs → F_M_goOver_15 n σ x1 x2 x3 x4 = some ex → (∀ (H1 : Heap) (locs1 : List Loc) (ls1 : Array Slot), lv_has ls1 5 [(0, .ref (aa 0 0)), (1, .int x1), (2, .int x2), (3, .int ex.1), (4, .int ex.2)] → va_P D mCl (mW aa q σ) H1 → va_S (wA mC aa) s.heap H1 locs1 → W p l e brm_M_goOver s m args below meth c H1 locs1 0 0 Q (F0 m 75 ls1 [])) → W p l e brm_M_goOver s m args below meth c H locs 0 0 Q (F0 m 15 ls []) := by
  obtain ⟨hx, hb, hml, hown, hts⟩ := id S
  have ht := hts
  intro n
  induction n with
  | zero => intro σ x1 x2 x3 x4 ex H locs ls hl hP hS h k; cases (show (none : Option (Int32 × Int32)) = some ex from h)
  | succ n ih =>
    intro σ x1 x2 x3 x4 ex H locs ls hl hP hS h k
    unfold F_M_goOver_15 at h
    refine lv_iload hx hb de_M_goOver_15 (lv_at hl 4 rfl) ?_
    refine lv_aload_n hx hb de_M_goOver_17 rfl (lv_at hl 0 rfl) ?_
    refine mg_0 (v := .int (gI σ 30 0 0)) hx hb ht hown hK hP (by decide) 0 (by decide) tw_2_215 rfl de_M_goOver_18 ?_
    refine lv_icmp_ge (tgt := 75) hx hb de_M_goOver_21 (by decide) (fun hc => ?_) (fun hc => ?_)
    · have h := ie_t h hc
      have h := Option.some.inj h
      subst h
      exact k _ _ _ (lv_sub hl [0, 1, 2, 3, 4] rfl) hP hS
    · have h := ie_f h hc
      refine lv_aload_n hx hb de_M_goOver_24 rfl (lv_at hl 0 rfl) ?_
      refine mg_0 (v := .ref (aa 6 0)) hx hb ht hown hK hP (by decide) 10 (by decide) tw_2_225 rfl de_M_goOver_25 ?_
      refine lv_iload hx hb de_M_goOver_28 (lv_at hl 4 rfl) ?_
      obtain ⟨hi1, h⟩ := gd_some h
      refine ml_6 hx hb hK hP (by decide) (inb_in hi1) de_M_goOver_30 ?_
      refine lv_iconst (v := 5) hx hb de_M_goOver_31 (by decide) ?_
      refine lv_icmp_ne (tgt := 69) hx hb de_M_goOver_32 (by decide) (fun hc => ?_) (fun hc => ?_)
      · have h := ie_f h hc
        refine lv_iinc (k := 4) (v := x4 + 1) (lv' := [(4, .int (x4 + 1)), (0, .ref (aa 0 0)), (1, .int x1), (2, .int x2), (3, .int x3)]) hx hb de_M_goOver_69 hl rfl (ii_p1 _) (by decide) rfl (fun ls hl => ?_)
        refine lv_goto (tgt := 15) hx hb de_M_goOver_72 (by decide) ?_
        exact ih σ x1 x2 x3 (x4 + 1) ex _ _ _ (lv_sub hl [1, 2, 3, 4, 0] rfl) hP hS h k
      · have h := ie_t h hc
        refine lv_aload_n hx hb de_M_goOver_35 rfl (lv_at hl 0 rfl) ?_
        refine mg_0 (v := .ref (aa 9 0)) hx hb ht hown hK hP (by decide) 13 (by decide) tw_2_228 rfl de_M_goOver_36 ?_
        refine lv_iload hx hb de_M_goOver_39 (lv_at hl 4 rfl) ?_
        obtain ⟨hi2, h⟩ := gd_some h
        refine ml_9 hx hb hK hP (by decide) (inb_in hi2) de_M_goOver_41 ?_
        refine lv_iload_n hx hb de_M_goOver_42 rfl (lv_at hl 1 rfl) ?_
        refine lv_icmp_le (tgt := 69) hx hb de_M_goOver_43 (by decide) (fun hc => ?_) (fun hc => ?_)
        · have h := ie_t h hc
          refine lv_iinc (k := 4) (v := x4 + 1) (lv' := [(4, .int (x4 + 1)), (0, .ref (aa 0 0)), (1, .int x1), (2, .int x2), (3, .int x3)]) hx hb de_M_goOver_69 hl rfl (ii_p1 _) (by decide) rfl (fun ls hl => ?_)
          refine lv_goto (tgt := 15) hx hb de_M_goOver_72 (by decide) ?_
          exact ih σ x1 x2 x3 (x4 + 1) ex _ _ _ (lv_sub hl [1, 2, 3, 4, 0] rfl) hP hS h k
        · have h := ie_f h hc
          refine lv_iload_n hx hb de_M_goOver_46 rfl (lv_at hl 3 rfl) ?_
          refine lv_if_lt (tgt := 66) hx hb de_M_goOver_47 (by decide) (fun hc => ?_) (fun hc => ?_)
          · have h := ie_t h hc
            refine lv_iload hx hb de_M_goOver_66 (lv_at hl 4 rfl) ?_
            refine lv_istore_n (lv' := [(3, .int x4), (0, .ref (aa 0 0)), (1, .int x1), (2, .int x2), (4, .int x4)]) hx hb de_M_goOver_68 rfl hl (by decide) rfl (fun ls hl => ?_)
            refine lv_iinc (k := 4) (v := x4 + 1) (lv' := [(4, .int (x4 + 1)), (3, .int x4), (0, .ref (aa 0 0)), (1, .int x1), (2, .int x2)]) hx hb de_M_goOver_69 hl rfl (ii_p1 _) (by decide) rfl (fun ls hl => ?_)
            refine lv_goto (tgt := 15) hx hb de_M_goOver_72 (by decide) ?_
            exact ih σ x1 x2 x4 (x4 + 1) ex _ _ _ (lv_sub hl [2, 3, 4, 1, 0] rfl) hP hS h k
          · have h := ie_f h hc
            refine lv_aload_n hx hb de_M_goOver_50 rfl (lv_at hl 0 rfl) ?_
            refine mg_0 (v := .ref (aa 9 0)) hx hb ht hown hK hP (by decide) 13 (by decide) tw_2_228 rfl de_M_goOver_51 ?_
            refine lv_iload hx hb de_M_goOver_54 (lv_at hl 4 rfl) ?_
            obtain ⟨hi3, h⟩ := gd_some h
            refine ml_9 hx hb hK hP (by decide) (inb_in hi3) de_M_goOver_56 ?_
            refine lv_aload_n hx hb de_M_goOver_57 rfl (lv_at hl 0 rfl) ?_
            refine mg_0 (v := .ref (aa 9 0)) hx hb ht hown hK hP (by decide) 13 (by decide) tw_2_228 rfl de_M_goOver_58 ?_
            refine lv_iload_n hx hb de_M_goOver_61 rfl (lv_at hl 3 rfl) ?_
            obtain ⟨hi4, h⟩ := gd_some h
            refine ml_9 hx hb hK hP (by decide) (inb_in hi4) de_M_goOver_62 ?_
            refine lv_icmp_ge (tgt := 69) hx hb de_M_goOver_63 (by decide) (fun hc => ?_) (fun hc => ?_)
            · have h := ie_t h hc
              refine lv_iinc (k := 4) (v := x4 + 1) (lv' := [(4, .int (x4 + 1)), (0, .ref (aa 0 0)), (1, .int x1), (2, .int x2), (3, .int x3)]) hx hb de_M_goOver_69 hl rfl (ii_p1 _) (by decide) rfl (fun ls hl => ?_)
              refine lv_goto (tgt := 15) hx hb de_M_goOver_72 (by decide) ?_
              exact ih σ x1 x2 x3 (x4 + 1) ex _ _ _ (lv_sub hl [1, 2, 3, 4, 0] rfl) hP hS h k
            · have h := ie_f h hc
              refine lv_iload hx hb de_M_goOver_66 (lv_at hl 4 rfl) ?_
              refine lv_istore_n (lv' := [(3, .int x4), (0, .ref (aa 0 0)), (1, .int x1), (2, .int x2), (4, .int x4)]) hx hb de_M_goOver_68 rfl hl (by decide) rfl (fun ls hl => ?_)
              refine lv_iinc (k := 4) (v := x4 + 1) (lv' := [(4, .int (x4 + 1)), (3, .int x4), (0, .ref (aa 0 0)), (1, .int x1), (2, .int x2)]) hx hb de_M_goOver_69 hl rfl (ii_p1 _) (by decide) rfl (fun ls hl => ?_)
              refine lv_goto (tgt := 15) hx hb de_M_goOver_72 (by decide) ?_
              exact ih σ x1 x2 x4 (x4 + 1) ex _ _ _ (lv_sub hl [2, 3, 4, 1, 0] rfl) hP hS h k
set_option maxHeartbeats 4000000 in
set_option maxRecDepth 100000 in
theorem w_M_goOver_4 {p : Program} {l : Launch} {e : Env} {s : State} {m : MethodId} {args : Array Value} {below : List Frame} {meth : Method} {c : Code} {Q : State → Prop} {D : va_G} {aa : Nat → Nat → Nat} {q : Nat → ClassId} (hJ : wJ mC aa) (S : CallFix p m c bc_M_goOver 5 s args lw_g bR_M) (hlocks : meth.locks = false) (hK : va_K D mCl (mT q) s) : ∀ (n : Nat) (σ : kS) (x1 : Int32) (x2 : Int32) (ex : Nat × kS × Int32 × Int32) (H : Heap) (locs : List Loc) (ls : Array Slot), lv_has ls 5 [(0, .ref (aa 0 0)), (1, .int x1), (2, .int x2)] → va_P D mCl (mW aa q σ) H → va_S (wA mC aa) s.heap H locs → F_M_goOver_4 n σ x1 x2 = some ex → (∀ (H1 : Heap) (locs1 : List Loc) (ls1 : Array Slot), lv_has ls1 5 [(0, .ref (aa 0 0)), (1, .int ex.2.2.1), (2, .int ex.2.2.2)] → va_P D mCl (mW aa q ex.2.1) H1 → va_S (wA mC aa) s.heap H1 locs1 → (ex.1 = 0 → W p l e brm_M_goOver s m args below meth c H1 locs1 0 0 Q (F0 m 79 ls1 [])) ∧ (ex.1 = 1 → W p l e brm_M_goOver s m args below meth c H1 locs1 0 0 Q (F0 m 124 ls1 []))) → W p l e brm_M_goOver s m args below meth c H locs 0 0 Q (F0 m 4 ls []) := by
  obtain ⟨hx, hb, hml, hown, hts⟩ := id S
  have ht := hts
  intro n
  induction n with
  | zero => intro σ x1 x2 ex H locs ls hl hP hS h k; cases (show (none : Option (Nat × kS × Int32 × Int32)) = some ex from h)
  | succ n ih =>
    intro σ x1 x2 ex H locs ls hl hP hS h k
    unfold F_M_goOver_4 at h
    refine lv_iload_n hx hb de_M_goOver_4 rfl (lv_at hl 2 rfl) ?_
    refine lv_bipush (v := 12) hx hb de_M_goOver_5 (by decide) ?_
    refine lv_icmp_ge (tgt := 124) hx hb de_M_goOver_7 (by decide) (fun hc => ?_) (fun hc => ?_)
    · have h := ie_t h hc
      have h := Option.some.inj h
      subst h
      exact (k _ _ _ (lv_sub hl [0, 1, 2] rfl) hP hS).2 rfl
    · have h := ie_f h hc
      refine lv_iconst (v := (-1)) hx hb de_M_goOver_10 (by decide) ?_
      refine lv_istore_n (lv' := [(3, .int (-1)), (0, .ref (aa 0 0)), (1, .int x1), (2, .int x2)]) hx hb de_M_goOver_11 rfl hl (by decide) rfl (fun ls hl => ?_)
      refine lv_iconst (v := 0) hx hb de_M_goOver_12 (by decide) ?_
      refine lv_istore (lv' := [(4, .int 0), (3, .int (-1)), (0, .ref (aa 0 0)), (1, .int x1), (2, .int x2)]) hx hb de_M_goOver_13 hl (by decide) rfl (fun ls hl => ?_)
      obtain ⟨ex1, hex1, h⟩ := bd_some h
      refine w_M_goOver_15 hJ S hlocks hK 1000 σ x1 x2 (-1) 0 ex1 _ _ _ (lv_sub hl [2, 3, 4, 1, 0] rfl) hP hS hex1 (fun H locs ls hl hP hS => ?_)
      refine lv_iload_n hx hb de_M_goOver_75 rfl (lv_at hl 3 rfl) ?_
      refine lv_if_ge (tgt := 80) hx hb de_M_goOver_76 (by decide) (fun hc => ?_) (fun hc => ?_)
      · have h := ie_t h hc
        refine lv_aload_n hx hb de_M_goOver_80 rfl (lv_at hl 0 rfl) ?_
        refine mg_0 (v := .ref (aa 9 0)) hx hb ht hown hK hP (by decide) 13 (by decide) tw_2_228 rfl de_M_goOver_81 ?_
        refine lv_iload_n hx hb de_M_goOver_84 rfl (lv_at hl 3 rfl) ?_
        obtain ⟨hi2, h⟩ := gd_some h
        refine ml_9 hx hb hK hP (by decide) (inb_in hi2) de_M_goOver_85 ?_
        refine lv_topi (fun v3 ev3 => ?_)
        have h := lx_at h v3 ev3
        refine lv_istore_n (lv' := [(1, .int v3), (0, .ref (aa 0 0)), (2, .int x2), (3, .int ex1.1), (4, .int ex1.2)]) hx hb de_M_goOver_86 rfl hl (by decide) rfl (fun ls hl => ?_)
        refine lv_aload_n hx hb de_M_goOver_87 rfl (lv_at hl 1 rfl) ?_
        refine lv_aload_n hx hb de_M_goOver_88 rfl (lv_at hl 1 rfl) ?_
        refine lv_iload_n hx hb de_M_goOver_89 rfl (lv_at hl 3 rfl) ?_
        obtain ⟨r4, hr4, h⟩ := bd_some h
        refine mq_i (va_runV (As := [.int ex1.1]) (rest := [.ref (aa 0 0)]) S (c_M_done l D aa q hJ σ ex1.1 r4 hr4) (cwV 1 ht (gv_in tw_3_96 tw_3_98 ts_M_done tw_1_7 tc_M_done) rfl rfl rfl bh_M_done ⟨Nat.le_of_ble_eq_true rfl, Nat.le_of_ble_eq_true rfl⟩) (mpreV hK hP (mr_0 hK hP (by decide))) rfl rfl hl.1 rfl (lv_room (Nat.le_of_ble_eq_true rfl)) de_M_goOver_90 ⟨Nat.zero_le _, Nat.zero_le _⟩) hS (fun H locs hP hS => ?_)
        obtain ⟨r5, hr5, h⟩ := bd_some h
        refine mq_i (va_runV (As := [.int r4]) (rest := []) S (c_M_holds l D aa q hJ σ r4 r5 hr5) (cwV 1 ht (gv_in tw_3_173 tw_3_175 ts_M_holds tw_1_7 tc_M_holds) rfl rfl rfl bh_M_holds ⟨Nat.le_of_ble_eq_true rfl, Nat.le_of_ble_eq_true rfl⟩) (mpreV hK hP (mr_0 hK hP (by decide))) rfl rfl hl.1 rfl (lv_room (Nat.le_of_ble_eq_true rfl)) de_M_goOver_93 ⟨Nat.zero_le _, Nat.zero_le _⟩) hS (fun H locs hP hS => ?_)
        refine lv_if_eq (tgt := 118) hx hb de_M_goOver_96 (by decide) (fun hc => ?_) (fun hc => ?_)
        · have h := ie_t h hc
          refine lv_iinc (k := 2) (v := x2 + 1) (lv' := [(2, .int (x2 + 1)), (1, .int v3), (0, .ref (aa 0 0)), (3, .int ex1.1), (4, .int ex1.2)]) hx hb de_M_goOver_118 hl rfl (ii_p1 _) (by decide) rfl (fun ls hl => ?_)
          refine lv_goto (tgt := 4) hx hb de_M_goOver_121 (by decide) ?_
          exact ih σ v3 (x2 + 1) ex _ _ _ (lv_sub hl [2, 1, 0] rfl) hP hS h k
        · have h := ie_f h hc
          refine lv_aload_n hx hb de_M_goOver_99 rfl (lv_at hl 1 rfl) ?_
          refine lv_aload_n hx hb de_M_goOver_100 rfl (lv_at hl 1 rfl) ?_
          refine lv_iload_n hx hb de_M_goOver_101 rfl (lv_at hl 3 rfl) ?_
          obtain ⟨r6, hr6, h⟩ := bd_some h
          refine mq_i (va_runV (As := [.int ex1.1]) (rest := [.ref (aa 0 0)]) S (c_M_done l D aa q hJ σ ex1.1 r6 hr6) (cwV 1 ht (gv_in tw_3_96 tw_3_98 ts_M_done tw_1_7 tc_M_done) rfl rfl rfl bh_M_done ⟨Nat.le_of_ble_eq_true rfl, Nat.le_of_ble_eq_true rfl⟩) (mpreV hK hP (mr_0 hK hP (by decide))) rfl rfl hl.1 rfl (lv_room (Nat.le_of_ble_eq_true rfl)) de_M_goOver_102 ⟨Nat.zero_le _, Nat.zero_le _⟩) hS (fun H locs hP hS => ?_)
          obtain ⟨r7, hr7, h⟩ := bd_some h
          refine mq_v (va_runV (As := [.int r6]) (rest := []) S (c_M_pour l D aa q hJ σ r6 r7 hr7) (cwV 1 ht (gv_in tw_3_177 tw_3_179 ts_M_pour tw_1_7 tc_M_pour) rfl rfl rfl bh_M_pour ⟨Nat.le_of_ble_eq_true rfl, Nat.le_of_ble_eq_true rfl⟩) (mpreV hK hP (mr_0 hK hP (by decide))) rfl rfl hl.1 rfl (lv_room (Nat.le_of_ble_eq_true rfl)) de_M_goOver_105 ⟨Nat.zero_le _, Nat.zero_le _⟩) hS (fun H locs hP hS => ?_)
          refine lv_aload_n hx hb de_M_goOver_108 rfl (lv_at hl 1 rfl) ?_
          refine lv_iload_n hx hb de_M_goOver_109 rfl (lv_at hl 3 rfl) ?_
          refine lv_iconst (v := 1) hx hb de_M_goOver_110 (by decide) ?_
          refine lv_aload_n hx hb de_M_goOver_111 rfl (lv_at hl 1 rfl) ?_
          refine mg_0 (v := .long (gL r7 0 0 0)) hx hb ht hown hK hP (by decide) 4 (by decide) tw_2_219 rfl de_M_goOver_112 ?_
          obtain ⟨r8, hr8, h⟩ := bd_some h
          refine mq_v (va_runV (As := [.int ex1.1, .int 1, .long (gL r7 0 0 0)]) (rest := []) S (c_M_enter l D aa q hJ r7 ex1.1 1 (gL r7 0 0 0) r8 hr8) (cwV 3 ht (gv_in tw_3_104 tw_3_106 ts_M_enter tw_1_7 tc_M_enter) rfl rfl rfl bh_M_enter ⟨Nat.le_of_ble_eq_true rfl, Nat.le_of_ble_eq_true rfl⟩) (mpreV hK hP (mr_0 hK hP (by decide))) rfl rfl hl.1 rfl (lv_room (Nat.le_of_ble_eq_true rfl)) de_M_goOver_115 ⟨Nat.zero_le _, Nat.zero_le _⟩) hS (fun H locs hP hS => ?_)
          refine lv_iinc (k := 2) (v := x2 + 1) (lv' := [(2, .int (x2 + 1)), (1, .int v3), (0, .ref (aa 0 0)), (3, .int ex1.1), (4, .int ex1.2)]) hx hb de_M_goOver_118 hl rfl (ii_p1 _) (by decide) rfl (fun ls hl => ?_)
          refine lv_goto (tgt := 4) hx hb de_M_goOver_121 (by decide) ?_
          exact ih r8 v3 (x2 + 1) ex _ _ _ (lv_sub hl [2, 1, 0] rfl) hP hS h k
      · have h := ie_f h hc
        have h := Option.some.inj h
        subst h
        exact (k _ _ _ (lv_sub hl [0, 1, 2] rfl) hP hS).1 rfl
set_option maxHeartbeats 4000000 in
set_option maxRecDepth 100000 in
theorem c_M_goOver (l : Launch) (D : va_G) (aa : Nat → Nat → Nat) (q : Nat → ClassId) (hJ : wJ mC aa) (σ : kS) (res : kS) (h : F_M_goOver σ = some res) : Met l by_M_goOver (.code by_M_goOver bc_M_goOver 5 none :: lw_g) brm_M_goOver (va_Pc [.ref (aa 0 0)] (mPre D aa q σ)) (va_Qv (fun u : kS => u = res) (mB D aa q) (wA mC aa)) 0 0 (wA mC aa) := by
  refine Met.ofW (cc := bc_M_goOver) (maxL := 5) (ret := none) (by decide) rfl ?_
  intro p e s m args below meth c s₁ B hml hv
  obtain ⟨rfl, hP, hK⟩ := hv
  have hx := B.exec
  have hb := B.bytes
  have hr := B.returns
  have ht : ∀ w ∈ lw_g, w.before ([.ref (aa 0 0)] : List Value).toArray s = true := fun w h => atoms_spec (ws := .code by_M_goOver bc_M_goOver 5 none :: lw_g) B.pre w (List.mem_cons_of_mem _ h)
  have hown : s.vm.findClass bR_M = some m.cls := findClass_of_methodNamed B.named
  have hlocks := B.notSynchronized
  have S : CallFix p m c bc_M_goOver 5 s ([.ref (aa 0 0)] : List Value).toArray lw_g bR_M := ⟨hx, hb, hml, hown, ht⟩
  have hS : va_S (wA mC aa) s.heap s.heap [] := va_S.rf
  have hl := lv_entry ([.ref (aa 0 0)]) (n := 5) (Nat.le_of_ble_eq_true rfl)
  rw [lg_entry_eq]
  generalize (lg_sl ([.ref (aa 0 0)]) ++ List.replicate (5 - (lg_sl ([.ref (aa 0 0)])).length) Slot.unset).toArray = ls at hl ⊢
  have hl : lv_has ls 5 [(0, .ref (aa 0 0))] := hl
  unfold F_M_goOver at h
  refine lv_iconst (v := (-1)) hx hb de_M_goOver_0 (by decide) ?_
  refine lv_istore_n (lv' := [(1, .int (-1)), (0, .ref (aa 0 0))]) hx hb de_M_goOver_1 rfl hl (by decide) rfl (fun ls hl => ?_)
  refine lv_iconst (v := 0) hx hb de_M_goOver_2 (by decide) ?_
  refine lv_istore_n (lv' := [(2, .int 0), (1, .int (-1)), (0, .ref (aa 0 0))]) hx hb de_M_goOver_3 rfl hl (by decide) rfl (fun ls hl => ?_)
  obtain ⟨ex1, hex1, h⟩ := bd_some h
  refine w_M_goOver_4 hJ S hlocks hK 1000 σ (-1) 0 ex1 _ _ _ (lv_sub hl [2, 1, 0] rfl) hP hS hex1 (fun H locs ls hl hP hS => ⟨fun he => ?_, fun he => ?_⟩)
  · have h := ie_t h he
    have h := Option.some.inj h
    subst h
    exact W.vret hx hb hr (fun t ht hW => ⟨⟨_, rfl, rfl, by rw [ht]; exact hP, va_K.moved hW.alike hK⟩, hS.F ht⟩) hS.2.2 de_M_goOver_79 hlocks
  · have h := ie_f h (by rw [he]; decide)
    have h := Option.some.inj h
    subst h
    exact W.vret hx hb hr (fun t ht hW => ⟨⟨_, rfl, rfl, by rw [ht]; exact hP, va_K.moved hW.alike hK⟩, hS.F ht⟩) hS.2.2 de_M_goOver_124 hlocks
set_option maxHeartbeats 4000000 in
set_option maxRecDepth 100000 in
theorem c_M_activate (l : Launch) (D : va_G) (aa : Nat → Nat → Nat) (q : Nat → ClassId) (hJ : wJ mC aa) (σ : kS) (x1 : Int32) (x2 : Int32) (res : Int32 × kS) (h : F_M_activate σ x1 x2 = some res) : Met l by_M_activate (.code by_M_activate bc_M_activate 3 (some .boolean) :: lw_g) brm_M_activate (va_Pc [.ref (aa 0 0), .int x1, .int x2] (mPre D aa q σ)) (va_Qi (fun (r : Int32) (u : kS) => r = res.1 ∧ u = res.2) (mB D aa q) (wA mC aa)) 0 0 (wA mC aa) := by
  refine Met.ofW (cc := bc_M_activate) (maxL := 3) (ret := (some .boolean)) (by decide) rfl ?_
  intro p e s m args below meth c s₁ B hml hv
  obtain ⟨rfl, hP, hK⟩ := hv
  have hx := B.exec
  have hb := B.bytes
  have hr := B.returns
  have ht : ∀ w ∈ lw_g, w.before ([.ref (aa 0 0), .int x1, .int x2] : List Value).toArray s = true := fun w h => atoms_spec (ws := .code by_M_activate bc_M_activate 3 (some .boolean) :: lw_g) B.pre w (List.mem_cons_of_mem _ h)
  have hown : s.vm.findClass bR_M = some m.cls := findClass_of_methodNamed B.named
  have hlocks := B.notSynchronized
  have S : CallFix p m c bc_M_activate 3 s ([.ref (aa 0 0), .int x1, .int x2] : List Value).toArray lw_g bR_M := ⟨hx, hb, hml, hown, ht⟩
  have hS : va_S (wA mC aa) s.heap s.heap [] := va_S.rf
  have hl := lv_entry ([.ref (aa 0 0), .int x1, .int x2]) (n := 3) (Nat.le_of_ble_eq_true rfl)
  rw [lg_entry_eq]
  generalize (lg_sl ([.ref (aa 0 0), .int x1, .int x2]) ++ List.replicate (3 - (lg_sl ([.ref (aa 0 0), .int x1, .int x2])).length) Slot.unset).toArray = ls at hl ⊢
  have hl : lv_has ls 3 [(0, .ref (aa 0 0)), (1, .int x1), (2, .int x2)] := hl
  unfold F_M_activate at h
  refine lv_aload_n hx hb de_M_activate_0 rfl (lv_at hl 0 rfl) ?_
  refine lv_iload_n hx hb de_M_activate_1 rfl (lv_at hl 1 rfl) ?_
  obtain ⟨r1, hr1, h⟩ := bd_some h
  refine mq_i (va_runV (As := [.int x1]) (rest := []) S (c_M_none l D aa q hJ σ x1 r1 hr1) (cwV 1 ht (gv_in tw_3_67 tw_3_69 ts_M_none tw_1_7 tc_M_none) rfl rfl rfl bh_M_none ⟨Nat.le_of_ble_eq_true rfl, Nat.le_of_ble_eq_true rfl⟩) (mpreV hK hP (mr_0 hK hP (by decide))) rfl rfl hl.1 rfl (lv_room (Nat.le_of_ble_eq_true rfl)) de_M_activate_2 ⟨Nat.zero_le _, Nat.zero_le _⟩) hS (fun H locs hP hS => ?_)
  refine lv_if_ne (tgt := 38) hx hb de_M_activate_5 (by decide) (fun hc => ?_) (fun hc => ?_)
  · have h := ie_f h hc
    refine lv_iconst (v := 0) hx hb de_M_activate_38 (by decide) ?_
    have h := Option.some.inj h
    subst h
    exact W.zret (v := 0) hx hb hr rfl (fun t ht hW => ⟨⟨_, _, rfl, ⟨rfl, rfl⟩, by rw [ht]; exact hP, va_K.moved hW.alike hK⟩, hS.F ht⟩) hS.2.2 de_M_activate_39 hlocks
  · have h := ie_t h hc
    refine lv_aload_n hx hb de_M_activate_8 rfl (lv_at hl 0 rfl) ?_
    refine mg_0 (v := .ref (aa 6 0)) hx hb ht hown hK hP (by decide) 10 (by decide) tw_2_225 rfl de_M_activate_9 ?_
    refine lv_iload_n hx hb de_M_activate_12 rfl (lv_at hl 1 rfl) ?_
    obtain ⟨hi2, h⟩ := gd_some h
    refine ml_6 hx hb hK hP (by decide) (inb_in hi2) de_M_activate_13 ?_
    refine lv_if_eq (tgt := 27) hx hb de_M_activate_14 (by decide) (fun hc => ?_) (fun hc => ?_)
    · have h := ie_t h hc
      refine lv_aload_n hx hb de_M_activate_27 rfl (lv_at hl 0 rfl) ?_
      refine lv_iload_n hx hb de_M_activate_28 rfl (lv_at hl 2 rfl) ?_
      refine lv_iconst (v := 0) hx hb de_M_activate_29 (by decide) ?_
      refine lv_ldc (v := 1000000) hx hb hown (ht _ tw_3_79) de_M_activate_30 ?_
      obtain ⟨r3, hr3, h⟩ := bd_some h
      refine mq_i (va_runV (As := [.int x2, .int 0, .int 1000000]) (rest := []) S (c_M_within l D aa q hJ σ x2 0 1000000 r3 hr3) (cwV 3 ht (gv_in tw_3_71 tw_3_73 ts_M_within tw_1_7 tc_M_within) rfl rfl rfl bh_M_within ⟨Nat.le_of_ble_eq_true rfl, Nat.le_of_ble_eq_true rfl⟩) (mpreV hK hP (mr_0 hK hP (by decide))) rfl rfl hl.1 rfl (lv_room (Nat.le_of_ble_eq_true rfl)) de_M_activate_32 ⟨Nat.zero_le _, Nat.zero_le _⟩) hS (fun H locs hP hS => ?_)
      refine lv_if_ne (tgt := 40) hx hb de_M_activate_35 (by decide) (fun hc => ?_) (fun hc => ?_)
      · have h := ie_f h hc
        refine lv_aload_n hx hb de_M_activate_40 rfl (lv_at hl 0 rfl) ?_
        refine lv_iload_n hx hb de_M_activate_41 rfl (lv_at hl 1 rfl) ?_
        refine lv_iconst (v := 1) hx hb de_M_activate_42 (by decide) ?_
        refine lv_aload_n hx hb de_M_activate_43 rfl (lv_at hl 0 rfl) ?_
        refine mg_0 (v := .long (gL σ 0 0 0)) hx hb ht hown hK hP (by decide) 4 (by decide) tw_2_219 rfl de_M_activate_44 ?_
        refine lv_iload_n hx hb de_M_activate_47 rfl (lv_at hl 2 rfl) ?_
        refine lv_i2l (v := x2.toInt64) hx hb de_M_activate_48 rfl ?_
        refine lv_ladd hx hb de_M_activate_49 ?_
        obtain ⟨r4, hr4, h⟩ := bd_some h
        refine mq_v (va_runV (As := [.int x1, .int 1, .long ((gL σ 0 0 0) + x2.toInt64)]) (rest := []) S (c_M_enter l D aa q hJ σ x1 1 ((gL σ 0 0 0) + x2.toInt64) r4 hr4) (cwV 3 ht (gv_in tw_3_104 tw_3_106 ts_M_enter tw_1_7 tc_M_enter) rfl rfl rfl bh_M_enter ⟨Nat.le_of_ble_eq_true rfl, Nat.le_of_ble_eq_true rfl⟩) (mpreV hK hP (mr_0 hK hP (by decide))) rfl rfl hl.1 rfl (lv_room (Nat.le_of_ble_eq_true rfl)) de_M_activate_50 ⟨Nat.zero_le _, Nat.zero_le _⟩) hS (fun H locs hP hS => ?_)
        refine lv_iconst (v := 1) hx hb de_M_activate_53 (by decide) ?_
        have h := Option.some.inj h
        subst h
        exact W.zret (v := 1) hx hb hr rfl (fun t ht hW => ⟨⟨_, _, rfl, ⟨rfl, rfl⟩, by rw [ht]; exact hP, va_K.moved hW.alike hK⟩, hS.F ht⟩) hS.2.2 de_M_activate_54 hlocks
      · have h := ie_t h hc
        refine lv_iconst (v := 0) hx hb de_M_activate_38 (by decide) ?_
        have h := Option.some.inj h
        subst h
        exact W.zret (v := 0) hx hb hr rfl (fun t ht hW => ⟨⟨_, _, rfl, ⟨rfl, rfl⟩, by rw [ht]; exact hP, va_K.moved hW.alike hK⟩, hS.F ht⟩) hS.2.2 de_M_activate_39 hlocks
    · have h := ie_f h hc
      refine lv_aload_n hx hb de_M_activate_17 rfl (lv_at hl 0 rfl) ?_
      refine mg_0 (v := .ref (aa 6 0)) hx hb ht hown hK hP (by decide) 10 (by decide) tw_2_225 rfl de_M_activate_18 ?_
      refine lv_iload_n hx hb de_M_activate_21 rfl (lv_at hl 1 rfl) ?_
      obtain ⟨hi5, h⟩ := gd_some h
      refine ml_6 hx hb hK hP (by decide) (inb_in hi5) de_M_activate_22 ?_
      refine lv_iconst (v := 3) hx hb de_M_activate_23 (by decide) ?_
      refine lv_icmp_ne (tgt := 38) hx hb de_M_activate_24 (by decide) (fun hc => ?_) (fun hc => ?_)
      · have h := ie_f h hc
        refine lv_iconst (v := 0) hx hb de_M_activate_38 (by decide) ?_
        have h := Option.some.inj h
        subst h
        exact W.zret (v := 0) hx hb hr rfl (fun t ht hW => ⟨⟨_, _, rfl, ⟨rfl, rfl⟩, by rw [ht]; exact hP, va_K.moved hW.alike hK⟩, hS.F ht⟩) hS.2.2 de_M_activate_39 hlocks
      · have h := ie_t h hc
        refine lv_aload_n hx hb de_M_activate_27 rfl (lv_at hl 0 rfl) ?_
        refine lv_iload_n hx hb de_M_activate_28 rfl (lv_at hl 2 rfl) ?_
        refine lv_iconst (v := 0) hx hb de_M_activate_29 (by decide) ?_
        refine lv_ldc (v := 1000000) hx hb hown (ht _ tw_3_79) de_M_activate_30 ?_
        obtain ⟨r6, hr6, h⟩ := bd_some h
        refine mq_i (va_runV (As := [.int x2, .int 0, .int 1000000]) (rest := []) S (c_M_within l D aa q hJ σ x2 0 1000000 r6 hr6) (cwV 3 ht (gv_in tw_3_71 tw_3_73 ts_M_within tw_1_7 tc_M_within) rfl rfl rfl bh_M_within ⟨Nat.le_of_ble_eq_true rfl, Nat.le_of_ble_eq_true rfl⟩) (mpreV hK hP (mr_0 hK hP (by decide))) rfl rfl hl.1 rfl (lv_room (Nat.le_of_ble_eq_true rfl)) de_M_activate_32 ⟨Nat.zero_le _, Nat.zero_le _⟩) hS (fun H locs hP hS => ?_)
        refine lv_if_ne (tgt := 40) hx hb de_M_activate_35 (by decide) (fun hc => ?_) (fun hc => ?_)
        · have h := ie_f h hc
          refine lv_aload_n hx hb de_M_activate_40 rfl (lv_at hl 0 rfl) ?_
          refine lv_iload_n hx hb de_M_activate_41 rfl (lv_at hl 1 rfl) ?_
          refine lv_iconst (v := 1) hx hb de_M_activate_42 (by decide) ?_
          refine lv_aload_n hx hb de_M_activate_43 rfl (lv_at hl 0 rfl) ?_
          refine mg_0 (v := .long (gL σ 0 0 0)) hx hb ht hown hK hP (by decide) 4 (by decide) tw_2_219 rfl de_M_activate_44 ?_
          refine lv_iload_n hx hb de_M_activate_47 rfl (lv_at hl 2 rfl) ?_
          refine lv_i2l (v := x2.toInt64) hx hb de_M_activate_48 rfl ?_
          refine lv_ladd hx hb de_M_activate_49 ?_
          obtain ⟨r7, hr7, h⟩ := bd_some h
          refine mq_v (va_runV (As := [.int x1, .int 1, .long ((gL σ 0 0 0) + x2.toInt64)]) (rest := []) S (c_M_enter l D aa q hJ σ x1 1 ((gL σ 0 0 0) + x2.toInt64) r7 hr7) (cwV 3 ht (gv_in tw_3_104 tw_3_106 ts_M_enter tw_1_7 tc_M_enter) rfl rfl rfl bh_M_enter ⟨Nat.le_of_ble_eq_true rfl, Nat.le_of_ble_eq_true rfl⟩) (mpreV hK hP (mr_0 hK hP (by decide))) rfl rfl hl.1 rfl (lv_room (Nat.le_of_ble_eq_true rfl)) de_M_activate_50 ⟨Nat.zero_le _, Nat.zero_le _⟩) hS (fun H locs hP hS => ?_)
          refine lv_iconst (v := 1) hx hb de_M_activate_53 (by decide) ?_
          have h := Option.some.inj h
          subst h
          exact W.zret (v := 1) hx hb hr rfl (fun t ht hW => ⟨⟨_, _, rfl, ⟨rfl, rfl⟩, by rw [ht]; exact hP, va_K.moved hW.alike hK⟩, hS.F ht⟩) hS.2.2 de_M_activate_54 hlocks
        · have h := ie_t h hc
          refine lv_iconst (v := 0) hx hb de_M_activate_38 (by decide) ?_
          have h := Option.some.inj h
          subst h
          exact W.zret (v := 0) hx hb hr rfl (fun t ht hW => ⟨⟨_, _, rfl, ⟨rfl, rfl⟩, by rw [ht]; exact hP, va_K.moved hW.alike hK⟩, hS.F ht⟩) hS.2.2 de_M_activate_39 hlocks
set_option maxHeartbeats 4000000 in
set_option maxRecDepth 100000 in
theorem w_M_kill_68 {p : Program} {l : Launch} {e : Env} {s : State} {m : MethodId} {args : Array Value} {below : List Frame} {meth : Method} {c : Code} {Q : State → Prop} {D : va_G} {aa : Nat → Nat → Nat} {q : Nat → ClassId} (hJ : wJ mC aa) (S : CallFix p m c bc_M_kill 4 s args lw_g bR_M) (hlocks : meth.locks = false) (hK : va_K D mCl (mT q) s) : ∀ (n : Nat) (σ : kS) (x1 : Int32) (x2 : Int32) (x3 : Int32) (ex : kS × Int32) (H : Heap) (locs : List Loc) (ls : Array Slot), lv_has ls 4 [(0, .ref (aa 0 0)), (1, .int x1), (2, .int x2), (3, .int x3)] → va_P D mCl (mW aa q σ) H → va_S (wA mC aa) s.heap H locs → F_M_kill_68 n σ x1 x2 x3 = some ex → (∀ (H1 : Heap) (locs1 : List Loc) (ls1 : Array Slot), lv_has ls1 4 [(0, .ref (aa 0 0)), (1, .int x1), (2, .int x2), (3, .int ex.2)] → va_P D mCl (mW aa q ex.1) H1 → va_S (wA mC aa) s.heap H1 locs1 → W p l e brm_M_kill s m args below meth c H1 locs1 0 0 Q (F0 m 126 ls1 [])) → W p l e brm_M_kill s m args below meth c H locs 0 0 Q (F0 m 68 ls []) := by
  obtain ⟨hx, hb, hml, hown, hts⟩ := id S
  have ht := hts
  intro n
  induction n with
  | zero => intro σ x1 x2 x3 ex H locs ls hl hP hS h k; cases (show (none : Option (kS × Int32)) = some ex from h)
  | succ n ih =>
    intro σ x1 x2 x3 ex H locs ls hl hP hS h k
    unfold F_M_kill_68 at h
    refine lv_iload_n hx hb de_M_kill_68 rfl (lv_at hl 3 rfl) ?_
    refine lv_aload_n hx hb de_M_kill_69 rfl (lv_at hl 0 rfl) ?_
    refine mg_0 (v := .ref (aa 4 0)) hx hb ht hown hK hP (by decide) 8 (by decide) tw_2_223 rfl de_M_kill_70 ?_
    refine lv_iload_n hx hb de_M_kill_73 rfl (lv_at hl 1 rfl) ?_
    obtain ⟨hi1, h⟩ := gd_some h
    refine ml_4 hx hb hK hP (by decide) (inb_in hi1) de_M_kill_74 ?_
    refine lv_icmp_ge (tgt := 126) hx hb de_M_kill_75 (by decide) (fun hc => ?_) (fun hc => ?_)
    · have h := ie_t h hc
      have h := Option.some.inj h
      subst h
      exact k _ _ _ (lv_sub hl [0, 1, 2, 3] rfl) hP hS
    · have h := ie_f h hc
      refine lv_aload_n hx hb de_M_kill_78 rfl (lv_at hl 0 rfl) ?_
      refine mg_0 (v := .ref (aa 11 0)) hx hb ht hown hK hP (by decide) 15 (by decide) tw_2_230 rfl de_M_kill_79 ?_
      refine lv_bipush (v := 10) hx hb de_M_kill_82 (by decide) ?_
      refine lv_iload_n hx hb de_M_kill_84 rfl (lv_at hl 1 rfl) ?_
      refine lv_imul hx hb de_M_kill_85 ?_
      refine lv_iload_n hx hb de_M_kill_86 rfl (lv_at hl 3 rfl) ?_
      refine lv_iadd hx hb de_M_kill_87 ?_
      obtain ⟨hi2, h⟩ := gd_some h
      refine ml_11 hx hb hK hP (by decide) (inb_in hi2) de_M_kill_88 ?_
      refine lv_iconst (v := 3) hx hb de_M_kill_89 (by decide) ?_
      refine lv_icmp_ne (tgt := 120) hx hb de_M_kill_90 (by decide) (fun hc => ?_) (fun hc => ?_)
      · have h := ie_f h hc
        refine lv_iinc (k := 3) (v := x3 + 1) (lv' := [(3, .int (x3 + 1)), (0, .ref (aa 0 0)), (1, .int x1), (2, .int x2)]) hx hb de_M_kill_120 hl rfl (ii_p1 _) (by decide) rfl (fun ls hl => ?_)
        refine lv_goto (tgt := 68) hx hb de_M_kill_123 (by decide) ?_
        exact ih σ x1 x2 (x3 + 1) ex _ _ _ (lv_sub hl [1, 2, 3, 0] rfl) hP hS h k
      · have h := ie_t h hc
        refine lv_aload_n hx hb de_M_kill_93 rfl (lv_at hl 0 rfl) ?_
        refine lv_iload_n hx hb de_M_kill_94 rfl (lv_at hl 1 rfl) ?_
        refine lv_aload_n hx hb de_M_kill_95 rfl (lv_at hl 0 rfl) ?_
        refine mg_0 (v := .ref (aa 12 0)) hx hb ht hown hK hP (by decide) 16 (by decide) tw_2_231 rfl de_M_kill_96 ?_
        refine lv_bipush (v := 10) hx hb de_M_kill_99 (by decide) ?_
        refine lv_iload_n hx hb de_M_kill_101 rfl (lv_at hl 1 rfl) ?_
        refine lv_imul hx hb de_M_kill_102 ?_
        refine lv_iload_n hx hb de_M_kill_103 rfl (lv_at hl 3 rfl) ?_
        refine lv_iadd hx hb de_M_kill_104 ?_
        obtain ⟨hi3, h⟩ := gd_some h
        refine ml_12 hx hb hK hP (by decide) (inb_in hi3) de_M_kill_105 ?_
        refine lv_aload_n hx hb de_M_kill_106 rfl (lv_at hl 0 rfl) ?_
        refine mg_0 (v := .ref (aa 13 0)) hx hb ht hown hK hP (by decide) 17 (by decide) tw_2_232 rfl de_M_kill_107 ?_
        refine lv_bipush (v := 10) hx hb de_M_kill_110 (by decide) ?_
        refine lv_iload_n hx hb de_M_kill_112 rfl (lv_at hl 1 rfl) ?_
        refine lv_imul hx hb de_M_kill_113 ?_
        refine lv_iload_n hx hb de_M_kill_114 rfl (lv_at hl 3 rfl) ?_
        refine lv_iadd hx hb de_M_kill_115 ?_
        obtain ⟨hi4, h⟩ := gd_some h
        refine ml_13 hx hb hK hP (by decide) (inb_in hi4) de_M_kill_116 ?_
        obtain ⟨r5, hr5, h⟩ := bd_some h
        refine mq_v (va_runV (As := [.int x1, .int (gI σ 12 0 ((10 * x1) + x3).toNatClampNeg), .int (gI σ 13 0 ((10 * x1) + x3).toNatClampNeg)]) (rest := []) S (c_M_release l D aa q hJ σ x1 (gI σ 12 0 ((10 * x1) + x3).toNatClampNeg) (gI σ 13 0 ((10 * x1) + x3).toNatClampNeg) r5 hr5) (cwV 3 ht (gv_in tw_3_161 tw_3_163 ts_M_release tw_1_7 tc_M_release) rfl rfl rfl bh_M_release ⟨Nat.le_of_ble_eq_true rfl, Nat.le_of_ble_eq_true rfl⟩) (mpreV hK hP (mr_0 hK hP (by decide))) rfl rfl hl.1 rfl (lv_room (Nat.le_of_ble_eq_true rfl)) de_M_kill_117 ⟨Nat.zero_le _, Nat.zero_le _⟩) hS (fun H locs hP hS => ?_)
        refine lv_iinc (k := 3) (v := x3 + 1) (lv' := [(3, .int (x3 + 1)), (0, .ref (aa 0 0)), (1, .int x1), (2, .int x2)]) hx hb de_M_kill_120 hl rfl (ii_p1 _) (by decide) rfl (fun ls hl => ?_)
        refine lv_goto (tgt := 68) hx hb de_M_kill_123 (by decide) ?_
        exact ih r5 x1 x2 (x3 + 1) ex _ _ _ (lv_sub hl [1, 2, 3, 0] rfl) hP hS h k
set_option maxHeartbeats 4000000 in
set_option maxRecDepth 100000 in
theorem c_M_kill (l : Launch) (D : va_G) (aa : Nat → Nat → Nat) (q : Nat → ClassId) (hJ : wJ mC aa) (σ : kS) (x1 : Int32) (res : Int32 × kS) (h : F_M_kill σ x1 = some res) : Met l by_M_kill (.code by_M_kill bc_M_kill 4 (some .boolean) :: lw_g) brm_M_kill (va_Pc [.ref (aa 0 0), .int x1] (mPre D aa q σ)) (va_Qi (fun (r : Int32) (u : kS) => r = res.1 ∧ u = res.2) (mB D aa q) (wA mC aa)) 0 0 (wA mC aa) := by
  refine Met.ofW (cc := bc_M_kill) (maxL := 4) (ret := (some .boolean)) (by decide) rfl ?_
  intro p e s m args below meth c s₁ B hml hv
  obtain ⟨rfl, hP, hK⟩ := hv
  have hx := B.exec
  have hb := B.bytes
  have hr := B.returns
  have ht : ∀ w ∈ lw_g, w.before ([.ref (aa 0 0), .int x1] : List Value).toArray s = true := fun w h => atoms_spec (ws := .code by_M_kill bc_M_kill 4 (some .boolean) :: lw_g) B.pre w (List.mem_cons_of_mem _ h)
  have hown : s.vm.findClass bR_M = some m.cls := findClass_of_methodNamed B.named
  have hlocks := B.notSynchronized
  have S : CallFix p m c bc_M_kill 4 s ([.ref (aa 0 0), .int x1] : List Value).toArray lw_g bR_M := ⟨hx, hb, hml, hown, ht⟩
  have hS : va_S (wA mC aa) s.heap s.heap [] := va_S.rf
  have hl := lv_entry ([.ref (aa 0 0), .int x1]) (n := 4) (Nat.le_of_ble_eq_true rfl)
  rw [lg_entry_eq]
  generalize (lg_sl ([.ref (aa 0 0), .int x1]) ++ List.replicate (4 - (lg_sl ([.ref (aa 0 0), .int x1])).length) Slot.unset).toArray = ls at hl ⊢
  have hl : lv_has ls 4 [(0, .ref (aa 0 0)), (1, .int x1)] := hl
  unfold F_M_kill at h
  refine lv_aload_n hx hb de_M_kill_0 rfl (lv_at hl 0 rfl) ?_
  refine lv_iload_n hx hb de_M_kill_1 rfl (lv_at hl 1 rfl) ?_
  obtain ⟨r1, hr1, h⟩ := bd_some h
  refine mq_i (va_runV (As := [.int x1]) (rest := []) S (c_M_none l D aa q hJ σ x1 r1 hr1) (cwV 1 ht (gv_in tw_3_67 tw_3_69 ts_M_none tw_1_7 tc_M_none) rfl rfl rfl bh_M_none ⟨Nat.le_of_ble_eq_true rfl, Nat.le_of_ble_eq_true rfl⟩) (mpreV hK hP (mr_0 hK hP (by decide))) rfl rfl hl.1 rfl (lv_room (Nat.le_of_ble_eq_true rfl)) de_M_kill_2 ⟨Nat.zero_le _, Nat.zero_le _⟩) hS (fun H locs hP hS => ?_)
  refine lv_if_ne (tgt := 19) hx hb de_M_kill_5 (by decide) (fun hc => ?_) (fun hc => ?_)
  · have h := ie_f h hc
    refine lv_iconst (v := 0) hx hb de_M_kill_19 (by decide) ?_
    have h := Option.some.inj h
    subst h
    exact W.zret (v := 0) hx hb hr rfl (fun t ht hW => ⟨⟨_, _, rfl, ⟨rfl, rfl⟩, by rw [ht]; exact hP, va_K.moved hW.alike hK⟩, hS.F ht⟩) hS.2.2 de_M_kill_20 hlocks
  · have h := ie_t h hc
    refine lv_aload_n hx hb de_M_kill_8 rfl (lv_at hl 0 rfl) ?_
    refine mg_0 (v := .ref (aa 6 0)) hx hb ht hown hK hP (by decide) 10 (by decide) tw_2_225 rfl de_M_kill_9 ?_
    refine lv_iload_n hx hb de_M_kill_12 rfl (lv_at hl 1 rfl) ?_
    obtain ⟨hi2, h⟩ := gd_some h
    refine ml_6 hx hb hK hP (by decide) (inb_in hi2) de_M_kill_13 ?_
    refine lv_bipush (v := 6) hx hb de_M_kill_14 (by decide) ?_
    refine lv_icmp_lt (tgt := 21) hx hb de_M_kill_16 (by decide) (fun hc => ?_) (fun hc => ?_)
    · have h := ie_t h hc
      refine lv_aload_n hx hb de_M_kill_21 rfl (lv_at hl 0 rfl) ?_
      refine mg_0 (v := .ref (aa 6 0)) hx hb ht hown hK hP (by decide) 10 (by decide) tw_2_225 rfl de_M_kill_22 ?_
      refine lv_iload_n hx hb de_M_kill_25 rfl (lv_at hl 1 rfl) ?_
      obtain ⟨hi3, h⟩ := gd_some h
      refine ml_6 hx hb hK hP (by decide) (inb_in hi3) de_M_kill_26 ?_
      refine lv_iconst (v := 4) hx hb de_M_kill_27 (by decide) ?_
      refine lv_icmp_ne (tgt := 44) hx hb de_M_kill_28 (by decide) (fun hc => ?_) (fun hc => ?_)
      · have h := ie_f h hc
        refine lv_iconst (v := (-1)) hx hb de_M_kill_44 (by decide) ?_
        refine lv_istore_n (lv' := [(2, .int (-1)), (0, .ref (aa 0 0)), (1, .int x1)]) hx hb de_M_kill_45 rfl hl (by decide) rfl (fun ls hl => ?_)
        refine lv_aload_n hx hb de_M_kill_46 rfl (lv_at hl 1 rfl) ?_
        refine mg_0 (v := .ref (aa 8 0)) hx hb ht hown hK hP (by decide) 12 (by decide) tw_2_227 rfl de_M_kill_47 ?_
        refine lv_iload_n hx hb de_M_kill_50 rfl (lv_at hl 2 rfl) ?_
        refine lv_iconst (v := (-1)) hx hb de_M_kill_51 (by decide) ?_
        obtain ⟨hi4, h⟩ := gd_some h
        refine mt_8 hx hb hK hP hJ hS (by decide) (inb_in hi4) de_M_kill_52 (fun H locs hP hS => ?_)
        obtain ⟨σ5, eσ5, h⟩ := lx_ex h
        rw [← eσ5] at hP
        refine lv_aload_n hx hb de_M_kill_53 rfl (lv_at hl 1 rfl) ?_
        refine mg_0 (v := .ref (aa 6 0)) hx hb ht hown hK hP (by decide) 10 (by decide) tw_2_225 rfl de_M_kill_54 ?_
        refine lv_iload_n hx hb de_M_kill_57 rfl (lv_at hl 2 rfl) ?_
        refine lv_bipush (v := 7) hx hb de_M_kill_58 (by decide) ?_
        obtain ⟨hi6, h⟩ := gd_some h
        refine mt_6 hx hb hK hP hJ hS (by decide) (inb_in hi6) de_M_kill_60 (fun H locs hP hS => ?_)
        obtain ⟨σ7, eσ7, h⟩ := lx_ex h
        rw [← eσ7] at hP
        refine lv_aload_n hx hb de_M_kill_61 rfl (lv_at hl 1 rfl) ?_
        refine mg_0 (v := .ref (aa 5 0)) hx hb ht hown hK hP (by decide) 9 (by decide) tw_2_224 rfl de_M_kill_62 ?_
        refine lv_iload_n hx hb de_M_kill_65 rfl (lv_at hl 2 rfl) ?_
        obtain ⟨hi8, h⟩ := gd_some h
        refine ml_5 hx hb hK hP (by decide) (inb_in hi8) de_M_kill_66 ?_
        refine lv_topi (fun v9 ev9 => ?_)
        have h := lx_at h v9 ev9
        refine lv_istore_n (lv' := [(3, .int v9), (2, .int (-1)), (0, .ref (aa 0 0)), (1, .int x1)]) hx hb de_M_kill_67 rfl hl (by decide) rfl (fun ls hl => ?_)
        obtain ⟨ex10, hex10, h⟩ := bd_some h
        refine w_M_kill_68 hJ S hlocks hK 1000 σ7 x1 (-1) v9 ex10 _ _ _ (lv_sub hl [2, 3, 1, 0] rfl) hP hS hex10 (fun H locs ls hl hP hS => ?_)
        refine lv_iload_n hx hb de_M_kill_126 rfl (lv_at hl 2 rfl) ?_
        refine lv_if_lt (tgt := 135) hx hb de_M_kill_127 (by decide) (fun hc => ?_) (fun hc => ?_)
        · refine lv_iconst (v := 1) hx hb de_M_kill_135 (by decide) ?_
          have h := Option.some.inj h
          subst h
          exact W.zret (v := 1) hx hb hr rfl (fun t ht hW => ⟨⟨_, _, rfl, ⟨rfl, rfl⟩, by rw [ht]; exact hP, va_K.moved hW.alike hK⟩, hS.F ht⟩) hS.2.2 de_M_kill_136 hlocks
        · exact absurd (by decide) hc
      · have h := ie_t h hc
        refine lv_aload_n hx hb de_M_kill_31 rfl (lv_at hl 0 rfl) ?_
        refine mg_0 (v := .ref (aa 12 0)) hx hb ht hown hK hP (by decide) 16 (by decide) tw_2_231 rfl de_M_kill_32 ?_
        refine lv_aload_n hx hb de_M_kill_35 rfl (lv_at hl 0 rfl) ?_
        refine lv_iload_n hx hb de_M_kill_36 rfl (lv_at hl 1 rfl) ?_
        obtain ⟨r11, hr11, h⟩ := bd_some h
        refine mq_i (va_runV (As := [.int x1]) (rest := [.ref (aa 12 0)]) S (c_M_done l D aa q hJ σ x1 r11 hr11) (cwV 1 ht (gv_in tw_3_96 tw_3_98 ts_M_done tw_1_7 tc_M_done) rfl rfl rfl bh_M_done ⟨Nat.le_of_ble_eq_true rfl, Nat.le_of_ble_eq_true rfl⟩) (mpreV hK hP (mr_0 hK hP (by decide))) rfl rfl hl.1 rfl (lv_room (Nat.le_of_ble_eq_true rfl)) de_M_kill_37 ⟨Nat.zero_le _, Nat.zero_le _⟩) hS (fun H locs hP hS => ?_)
        obtain ⟨hi12, h⟩ := gd_some h
        refine ml_12 hx hb hK hP (by decide) (inb_in hi12) de_M_kill_40 ?_
        refine lv_goto (tgt := 45) hx hb de_M_kill_41 (by decide) ?_
        refine lv_topi (fun v13 ev13 => ?_)
        have h := lx_at h v13 ev13
        refine lv_istore_n (lv' := [(2, .int v13), (0, .ref (aa 0 0)), (1, .int x1)]) hx hb de_M_kill_45 rfl hl (by decide) rfl (fun ls hl => ?_)
        refine lv_aload_n hx hb de_M_kill_46 rfl (lv_at hl 1 rfl) ?_
        refine mg_0 (v := .ref (aa 8 0)) hx hb ht hown hK hP (by decide) 12 (by decide) tw_2_227 rfl de_M_kill_47 ?_
        refine lv_iload_n hx hb de_M_kill_50 rfl (lv_at hl 2 rfl) ?_
        refine lv_iconst (v := (-1)) hx hb de_M_kill_51 (by decide) ?_
        obtain ⟨hi14, h⟩ := gd_some h
        refine mt_8 hx hb hK hP hJ hS (by decide) (inb_in hi14) de_M_kill_52 (fun H locs hP hS => ?_)
        obtain ⟨σ15, eσ15, h⟩ := lx_ex h
        rw [← eσ15] at hP
        refine lv_aload_n hx hb de_M_kill_53 rfl (lv_at hl 1 rfl) ?_
        refine mg_0 (v := .ref (aa 6 0)) hx hb ht hown hK hP (by decide) 10 (by decide) tw_2_225 rfl de_M_kill_54 ?_
        refine lv_iload_n hx hb de_M_kill_57 rfl (lv_at hl 2 rfl) ?_
        refine lv_bipush (v := 7) hx hb de_M_kill_58 (by decide) ?_
        obtain ⟨hi16, h⟩ := gd_some h
        refine mt_6 hx hb hK hP hJ hS (by decide) (inb_in hi16) de_M_kill_60 (fun H locs hP hS => ?_)
        obtain ⟨σ17, eσ17, h⟩ := lx_ex h
        rw [← eσ17] at hP
        refine lv_aload_n hx hb de_M_kill_61 rfl (lv_at hl 1 rfl) ?_
        refine mg_0 (v := .ref (aa 5 0)) hx hb ht hown hK hP (by decide) 9 (by decide) tw_2_224 rfl de_M_kill_62 ?_
        refine lv_iload_n hx hb de_M_kill_65 rfl (lv_at hl 2 rfl) ?_
        obtain ⟨hi18, h⟩ := gd_some h
        refine ml_5 hx hb hK hP (by decide) (inb_in hi18) de_M_kill_66 ?_
        refine lv_topi (fun v19 ev19 => ?_)
        have h := lx_at h v19 ev19
        refine lv_istore_n (lv' := [(3, .int v19), (2, .int v13), (0, .ref (aa 0 0)), (1, .int x1)]) hx hb de_M_kill_67 rfl hl (by decide) rfl (fun ls hl => ?_)
        obtain ⟨ex20, hex20, h⟩ := bd_some h
        refine w_M_kill_68 hJ S hlocks hK 1000 σ17 x1 v13 v19 ex20 _ _ _ (lv_sub hl [2, 3, 1, 0] rfl) hP hS hex20 (fun H locs ls hl hP hS => ?_)
        refine lv_iload_n hx hb de_M_kill_126 rfl (lv_at hl 2 rfl) ?_
        refine lv_if_lt (tgt := 135) hx hb de_M_kill_127 (by decide) (fun hc => ?_) (fun hc => ?_)
        · have h := ie_t h hc
          refine lv_iconst (v := 1) hx hb de_M_kill_135 (by decide) ?_
          have h := Option.some.inj h
          subst h
          exact W.zret (v := 1) hx hb hr rfl (fun t ht hW => ⟨⟨_, _, rfl, ⟨rfl, rfl⟩, by rw [ht]; exact hP, va_K.moved hW.alike hK⟩, hS.F ht⟩) hS.2.2 de_M_kill_136 hlocks
        · have h := ie_f h hc
          refine lv_aload_n hx hb de_M_kill_130 rfl (lv_at hl 0 rfl) ?_
          refine lv_iload_n hx hb de_M_kill_131 rfl (lv_at hl 2 rfl) ?_
          obtain ⟨r21, hr21, h⟩ := bd_some h
          refine mq_v (va_runV (As := [.int v13]) (rest := []) S (c_M_serve l D aa q hJ ex20.1 v13 r21 hr21) (cwV 1 ht (gv_in tw_3_88 tw_3_90 ts_M_serve tw_1_7 tc_M_serve) rfl rfl rfl bh_M_serve ⟨Nat.le_of_ble_eq_true rfl, Nat.le_of_ble_eq_true rfl⟩) (mpreV hK hP (mr_0 hK hP (by decide))) rfl rfl hl.1 rfl (lv_room (Nat.le_of_ble_eq_true rfl)) de_M_kill_132 ⟨Nat.zero_le _, Nat.zero_le _⟩) hS (fun H locs hP hS => ?_)
          refine lv_iconst (v := 1) hx hb de_M_kill_135 (by decide) ?_
          have h := Option.some.inj h
          subst h
          exact W.zret (v := 1) hx hb hr rfl (fun t ht hW => ⟨⟨_, _, rfl, ⟨rfl, rfl⟩, by rw [ht]; exact hP, va_K.moved hW.alike hK⟩, hS.F ht⟩) hS.2.2 de_M_kill_136 hlocks
    · have h := ie_f h hc
      refine lv_iconst (v := 0) hx hb de_M_kill_19 (by decide) ?_
      have h := Option.some.inj h
      subst h
      exact W.zret (v := 0) hx hb hr rfl (fun t ht hW => ⟨⟨_, _, rfl, ⟨rfl, rfl⟩, by rw [ht]; exact hP, va_K.moved hW.alike hK⟩, hS.F ht⟩) hS.2.2 de_M_kill_20 hlocks
