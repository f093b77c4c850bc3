set_option maxHeartbeats 4000000 in
set_option maxRecDepth 100000 in
theorem c_M_perform (l : Launch) (D : va_G) (aa : Nat → Nat → Nat) (q : Nat → ClassId) (hJ : wJ mC aa) (σ : kS) (x1 : Int32) (x2 : Int32) (res : Int32 × kS) (h : F_M_perform σ x1 x2 = some res) : Met l by_M_perform (.code by_M_perform bc_M_perform 4 (some .boolean) :: lw_g) brm_M_perform (va_Pc [.ref (aa 0 0), .int x1, .int x2] (mPre D aa q σ)) (va_Qi (fun (r : Int32) (u : kS) => r = res.1 ∧ u = res.2) (mB D aa q) (wA mC aa)) 0 0 (wA mC aa) := by
  refine Met.ofW (cc := bc_M_perform) (maxL := 4) (ret := (some .boolean)) (by decide) rfl ?_
  intro p e s m args below meth c s₁ B hml hv
  obtain ⟨rfl, hP, hK⟩ := hv
  have hx := B.exec
  have hb := B.bytes
  have hr := B.returns
  have ht : ∀ w ∈ lw_g, w.before ([.ref (aa 0 0), .int x1, .int x2] : List Value).toArray s = true := fun w h => atoms_spec (ws := .code by_M_perform bc_M_perform 4 (some .boolean) :: lw_g) B.pre w (List.mem_cons_of_mem _ h)
  have hown : s.vm.findClass bR_M = some m.cls := findClass_of_methodNamed B.named
  have hlocks := B.notSynchronized
  have S : CallFix p m c bc_M_perform 4 s ([.ref (aa 0 0), .int x1, .int x2] : List Value).toArray lw_g bR_M := ⟨hx, hb, hml, hown, ht⟩
  have hS : va_S (wA mC aa) s.heap s.heap [] := va_S.rf
  have hl := lv_entry ([.ref (aa 0 0), .int x1, .int x2]) (n := 4) (Nat.le_of_ble_eq_true rfl)
  rw [lg_entry_eq]
  generalize (lg_sl ([.ref (aa 0 0), .int x1, .int x2]) ++ List.replicate (4 - (lg_sl ([.ref (aa 0 0), .int x1, .int x2])).length) Slot.unset).toArray = ls at hl ⊢
  have hl : lv_has ls 4 [(0, .ref (aa 0 0)), (1, .int x1), (2, .int x2)] := hl
  unfold F_M_perform at h
  refine lv_aload_n hx hb de_M_perform_0 rfl (lv_at hl 0 rfl) ?_
  refine mg_0 (v := .ref (aa 12 0)) hx hb ht hown hK hP (by decide) 16 (by decide) tw_2_231 rfl de_M_perform_1 ?_
  refine lv_iload_n hx hb de_M_perform_4 rfl (lv_at hl 2 rfl) ?_
  obtain ⟨hi1, h⟩ := gd_some h
  refine ml_12 hx hb hK hP (by decide) (inb_in hi1) de_M_perform_5 ?_
  refine lv_topi (fun v2 ev2 => ?_)
  have h := lx_at h v2 ev2
  refine lv_istore_n (lv' := [(3, .int v2), (0, .ref (aa 0 0)), (1, .int x1), (2, .int x2)]) hx hb de_M_perform_6 rfl hl (by decide) rfl (fun ls hl => ?_)
  refine lv_aload_n hx hb de_M_perform_7 rfl (lv_at hl 1 rfl) ?_
  refine mg_0 (v := .ref (aa 11 0)) hx hb ht hown hK hP (by decide) 15 (by decide) tw_2_230 rfl de_M_perform_8 ?_
  refine lv_iload_n hx hb de_M_perform_11 rfl (lv_at hl 3 rfl) ?_
  obtain ⟨hi3, h⟩ := gd_some h
  refine ml_11 hx hb hK hP (by decide) (inb_in hi3) de_M_perform_12 ?_
  by_cases hk13_0 : (gI σ 11 0 x2.toNatClampNeg) = 0
  · have h := ie_t h hk13_0
    refine lv_tableIn (off := 55) (tgt := 68) hx hb de_M_perform_13 (by rw [hk13_0]; decide) (by rw [hk13_0]; decide) (by rw [hk13_0]; rfl) (by decide) ?_
    refine lv_aload_n hx hb de_M_perform_68 rfl (lv_at hl 1 rfl) ?_
    refine lv_iload_n hx hb de_M_perform_69 rfl (lv_at hl 2 rfl) ?_
    refine lv_iconst (v := 2) hx hb de_M_perform_70 (by decide) ?_
    refine lv_aload_n hx hb de_M_perform_71 rfl (lv_at hl 1 rfl) ?_
    refine mg_0 (v := .long (gL σ 0 0 0)) hx hb ht hown hK hP (by decide) 4 (by decide) tw_2_219 rfl de_M_perform_72 ?_
    refine lv_iload_n hx hb de_M_perform_75 rfl (lv_at hl 0 rfl) ?_
    refine lv_i2l (v := v2.toInt64) hx hb de_M_perform_76 rfl ?_
    refine lv_ladd hx hb de_M_perform_77 ?_
    obtain ⟨r4, hr4, h⟩ := bd_some h
    refine mq_v (va_runV (As := [.int x1, .int 2, .long ((gL σ 0 0 0) + v2.toInt64)]) (rest := []) S (c_M_enter l D aa q hJ σ x1 2 ((gL σ 0 0 0) + v2.toInt64) r4 hr4) (cwV 3 ht (gv_in tw_3_104 tw_3_106 ts_M_enter tw_1_7 tc_M_enter) rfl rfl rfl bh_M_enter ⟨Nat.le_of_ble_eq_true rfl, Nat.le_of_ble_eq_true rfl⟩) (mpreV hK hP (mr_0 hK hP (by decide))) rfl rfl hl.1 rfl (lv_room (Nat.le_of_ble_eq_true rfl)) de_M_perform_78 ⟨Nat.zero_le _, Nat.zero_le _⟩) hS (fun H locs hP hS => ?_)
    refine lv_iconst (v := 0) hx hb de_M_perform_81 (by decide) ?_
    have h := Option.some.inj h
    subst h
    exact W.zret (v := 0) hx hb hr rfl (fun t ht hW => ⟨⟨_, _, rfl, ⟨rfl, rfl⟩, by rw [ht]; exact hP, va_K.moved hW.alike hK⟩, hS.F ht⟩) hS.2.2 de_M_perform_82 hlocks
  have h := ie_f h hk13_0
  by_cases hk13_1 : (gI σ 11 0 x2.toNatClampNeg) = 1
  · have h := ie_t h hk13_1
    refine lv_tableIn (off := 70) (tgt := 83) hx hb de_M_perform_13 (by rw [hk13_1]; decide) (by rw [hk13_1]; decide) (by rw [hk13_1]; rfl) (by decide) ?_
    refine lv_aload_n hx hb de_M_perform_83 rfl (lv_at hl 1 rfl) ?_
    refine mg_0 (v := .ref (aa 6 0)) hx hb ht hown hK hP (by decide) 10 (by decide) tw_2_225 rfl de_M_perform_84 ?_
    refine lv_iload_n hx hb de_M_perform_87 rfl (lv_at hl 2 rfl) ?_
    refine lv_iconst (v := 3) hx hb de_M_perform_88 (by decide) ?_
    obtain ⟨hi5, h⟩ := gd_some h
    refine mt_6 hx hb hK hP hJ hS (by decide) (inb_in hi5) de_M_perform_89 (fun H locs hP hS => ?_)
    obtain ⟨σ6, eσ6, h⟩ := lx_ex h
    rw [← eσ6] at hP
    refine lv_iconst (v := 0) hx hb de_M_perform_90 (by decide) ?_
    have h := Option.some.inj h
    subst h
    exact W.zret (v := 0) hx hb hr rfl (fun t ht hW => ⟨⟨_, _, rfl, ⟨rfl, rfl⟩, by rw [ht]; exact hP, va_K.moved hW.alike hK⟩, hS.F ht⟩) hS.2.2 de_M_perform_91 hlocks
  have h := ie_f h hk13_1
  by_cases hk13_2 : (gI σ 11 0 x2.toNatClampNeg) = 2
  · have h := ie_t h hk13_2
    refine lv_tableIn (off := 79) (tgt := 92) hx hb de_M_perform_13 (by rw [hk13_2]; decide) (by rw [hk13_2]; decide) (by rw [hk13_2]; rfl) (by decide) ?_
    refine lv_aload_n hx hb de_M_perform_92 rfl (lv_at hl 1 rfl) ?_
    refine lv_iload_n hx hb de_M_perform_93 rfl (lv_at hl 2 rfl) ?_
    refine lv_iload_n hx hb de_M_perform_94 rfl (lv_at hl 0 rfl) ?_
    refine lv_aload_n hx hb de_M_perform_95 rfl (lv_at hl 1 rfl) ?_
    refine mg_0 (v := .ref (aa 13 0)) hx hb ht hown hK hP (by decide) 17 (by decide) tw_2_232 rfl de_M_perform_96 ?_
    refine lv_iload_n hx hb de_M_perform_99 rfl (lv_at hl 3 rfl) ?_
    obtain ⟨hi7, h⟩ := gd_some h
    refine ml_13 hx hb hK hP (by decide) (inb_in hi7) de_M_perform_100 ?_
    obtain ⟨r8, hr8, h⟩ := bd_some h
    refine mq_i (va_runV (As := [.int x1, .int v2, .int (gI σ 13 0 x2.toNatClampNeg)]) (rest := []) S (c_M_seize l D aa q hJ σ x1 v2 (gI σ 13 0 x2.toNatClampNeg) r8 hr8) (cwV 3 ht (gv_in tw_3_141 tw_3_143 ts_M_seize tw_1_7 tc_M_seize) rfl rfl rfl bh_M_seize ⟨Nat.le_of_ble_eq_true rfl, Nat.le_of_ble_eq_true rfl⟩) (mpreV hK hP (mr_0 hK hP (by decide))) rfl rfl hl.1 rfl (lv_room (Nat.le_of_ble_eq_true rfl)) de_M_perform_101 ⟨Nat.zero_le _, Nat.zero_le _⟩) hS (fun H locs hP hS => ?_)
    obtain ⟨hi9, h⟩ := gd_some h
    have h := Option.some.inj h
    subst h
    exact W.zret (v := r8.1) hx hb hr (bz_nar hi9) (fun t ht hW => ⟨⟨_, _, rfl, ⟨rfl, rfl⟩, by rw [ht]; exact hP, va_K.moved hW.alike hK⟩, hS.F ht⟩) hS.2.2 de_M_perform_104 hlocks
  have h := ie_f h hk13_2
  by_cases hk13_3 : (gI σ 11 0 x2.toNatClampNeg) = 3
  · have h := ie_t h hk13_3
    refine lv_tableIn (off := 92) (tgt := 105) hx hb de_M_perform_13 (by rw [hk13_3]; decide) (by rw [hk13_3]; decide) (by rw [hk13_3]; rfl) (by decide) ?_
    refine lv_aload_n hx hb de_M_perform_105 rfl (lv_at hl 1 rfl) ?_
    refine lv_iload_n hx hb de_M_perform_106 rfl (lv_at hl 2 rfl) ?_
    refine lv_iload_n hx hb de_M_perform_107 rfl (lv_at hl 0 rfl) ?_
    refine lv_aload_n hx hb de_M_perform_108 rfl (lv_at hl 1 rfl) ?_
    refine mg_0 (v := .ref (aa 13 0)) hx hb ht hown hK hP (by decide) 17 (by decide) tw_2_232 rfl de_M_perform_109 ?_
    refine lv_iload_n hx hb de_M_perform_112 rfl (lv_at hl 3 rfl) ?_
    obtain ⟨hi10, h⟩ := gd_some h
    refine ml_13 hx hb hK hP (by decide) (inb_in hi10) de_M_perform_113 ?_
    obtain ⟨r11, hr11, h⟩ := bd_some h
    refine mq_v (va_runV (As := [.int x1, .int v2, .int (gI σ 13 0 x2.toNatClampNeg)]) (rest := []) S (c_M_release l D aa q hJ σ x1 v2 (gI σ 13 0 x2.toNatClampNeg) r11 hr11) (cwV 3 ht (gv_in tw_3_161 tw_3_163 ts_M_release tw_1_7 tc_M_release) rfl rfl rfl bh_M_release ⟨Nat.le_of_ble_eq_true rfl, Nat.le_of_ble_eq_true rfl⟩) (mpreV hK hP (mr_0 hK hP (by decide))) rfl rfl hl.1 rfl (lv_room (Nat.le_of_ble_eq_true rfl)) de_M_perform_114 ⟨Nat.zero_le _, Nat.zero_le _⟩) hS (fun H locs hP hS => ?_)
    refine lv_iconst (v := 1) hx hb de_M_perform_117 (by decide) ?_
    have h := Option.some.inj h
    subst h
    exact W.zret (v := 1) hx hb hr rfl (fun t ht hW => ⟨⟨_, _, rfl, ⟨rfl, rfl⟩, by rw [ht]; exact hP, va_K.moved hW.alike hK⟩, hS.F ht⟩) hS.2.2 de_M_perform_118 hlocks
  have h := ie_f h hk13_3
  by_cases hk13_4 : (gI σ 11 0 x2.toNatClampNeg) = 4
  · have h := ie_t h hk13_4
    refine lv_tableIn (off := 146) (tgt := 159) hx hb de_M_perform_13 (by rw [hk13_4]; decide) (by rw [hk13_4]; decide) (by rw [hk13_4]; rfl) (by decide) ?_
    refine lv_aload_n hx hb de_M_perform_159 rfl (lv_at hl 1 rfl) ?_
    refine lv_iload_n hx hb de_M_perform_160 rfl (lv_at hl 3 rfl) ?_
    obtain ⟨r12, hr12, h⟩ := bd_some h
    refine mq_i (va_runV (As := [.int x2]) (rest := []) S (c_M_holds l D aa q hJ σ x2 r12 hr12) (cwV 1 ht (gv_in tw_3_173 tw_3_175 ts_M_holds tw_1_7 tc_M_holds) rfl rfl rfl bh_M_holds ⟨Nat.le_of_ble_eq_true rfl, Nat.le_of_ble_eq_true rfl⟩) (mpreV hK hP (mr_0 hK hP (by decide))) rfl rfl hl.1 rfl (lv_room (Nat.le_of_ble_eq_true rfl)) de_M_perform_161 ⟨Nat.zero_le _, Nat.zero_le _⟩) hS (fun H locs hP hS => ?_)
    refine lv_if_eq (tgt := 174) hx hb de_M_perform_164 (by decide) (fun hc => ?_) (fun hc => ?_)
    · have h := ie_t h hc
      refine lv_aload_n hx hb de_M_perform_174 rfl (lv_at hl 1 rfl) ?_
      refine mg_0 (v := .ref (aa 6 0)) hx hb ht hown hK hP (by decide) 10 (by decide) tw_2_225 rfl de_M_perform_175 ?_
      refine lv_iload_n hx hb de_M_perform_178 rfl (lv_at hl 2 rfl) ?_
      refine lv_iconst (v := 5) hx hb de_M_perform_179 (by decide) ?_
      obtain ⟨hi13, h⟩ := gd_some h
      refine mt_6 hx hb hK hP hJ hS (by decide) (inb_in hi13) de_M_perform_180 (fun H locs hP hS => ?_)
      obtain ⟨σ14, eσ14, h⟩ := lx_ex h
      rw [← eσ14] at hP
      refine lv_aload_n hx hb de_M_perform_181 rfl (lv_at hl 1 rfl) ?_
      refine mg_0 (v := .ref (aa 9 0)) hx hb ht hown hK hP (by decide) 13 (by decide) tw_2_228 rfl de_M_perform_182 ?_
      refine lv_iload_n hx hb de_M_perform_185 rfl (lv_at hl 2 rfl) ?_
      refine lv_aload_n hx hb de_M_perform_186 rfl (lv_at hl 1 rfl) ?_
      refine mg_0 (v := .int (gI σ14 32 0 0)) hx hb ht hown hK hP (by decide) 2 (by decide) tw_2_217 rfl de_M_perform_187 ?_
      obtain ⟨hi15, h⟩ := gd_some h
      refine mt_9 hx hb hK hP hJ hS (by decide) (inb_in hi15) de_M_perform_190 (fun H locs hP hS => ?_)
      obtain ⟨σ16, eσ16, h⟩ := lx_ex h
      rw [← eσ16] at hP
      refine lv_aload_n hx hb de_M_perform_191 rfl (lv_at hl 1 rfl) ?_
      refine lv_dup hx hb de_M_perform_192 rfl ?_
      refine mg_0 (v := .int (gI σ16 32 0 0)) hx hb ht hown hK hP (by decide) 2 (by decide) tw_2_217 rfl de_M_perform_193 ?_
      refine lv_iconst (v := 1) hx hb de_M_perform_196 (by decide) ?_
      refine lv_iadd hx hb de_M_perform_197 ?_
      refine mp_0_coming hx hb ht hown hK hP hJ hS (by decide) tw_2_217 de_M_perform_198 (fun H locs hP hS => ?_)
      obtain ⟨σ17, eσ17, h⟩ := lx_ex h
      rw [← eσ17] at hP
      refine lv_iconst (v := 0) hx hb de_M_perform_201 (by decide) ?_
      have h := Option.some.inj h
      subst h
      exact W.zret (v := 0) hx hb hr rfl (fun t ht hW => ⟨⟨_, _, rfl, ⟨rfl, rfl⟩, by rw [ht]; exact hP, va_K.moved hW.alike hK⟩, hS.F ht⟩) hS.2.2 de_M_perform_202 hlocks
    · have h := ie_f h hc
      refine lv_aload_n hx hb de_M_perform_167 rfl (lv_at hl 1 rfl) ?_
      refine lv_iload_n hx hb de_M_perform_168 rfl (lv_at hl 3 rfl) ?_
      obtain ⟨r18, hr18, h⟩ := bd_some h
      refine mq_v (va_runV (As := [.int x2]) (rest := []) S (c_M_pour l D aa q hJ σ x2 r18 hr18) (cwV 1 ht (gv_in tw_3_177 tw_3_179 ts_M_pour tw_1_7 tc_M_pour) rfl rfl rfl bh_M_pour ⟨Nat.le_of_ble_eq_true rfl, Nat.le_of_ble_eq_true rfl⟩) (mpreV hK hP (mr_0 hK hP (by decide))) rfl rfl hl.1 rfl (lv_room (Nat.le_of_ble_eq_true rfl)) de_M_perform_169 ⟨Nat.zero_le _, Nat.zero_le _⟩) hS (fun H locs hP hS => ?_)
      refine lv_iconst (v := 1) hx hb de_M_perform_172 (by decide) ?_
      have h := Option.some.inj h
      subst h
      exact W.zret (v := 1) hx hb hr rfl (fun t ht hW => ⟨⟨_, _, rfl, ⟨rfl, rfl⟩, by rw [ht]; exact hP, va_K.moved hW.alike hK⟩, hS.F ht⟩) hS.2.2 de_M_perform_173 hlocks
  have h := ie_f h hk13_4
  by_cases hk13_5 : (gI σ 11 0 x2.toNatClampNeg) = 5
  · have h := ie_t h hk13_5
    refine lv_tableIn (off := 146) (tgt := 159) hx hb de_M_perform_13 (by rw [hk13_5]; decide) (by rw [hk13_5]; decide) (by rw [hk13_5]; rfl) (by decide) ?_
    refine lv_aload_n hx hb de_M_perform_159 rfl (lv_at hl 1 rfl) ?_
    refine lv_iload_n hx hb de_M_perform_160 rfl (lv_at hl 3 rfl) ?_
    obtain ⟨r19, hr19, h⟩ := bd_some h
    refine mq_i (va_runV (As := [.int x2]) (rest := []) S (c_M_holds l D aa q hJ σ x2 r19 hr19) (cwV 1 ht (gv_in tw_3_173 tw_3_175 ts_M_holds tw_1_7 tc_M_holds) rfl rfl rfl bh_M_holds ⟨Nat.le_of_ble_eq_true rfl, Nat.le_of_ble_eq_true rfl⟩) (mpreV hK hP (mr_0 hK hP (by decide))) rfl rfl hl.1 rfl (lv_room (Nat.le_of_ble_eq_true rfl)) de_M_perform_161 ⟨Nat.zero_le _, Nat.zero_le _⟩) hS (fun H locs hP hS => ?_)
    refine lv_if_eq (tgt := 174) hx hb de_M_perform_164 (by decide) (fun hc => ?_) (fun hc => ?_)
    · have h := ie_t h hc
      refine lv_aload_n hx hb de_M_perform_174 rfl (lv_at hl 1 rfl) ?_
      refine mg_0 (v := .ref (aa 6 0)) hx hb ht hown hK hP (by decide) 10 (by decide) tw_2_225 rfl de_M_perform_175 ?_
      refine lv_iload_n hx hb de_M_perform_178 rfl (lv_at hl 2 rfl) ?_
      refine lv_iconst (v := 5) hx hb de_M_perform_179 (by decide) ?_
      obtain ⟨hi20, h⟩ := gd_some h
      refine mt_6 hx hb hK hP hJ hS (by decide) (inb_in hi20) de_M_perform_180 (fun H locs hP hS => ?_)
      obtain ⟨σ21, eσ21, h⟩ := lx_ex h
      rw [← eσ21] at hP
      refine lv_aload_n hx hb de_M_perform_181 rfl (lv_at hl 1 rfl) ?_
      refine mg_0 (v := .ref (aa 9 0)) hx hb ht hown hK hP (by decide) 13 (by decide) tw_2_228 rfl de_M_perform_182 ?_
      refine lv_iload_n hx hb de_M_perform_185 rfl (lv_at hl 2 rfl) ?_
      refine lv_aload_n hx hb de_M_perform_186 rfl (lv_at hl 1 rfl) ?_
      refine mg_0 (v := .int (gI σ21 32 0 0)) hx hb ht hown hK hP (by decide) 2 (by decide) tw_2_217 rfl de_M_perform_187 ?_
      obtain ⟨hi22, h⟩ := gd_some h
      refine mt_9 hx hb hK hP hJ hS (by decide) (inb_in hi22) de_M_perform_190 (fun H locs hP hS => ?_)
      obtain ⟨σ23, eσ23, h⟩ := lx_ex h
      rw [← eσ23] at hP
      refine lv_aload_n hx hb de_M_perform_191 rfl (lv_at hl 1 rfl) ?_
      refine lv_dup hx hb de_M_perform_192 rfl ?_
      refine mg_0 (v := .int (gI σ23 32 0 0)) hx hb ht hown hK hP (by decide) 2 (by decide) tw_2_217 rfl de_M_perform_193 ?_
      refine lv_iconst (v := 1) hx hb de_M_perform_196 (by decide) ?_
      refine lv_iadd hx hb de_M_perform_197 ?_
      refine mp_0_coming hx hb ht hown hK hP hJ hS (by decide) tw_2_217 de_M_perform_198 (fun H locs hP hS => ?_)
      obtain ⟨σ24, eσ24, h⟩ := lx_ex h
      rw [← eσ24] at hP
      refine lv_iconst (v := 0) hx hb de_M_perform_201 (by decide) ?_
      have h := Option.some.inj h
      subst h
      exact W.zret (v := 0) hx hb hr rfl (fun t ht hW => ⟨⟨_, _, rfl, ⟨rfl, rfl⟩, by rw [ht]; exact hP, va_K.moved hW.alike hK⟩, hS.F ht⟩) hS.2.2 de_M_perform_202 hlocks
    · have h := ie_f h hc
      refine lv_aload_n hx hb de_M_perform_167 rfl (lv_at hl 1 rfl) ?_
      refine lv_iload_n hx hb de_M_perform_168 rfl (lv_at hl 3 rfl) ?_
      obtain ⟨r25, hr25, h⟩ := bd_some h
      refine mq_v (va_runV (As := [.int x2]) (rest := []) S (c_M_pour l D aa q hJ σ x2 r25 hr25) (cwV 1 ht (gv_in tw_3_177 tw_3_179 ts_M_pour tw_1_7 tc_M_pour) rfl rfl rfl bh_M_pour ⟨Nat.le_of_ble_eq_true rfl, Nat.le_of_ble_eq_true rfl⟩) (mpreV hK hP (mr_0 hK hP (by decide))) rfl rfl hl.1 rfl (lv_room (Nat.le_of_ble_eq_true rfl)) de_M_perform_169 ⟨Nat.zero_le _, Nat.zero_le _⟩) hS (fun H locs hP hS => ?_)
      refine lv_iconst (v := 1) hx hb de_M_perform_172 (by decide) ?_
      have h := Option.some.inj h
      subst h
      exact W.zret (v := 1) hx hb hr rfl (fun t ht hW => ⟨⟨_, _, rfl, ⟨rfl, rfl⟩, by rw [ht]; exact hP, va_K.moved hW.alike hK⟩, hS.F ht⟩) hS.2.2 de_M_perform_173 hlocks
  have h := ie_f h hk13_5
  by_cases hk13_6 : (gI σ 11 0 x2.toNatClampNeg) = 6
  · have h := ie_t h hk13_6
    refine lv_tableIn (off := 146) (tgt := 159) hx hb de_M_perform_13 (by rw [hk13_6]; decide) (by rw [hk13_6]; decide) (by rw [hk13_6]; rfl) (by decide) ?_
    refine lv_aload_n hx hb de_M_perform_159 rfl (lv_at hl 1 rfl) ?_
    refine lv_iload_n hx hb de_M_perform_160 rfl (lv_at hl 3 rfl) ?_
    obtain ⟨r26, hr26, h⟩ := bd_some h
    refine mq_i (va_runV (As := [.int x2]) (rest := []) S (c_M_holds l D aa q hJ σ x2 r26 hr26) (cwV 1 ht (gv_in tw_3_173 tw_3_175 ts_M_holds tw_1_7 tc_M_holds) rfl rfl rfl bh_M_holds ⟨Nat.le_of_ble_eq_true rfl, Nat.le_of_ble_eq_true rfl⟩) (mpreV hK hP (mr_0 hK hP (by decide))) rfl rfl hl.1 rfl (lv_room (Nat.le_of_ble_eq_true rfl)) de_M_perform_161 ⟨Nat.zero_le _, Nat.zero_le _⟩) hS (fun H locs hP hS => ?_)
    refine lv_if_eq (tgt := 174) hx hb de_M_perform_164 (by decide) (fun hc => ?_) (fun hc => ?_)
    · have h := ie_t h hc
      refine lv_aload_n hx hb de_M_perform_174 rfl (lv_at hl 1 rfl) ?_
      refine mg_0 (v := .ref (aa 6 0)) hx hb ht hown hK hP (by decide) 10 (by decide) tw_2_225 rfl de_M_perform_175 ?_
      refine lv_iload_n hx hb de_M_perform_178 rfl (lv_at hl 2 rfl) ?_
      refine lv_iconst (v := 5) hx hb de_M_perform_179 (by decide) ?_
      obtain ⟨hi27, h⟩ := gd_some h
      refine mt_6 hx hb hK hP hJ hS (by decide) (inb_in hi27) de_M_perform_180 (fun H locs hP hS => ?_)
      obtain ⟨σ28, eσ28, h⟩ := lx_ex h
      rw [← eσ28] at hP
      refine lv_aload_n hx hb de_M_perform_181 rfl (lv_at hl 1 rfl) ?_
      refine mg_0 (v := .ref (aa 9 0)) hx hb ht hown hK hP (by decide) 13 (by decide) tw_2_228 rfl de_M_perform_182 ?_
      refine lv_iload_n hx hb de_M_perform_185 rfl (lv_at hl 2 rfl) ?_
      refine lv_aload_n hx hb de_M_perform_186 rfl (lv_at hl 1 rfl) ?_
      refine mg_0 (v := .int (gI σ28 32 0 0)) hx hb ht hown hK hP (by decide) 2 (by decide) tw_2_217 rfl de_M_perform_187 ?_
      obtain ⟨hi29, h⟩ := gd_some h
      refine mt_9 hx hb hK hP hJ hS (by decide) (inb_in hi29) de_M_perform_190 (fun H locs hP hS => ?_)
      obtain ⟨σ30, eσ30, h⟩ := lx_ex h
      rw [← eσ30] at hP
      refine lv_aload_n hx hb de_M_perform_191 rfl (lv_at hl 1 rfl) ?_
      refine lv_dup hx hb de_M_perform_192 rfl ?_
      refine mg_0 (v := .int (gI σ30 32 0 0)) hx hb ht hown hK hP (by decide) 2 (by decide) tw_2_217 rfl de_M_perform_193 ?_
      refine lv_iconst (v := 1) hx hb de_M_perform_196 (by decide) ?_
      refine lv_iadd hx hb de_M_perform_197 ?_
      refine mp_0_coming hx hb ht hown hK hP hJ hS (by decide) tw_2_217 de_M_perform_198 (fun H locs hP hS => ?_)
      obtain ⟨σ31, eσ31, h⟩ := lx_ex h
      rw [← eσ31] at hP
      refine lv_iconst (v := 0) hx hb de_M_perform_201 (by decide) ?_
      have h := Option.some.inj h
      subst h
      exact W.zret (v := 0) hx hb hr rfl (fun t ht hW => ⟨⟨_, _, rfl, ⟨rfl, rfl⟩, by rw [ht]; exact hP, va_K.moved hW.alike hK⟩, hS.F ht⟩) hS.2.2 de_M_perform_202 hlocks
    · have h := ie_f h hc
      refine lv_aload_n hx hb de_M_perform_167 rfl (lv_at hl 1 rfl) ?_
      refine lv_iload_n hx hb de_M_perform_168 rfl (lv_at hl 3 rfl) ?_
      obtain ⟨r32, hr32, h⟩ := bd_some h
      refine mq_v (va_runV (As := [.int x2]) (rest := []) S (c_M_pour l D aa q hJ σ x2 r32 hr32) (cwV 1 ht (gv_in tw_3_177 tw_3_179 ts_M_pour tw_1_7 tc_M_pour) rfl rfl rfl bh_M_pour ⟨Nat.le_of_ble_eq_true rfl, Nat.le_of_ble_eq_true rfl⟩) (mpreV hK hP (mr_0 hK hP (by decide))) rfl rfl hl.1 rfl (lv_room (Nat.le_of_ble_eq_true rfl)) de_M_perform_169 ⟨Nat.zero_le _, Nat.zero_le _⟩) hS (fun H locs hP hS => ?_)
      refine lv_iconst (v := 1) hx hb de_M_perform_172 (by decide) ?_
      have h := Option.some.inj h
      subst h
      exact W.zret (v := 1) hx hb hr rfl (fun t ht hW => ⟨⟨_, _, rfl, ⟨rfl, rfl⟩, by rw [ht]; exact hP, va_K.moved hW.alike hK⟩, hS.F ht⟩) hS.2.2 de_M_perform_173 hlocks
  have h := ie_f h hk13_6
  by_cases hk13_7 : (gI σ 11 0 x2.toNatClampNeg) = 7
  · have h := ie_t h hk13_7
    refine lv_tableIn (off := 106) (tgt := 119) hx hb de_M_perform_13 (by rw [hk13_7]; decide) (by rw [hk13_7]; decide) (by rw [hk13_7]; rfl) (by decide) ?_
    refine lv_aload_n hx hb de_M_perform_119 rfl (lv_at hl 1 rfl) ?_
    refine lv_iload_n hx hb de_M_perform_120 rfl (lv_at hl 0 rfl) ?_
    refine lv_iconst (v := 0) hx hb de_M_perform_121 (by decide) ?_
    obtain ⟨r33, hr33, h⟩ := bd_some h
    refine mq_i (va_runV (As := [.int v2, .int 0]) (rest := []) S (c_M_activate l D aa q hJ σ v2 0 r33 hr33) (cwV 2 ht (gv_in tw_3_165 tw_3_166 tw_3_167 tw_1_7 tc_M_activate) rfl rfl rfl bh_M_activate ⟨Nat.le_of_ble_eq_true rfl, Nat.le_of_ble_eq_true rfl⟩) (mpreV hK hP (mr_0 hK hP (by decide))) rfl rfl hl.1 rfl (lv_room (Nat.le_of_ble_eq_true rfl)) de_M_perform_122 ⟨Nat.zero_le _, Nat.zero_le _⟩) hS (fun H locs hP hS => ?_)
    refine lv_pop hx hb de_M_perform_125 rfl ?_
    refine lv_iconst (v := 1) hx hb de_M_perform_126 (by decide) ?_
    have h := Option.some.inj h
    subst h
    exact W.zret (v := 1) hx hb hr rfl (fun t ht hW => ⟨⟨_, _, rfl, ⟨rfl, rfl⟩, by rw [ht]; exact hP, va_K.moved hW.alike hK⟩, hS.F ht⟩) hS.2.2 de_M_perform_127 hlocks
  have h := ie_f h hk13_7
  by_cases hk13_8 : (gI σ 11 0 x2.toNatClampNeg) = 8
  · have h := ie_t h hk13_8
    refine lv_tableIn (off := 115) (tgt := 128) hx hb de_M_perform_13 (by rw [hk13_8]; decide) (by rw [hk13_8]; decide) (by rw [hk13_8]; rfl) (by decide) ?_
    refine lv_aload_n hx hb de_M_perform_128 rfl (lv_at hl 1 rfl) ?_
    refine lv_iload_n hx hb de_M_perform_129 rfl (lv_at hl 0 rfl) ?_
    obtain ⟨r34, hr34, h⟩ := bd_some h
    refine mq_i (va_runV (As := [.int v2]) (rest := []) S (c_M_interrupt l D aa q hJ σ v2 r34 hr34) (cwV 1 ht (gv_in tw_3_157 tw_3_158 tw_3_159 tw_1_7 tc_M_interrupt) rfl rfl rfl bh_M_interrupt ⟨Nat.le_of_ble_eq_true rfl, Nat.le_of_ble_eq_true rfl⟩) (mpreV hK hP (mr_0 hK hP (by decide))) rfl rfl hl.1 rfl (lv_room (Nat.le_of_ble_eq_true rfl)) de_M_perform_130 ⟨Nat.zero_le _, Nat.zero_le _⟩) hS (fun H locs hP hS => ?_)
    refine lv_pop hx hb de_M_perform_133 rfl ?_
    refine lv_iconst (v := 1) hx hb de_M_perform_134 (by decide) ?_
    have h := Option.some.inj h
    subst h
    exact W.zret (v := 1) hx hb hr rfl (fun t ht hW => ⟨⟨_, _, rfl, ⟨rfl, rfl⟩, by rw [ht]; exact hP, va_K.moved hW.alike hK⟩, hS.F ht⟩) hS.2.2 de_M_perform_135 hlocks
  have h := ie_f h hk13_8
  by_cases hk13_9 : (gI σ 11 0 x2.toNatClampNeg) = 9
  · have h := ie_t h hk13_9
    refine lv_tableIn (off := 123) (tgt := 136) hx hb de_M_perform_13 (by rw [hk13_9]; decide) (by rw [hk13_9]; decide) (by rw [hk13_9]; rfl) (by decide) ?_
    refine lv_aload_n hx hb de_M_perform_136 rfl (lv_at hl 1 rfl) ?_
    refine lv_iload_n hx hb de_M_perform_137 rfl (lv_at hl 0 rfl) ?_
    obtain ⟨r35, hr35, h⟩ := bd_some h
    refine mq_i (va_runV (As := [.int v2]) (rest := []) S (c_M_kill l D aa q hJ σ v2 r35 hr35) (cwV 1 ht (gv_in tw_3_169 tw_3_170 tw_3_171 tw_1_7 tc_M_kill) rfl rfl rfl bh_M_kill ⟨Nat.le_of_ble_eq_true rfl, Nat.le_of_ble_eq_true rfl⟩) (mpreV hK hP (mr_0 hK hP (by decide))) rfl rfl hl.1 rfl (lv_room (Nat.le_of_ble_eq_true rfl)) de_M_perform_138 ⟨Nat.zero_le _, Nat.zero_le _⟩) hS (fun H locs hP hS => ?_)
    refine lv_pop hx hb de_M_perform_141 rfl ?_
    refine lv_aload_n hx hb de_M_perform_142 rfl (lv_at hl 1 rfl) ?_
    refine mg_0 (v := .ref (aa 6 0)) hx hb ht hown hK hP (by decide) 10 (by decide) tw_2_225 rfl de_M_perform_143 ?_
    refine lv_iload_n hx hb de_M_perform_146 rfl (lv_at hl 2 rfl) ?_
    obtain ⟨hi36, h⟩ := gd_some h
    refine ml_6 hx hb hK hP (by decide) (inb_in hi36) de_M_perform_147 ?_
    refine lv_bipush (v := 7) hx hb de_M_perform_148 (by decide) ?_
    refine lv_icmp_eq (tgt := 157) hx hb de_M_perform_150 (by decide) (fun hc => ?_) (fun hc => ?_)
    · have h := ie_t h hc
      refine lv_iconst (v := 0) hx hb de_M_perform_157 (by decide) ?_
      have h := Option.some.inj h
      subst h
      exact W.zret (v := 0) hx hb hr rfl (fun t ht hW => ⟨⟨_, _, rfl, ⟨rfl, rfl⟩, by rw [ht]; exact hP, va_K.moved hW.alike hK⟩, hS.F ht⟩) hS.2.2 de_M_perform_158 hlocks
    · have h := ie_f h hc
      refine lv_iconst (v := 1) hx hb de_M_perform_153 (by decide) ?_
      refine lv_goto (tgt := 158) hx hb de_M_perform_154 (by decide) ?_
      have h := Option.some.inj h
      subst h
      exact W.zret (v := 1) hx hb hr rfl (fun t ht hW => ⟨⟨_, _, rfl, ⟨rfl, rfl⟩, by rw [ht]; exact hP, va_K.moved hW.alike hK⟩, hS.F ht⟩) hS.2.2 de_M_perform_158 hlocks
  have h := ie_f h hk13_9
  refine lv_tableOut (tgt := 159) hx hb de_M_perform_13 (by have a0 := lv_neT (a := 0) hk13_0 (by decide); have a1 := lv_neT (a := 1) hk13_1 (by decide); have a2 := lv_neT (a := 2) hk13_2 (by decide); have a3 := lv_neT (a := 3) hk13_3 (by decide); have a4 := lv_neT (a := 4) hk13_4 (by decide); have a5 := lv_neT (a := 5) hk13_5 (by decide); have a6 := lv_neT (a := 6) hk13_6 (by decide); have a7 := lv_neT (a := 7) hk13_7 (by decide); have a8 := lv_neT (a := 8) hk13_8 (by decide); have a9 := lv_neT (a := 9) hk13_9 (by decide); omega) (by decide) ?_
  refine lv_aload_n hx hb de_M_perform_159 rfl (lv_at hl 1 rfl) ?_
  refine lv_iload_n hx hb de_M_perform_160 rfl (lv_at hl 3 rfl) ?_
  obtain ⟨r37, hr37, h⟩ := bd_some h
  refine mq_i (va_runV (As := [.int x2]) (rest := []) S (c_M_holds l D aa q hJ σ x2 r37 hr37) (cwV 1 ht (gv_in tw_3_173 tw_3_175 ts_M_holds tw_1_7 tc_M_holds) rfl rfl rfl bh_M_holds ⟨Nat.le_of_ble_eq_true rfl, Nat.le_of_ble_eq_true rfl⟩) (mpreV hK hP (mr_0 hK hP (by decide))) rfl rfl hl.1 rfl (lv_room (Nat.le_of_ble_eq_true rfl)) de_M_perform_161 ⟨Nat.zero_le _, Nat.zero_le _⟩) hS (fun H locs hP hS => ?_)
  refine lv_if_eq (tgt := 174) hx hb de_M_perform_164 (by decide) (fun hc => ?_) (fun hc => ?_)
  · have h := ie_t h hc
    refine lv_aload_n hx hb de_M_perform_174 rfl (lv_at hl 1 rfl) ?_
    refine mg_0 (v := .ref (aa 6 0)) hx hb ht hown hK hP (by decide) 10 (by decide) tw_2_225 rfl de_M_perform_175 ?_
    refine lv_iload_n hx hb de_M_perform_178 rfl (lv_at hl 2 rfl) ?_
    refine lv_iconst (v := 5) hx hb de_M_perform_179 (by decide) ?_
    obtain ⟨hi38, h⟩ := gd_some h
    refine mt_6 hx hb hK hP hJ hS (by decide) (inb_in hi38) de_M_perform_180 (fun H locs hP hS => ?_)
    obtain ⟨σ39, eσ39, h⟩ := lx_ex h
    rw [← eσ39] at hP
    refine lv_aload_n hx hb de_M_perform_181 rfl (lv_at hl 1 rfl) ?_
    refine mg_0 (v := .ref (aa 9 0)) hx hb ht hown hK hP (by decide) 13 (by decide) tw_2_228 rfl de_M_perform_182 ?_
    refine lv_iload_n hx hb de_M_perform_185 rfl (lv_at hl 2 rfl) ?_
    refine lv_aload_n hx hb de_M_perform_186 rfl (lv_at hl 1 rfl) ?_
    refine mg_0 (v := .int (gI σ39 32 0 0)) hx hb ht hown hK hP (by decide) 2 (by decide) tw_2_217 rfl de_M_perform_187 ?_
    obtain ⟨hi40, h⟩ := gd_some h
    refine mt_9 hx hb hK hP hJ hS (by decide) (inb_in hi40) de_M_perform_190 (fun H locs hP hS => ?_)
    obtain ⟨σ41, eσ41, h⟩ := lx_ex h
    rw [← eσ41] at hP
    refine lv_aload_n hx hb de_M_perform_191 rfl (lv_at hl 1 rfl) ?_
    refine lv_dup hx hb de_M_perform_192 rfl ?_
    refine mg_0 (v := .int (gI σ41 32 0 0)) hx hb ht hown hK hP (by decide) 2 (by decide) tw_2_217 rfl de_M_perform_193 ?_
    refine lv_iconst (v := 1) hx hb de_M_perform_196 (by decide) ?_
    refine lv_iadd hx hb de_M_perform_197 ?_
    refine mp_0_coming hx hb ht hown hK hP hJ hS (by decide) tw_2_217 de_M_perform_198 (fun H locs hP hS => ?_)
    obtain ⟨σ42, eσ42, h⟩ := lx_ex h
    rw [← eσ42] at hP
    refine lv_iconst (v := 0) hx hb de_M_perform_201 (by decide) ?_
    have h := Option.some.inj h
    subst h
    exact W.zret (v := 0) hx hb hr rfl (fun t ht hW => ⟨⟨_, _, rfl, ⟨rfl, rfl⟩, by rw [ht]; exact hP, va_K.moved hW.alike hK⟩, hS.F ht⟩) hS.2.2 de_M_perform_202 hlocks
  · have h := ie_f h hc
    refine lv_aload_n hx hb de_M_perform_167 rfl (lv_at hl 1 rfl) ?_
    refine lv_iload_n hx hb de_M_perform_168 rfl (lv_at hl 3 rfl) ?_
    obtain ⟨r43, hr43, h⟩ := bd_some h
    refine mq_v (va_runV (As := [.int x2]) (rest := []) S (c_M_pour l D aa q hJ σ x2 r43 hr43) (cwV 1 ht (gv_in tw_3_177 tw_3_179 ts_M_pour tw_1_7 tc_M_pour) rfl rfl rfl bh_M_pour ⟨Nat.le_of_ble_eq_true rfl, Nat.le_of_ble_eq_true rfl⟩) (mpreV hK hP (mr_0 hK hP (by decide))) rfl rfl hl.1 rfl (lv_room (Nat.le_of_ble_eq_true rfl)) de_M_perform_169 ⟨Nat.zero_le _, Nat.zero_le _⟩) hS (fun H locs hP hS => ?_)
    refine lv_iconst (v := 1) hx hb de_M_perform_172 (by decide) ?_
    have h := Option.some.inj h
    subst h
    exact W.zret (v := 1) hx hb hr rfl (fun t ht hW => ⟨⟨_, _, rfl, ⟨rfl, rfl⟩, by rw [ht]; exact hP, va_K.moved hW.alike hK⟩, hS.F ht⟩) hS.2.2 de_M_perform_173 hlocks
set_option maxHeartbeats 4000000 in
set_option maxRecDepth 100000 in
theorem w_M_turn_2 {p : Program} {l : Launch} {e : Env} {s : State} {m : MethodId} {args : Array Value} {below : List Frame} {meth : Method} {c : Code} {Q : State → Prop} {D : va_G} {aa : Nat → Nat → Nat} {q : Nat → ClassId} (hJ : wJ mC aa) (S : CallFix p m c bc_M_turn 3 s args lw_g bR_M) (hlocks : meth.locks = false) (hK : va_K D mCl (mT q) s) : ∀ (n : Nat) (σ : kS) (x1 : Int32) (x2 : Int32) (ex : Nat × kS × Int32) (H : Heap) (locs : List Loc) (ls : Array Slot), lv_has ls 3 [(0, .ref (aa 0 0)), (1, .int x1), (2, .int x2)] → va_P D mCl (mW aa q σ) H → va_S (wA mC aa) s.heap H locs → F_M_turn_2 n σ x1 x2 = some ex → (∀ (H1 : Heap) (locs1 : List Loc) (ls1 : Array Slot), lv_has ls1 3 [(0, .ref (aa 0 0)), (1, .int x1), (2, .int ex.2.2)] → va_P D mCl (mW aa q ex.2.1) H1 → va_S (wA mC aa) s.heap H1 locs1 → (ex.1 = 0 → W p l e brm_M_turn s m args below meth c H1 locs1 0 0 Q (F0 m 47 ls1 [])) ∧ (ex.1 = 1 → W p l e brm_M_turn s m args below meth c H1 locs1 0 0 Q (F0 m 67 ls1 [])) ∧ (ex.1 = 2 → W p l e brm_M_turn s m args below meth c H1 locs1 0 0 Q (F0 m 89 ls1 []))) → W p l e brm_M_turn s m args below meth c H locs 0 0 Q (F0 m 2 ls []) := by
  obtain ⟨hx, hb, hml, hown, hts⟩ := id S
  have ht := hts
  intro n
  induction n with
  | zero => intro σ x1 x2 ex H locs ls hl hP hS h k; cases (show (none : Option (Nat × kS × Int32)) = some ex from h)
  | succ n ih =>
    intro σ x1 x2 ex H locs ls hl hP hS h k
    unfold F_M_turn_2 at h
    refine lv_iload_n hx hb de_M_turn_2 rfl (lv_at hl 2 rfl) ?_
    refine lv_sipush (v := 200) hx hb de_M_turn_3 (by decide) ?_
    refine lv_icmp_ge (tgt := 89) hx hb de_M_turn_6 (by decide) (fun hc => ?_) (fun hc => ?_)
    · have h := ie_t h hc
      have h := Option.some.inj h
      subst h
      exact (k _ _ _ (lv_sub hl [0, 1, 2] rfl) hP hS).2.2 rfl
    · have h := ie_f h hc
      refine lv_aload_n hx hb de_M_turn_9 rfl (lv_at hl 0 rfl) ?_
      refine mg_0 (v := .ref (aa 5 0)) hx hb ht hown hK hP (by decide) 9 (by decide) tw_2_224 rfl de_M_turn_10 ?_
      refine lv_iload_n hx hb de_M_turn_13 rfl (lv_at hl 1 rfl) ?_
      obtain ⟨hi1, h⟩ := gd_some h
      refine ml_5 hx hb hK hP (by decide) (inb_in hi1) de_M_turn_14 ?_
      refine lv_aload_n hx hb de_M_turn_15 rfl (lv_at hl 0 rfl) ?_
      refine mg_0 (v := .ref (aa 4 0)) hx hb ht hown hK hP (by decide) 8 (by decide) tw_2_223 rfl de_M_turn_16 ?_
      refine lv_iload_n hx hb de_M_turn_19 rfl (lv_at hl 1 rfl) ?_
      obtain ⟨hi2, h⟩ := gd_some h
      refine ml_4 hx hb hK hP (by decide) (inb_in hi2) de_M_turn_20 ?_
      refine lv_icmp_ge (tgt := 48) hx hb de_M_turn_21 (by decide) (fun hc => ?_) (fun hc => ?_)
      · have h := ie_t h hc
        refine lv_aload_n hx hb de_M_turn_48 rfl (lv_at hl 0 rfl) ?_
        refine mg_0 (v := .ref (aa 2 0)) hx hb ht hown hK hP (by decide) 6 (by decide) tw_2_221 rfl de_M_turn_49 ?_
        refine lv_iload_n hx hb de_M_turn_52 rfl (lv_at hl 1 rfl) ?_
        refine lv_dup2_11 hx hb de_M_turn_53 rfl rfl ?_
        obtain ⟨hi3, h⟩ := gd_some h
        refine ml_2 hx hb hK hP (by decide) (inb_in hi3) de_M_turn_54 ?_
        refine lv_iconst (v := 1) hx hb de_M_turn_55 (by decide) ?_
        refine lv_isub hx hb de_M_turn_56 ?_
        obtain ⟨hi4, h⟩ := gd_some h
        refine mt_2 hx hb hK hP hJ hS (by decide) (inb_in hi4) de_M_turn_57 (fun H locs hP hS => ?_)
        obtain ⟨σ5, eσ5, h⟩ := lx_ex h
        rw [← eσ5] at hP
        refine lv_aload_n hx hb de_M_turn_58 rfl (lv_at hl 0 rfl) ?_
        refine mg_0 (v := .ref (aa 2 0)) hx hb ht hown hK hP (by decide) 6 (by decide) tw_2_221 rfl de_M_turn_59 ?_
        refine lv_iload_n hx hb de_M_turn_62 rfl (lv_at hl 1 rfl) ?_
        obtain ⟨hi6, h⟩ := gd_some h
        refine ml_2 hx hb hK hP (by decide) (inb_in hi6) de_M_turn_63 ?_
        refine lv_if_ne (tgt := 76) hx hb de_M_turn_64 (by decide) (fun hc => ?_) (fun hc => ?_)
        · have h := ie_f h hc
          refine lv_aload_n hx hb de_M_turn_76 rfl (lv_at hl 0 rfl) ?_
          refine mg_0 (v := .ref (aa 5 0)) hx hb ht hown hK hP (by decide) 9 (by decide) tw_2_224 rfl de_M_turn_77 ?_
          refine lv_iload_n hx hb de_M_turn_80 rfl (lv_at hl 1 rfl) ?_
          refine lv_iconst (v := 0) hx hb de_M_turn_81 (by decide) ?_
          obtain ⟨hi7, h⟩ := gd_some h
          refine mt_5 hx hb hK hP hJ hS (by decide) (inb_in hi7) de_M_turn_82 (fun H locs hP hS => ?_)
          obtain ⟨σ8, eσ8, h⟩ := lx_ex h
          rw [← eσ8] at hP
          refine lv_iinc (k := 2) (v := x2 + 1) (lv' := [(2, .int (x2 + 1)), (0, .ref (aa 0 0)), (1, .int x1)]) hx hb de_M_turn_83 hl rfl (ii_p1 _) (by decide) rfl (fun ls hl => ?_)
          refine lv_goto (tgt := 2) hx hb de_M_turn_86 (by decide) ?_
          exact ih σ8 x1 (x2 + 1) ex _ _ _ (lv_sub hl [1, 2, 0] rfl) hP hS h k
        · have h := ie_t h hc
          have h := Option.some.inj h
          subst h
          exact (k _ _ _ (lv_sub hl [0, 1, 2] rfl) hP hS).2.1 rfl
      · have h := ie_f h hc
        refine lv_aload_n hx hb de_M_turn_24 rfl (lv_at hl 0 rfl) ?_
        refine mg_0 (v := .ref (aa 5 0)) hx hb ht hown hK hP (by decide) 9 (by decide) tw_2_224 rfl de_M_turn_25 ?_
        refine lv_iload_n hx hb de_M_turn_28 rfl (lv_at hl 1 rfl) ?_
        refine lv_dup2_11 hx hb de_M_turn_29 rfl rfl ?_
        obtain ⟨hi9, h⟩ := gd_some h
        refine ml_5 hx hb hK hP (by decide) (inb_in hi9) de_M_turn_30 ?_
        refine lv_iconst (v := 1) hx hb de_M_turn_31 (by decide) ?_
        refine lv_iadd hx hb de_M_turn_32 ?_
        obtain ⟨hi10, h⟩ := gd_some h
        refine mt_5 hx hb hK hP hJ hS (by decide) (inb_in hi10) de_M_turn_33 (fun H locs hP hS => ?_)
        obtain ⟨σ11, eσ11, h⟩ := lx_ex h
        rw [← eσ11] at hP
        refine lv_aload_n hx hb de_M_turn_34 rfl (lv_at hl 0 rfl) ?_
        refine lv_iload_n hx hb de_M_turn_35 rfl (lv_at hl 1 rfl) ?_
        refine lv_aload_n hx hb de_M_turn_36 rfl (lv_at hl 0 rfl) ?_
        refine lv_iload_n hx hb de_M_turn_37 rfl (lv_at hl 1 rfl) ?_
        obtain ⟨r12, hr12, h⟩ := bd_some h
        refine mq_i (va_runV (As := [.int x1]) (rest := [.int x1, .ref (aa 0 0)]) S (c_M_done l D aa q hJ σ11 x1 r12 hr12) (cwV 1 ht (gv_in tw_3_96 tw_3_98 ts_M_done tw_1_7 tc_M_done) rfl rfl rfl bh_M_done ⟨Nat.le_of_ble_eq_true rfl, Nat.le_of_ble_eq_true rfl⟩) (mpreV hK hP (mr_0 hK hP (by decide))) rfl rfl hl.1 rfl (lv_room (Nat.le_of_ble_eq_true rfl)) de_M_turn_38 ⟨Nat.zero_le _, Nat.zero_le _⟩) hS (fun H locs hP hS => ?_)
        obtain ⟨r13, hr13, h⟩ := bd_some h
        refine mq_i (va_runV (As := [.int x1, .int r12]) (rest := []) S (c_M_perform l D aa q hJ σ11 x1 r12 r13 hr13) (cwV 2 ht (gv_in tw_3_137 tw_3_139 ts_M_perform tw_1_7 tc_M_perform) rfl rfl rfl bh_M_perform ⟨Nat.le_of_ble_eq_true rfl, Nat.le_of_ble_eq_true rfl⟩) (mpreV hK hP (mr_0 hK hP (by decide))) rfl rfl hl.1 rfl (lv_room (Nat.le_of_ble_eq_true rfl)) de_M_turn_41 ⟨Nat.zero_le _, Nat.zero_le _⟩) hS (fun H locs hP hS => ?_)
        refine lv_if_ne (tgt := 83) hx hb de_M_turn_44 (by decide) (fun hc => ?_) (fun hc => ?_)
        · have h := ie_f h hc
          refine lv_iinc (k := 2) (v := x2 + 1) (lv' := [(2, .int (x2 + 1)), (0, .ref (aa 0 0)), (1, .int x1)]) hx hb de_M_turn_83 hl rfl (ii_p1 _) (by decide) rfl (fun ls hl => ?_)
          refine lv_goto (tgt := 2) hx hb de_M_turn_86 (by decide) ?_
          exact ih r13.2 x1 (x2 + 1) ex _ _ _ (lv_sub hl [1, 2, 0] rfl) hP hS h k
        · have h := ie_t h hc
          have h := Option.some.inj h
          subst h
          exact (k _ _ _ (lv_sub hl [0, 1, 2] rfl) hP hS).1 rfl
set_option maxHeartbeats 4000000 in
set_option maxRecDepth 100000 in
theorem c_M_turn (l : Launch) (D : va_G) (aa : Nat → Nat → Nat) (q : Nat → ClassId) (hJ : wJ mC aa) (σ : kS) (x1 : Int32) (res : kS) (h : F_M_turn σ x1 = some res) : Met l by_M_turn (.code by_M_turn bc_M_turn 3 none :: lw_g) brm_M_turn (va_Pc [.ref (aa 0 0), .int x1] (mPre D aa q σ)) (va_Qv (fun u : kS => u = res) (mB D aa q) (wA mC aa)) 0 0 (wA mC aa) := by
  refine Met.ofW (cc := bc_M_turn) (maxL := 3) (ret := none) (by decide) rfl ?_
  intro p e s m args below meth c s₁ B hml hv
  obtain ⟨rfl, hP, hK⟩ := hv
  have hx := B.exec
  have hb := B.bytes
  have hr := B.returns
  have ht : ∀ w ∈ lw_g, w.before ([.ref (aa 0 0), .int x1] : List Value).toArray s = true := fun w h => atoms_spec (ws := .code by_M_turn bc_M_turn 3 none :: lw_g) B.pre w (List.mem_cons_of_mem _ h)
  have hown : s.vm.findClass bR_M = some m.cls := findClass_of_methodNamed B.named
  have hlocks := B.notSynchronized
  have S : CallFix p m c bc_M_turn 3 s ([.ref (aa 0 0), .int x1] : List Value).toArray lw_g bR_M := ⟨hx, hb, hml, hown, ht⟩
  have hS : va_S (wA mC aa) s.heap s.heap [] := va_S.rf
  have hl := lv_entry ([.ref (aa 0 0), .int x1]) (n := 3) (Nat.le_of_ble_eq_true rfl)
  rw [lg_entry_eq]
  generalize (lg_sl ([.ref (aa 0 0), .int x1]) ++ List.replicate (3 - (lg_sl ([.ref (aa 0 0), .int x1])).length) Slot.unset).toArray = ls at hl ⊢
  have hl : lv_has ls 3 [(0, .ref (aa 0 0)), (1, .int x1)] := hl
  unfold F_M_turn at h
  refine lv_iconst (v := 0) hx hb de_M_turn_0 (by decide) ?_
  refine lv_istore_n (lv' := [(2, .int 0), (0, .ref (aa 0 0)), (1, .int x1)]) hx hb de_M_turn_1 rfl hl (by decide) rfl (fun ls hl => ?_)
  obtain ⟨ex1, hex1, h⟩ := bd_some h
  refine w_M_turn_2 hJ S hlocks hK 1000 σ x1 0 ex1 _ _ _ (lv_sub hl [1, 2, 0] rfl) hP hS hex1 (fun H locs ls hl hP hS => ⟨fun he => ?_, fun he => ?_, fun he => ?_⟩)
  · have h := ie_t h he
    have h := Option.some.inj h
    subst h
    exact W.vret hx hb hr (fun t ht hW => ⟨⟨_, rfl, rfl, by rw [ht]; exact hP, va_K.moved hW.alike hK⟩, hS.F ht⟩) hS.2.2 de_M_turn_47 hlocks
  · have h := ie_f h (by rw [he]; decide)
    have h := ie_t h he
    refine lv_aload_n hx hb de_M_turn_67 rfl (lv_at hl 0 rfl) ?_
    refine mg_0 (v := .ref (aa 6 0)) hx hb ht hown hK hP (by decide) 10 (by decide) tw_2_225 rfl de_M_turn_68 ?_
    refine lv_iload_n hx hb de_M_turn_71 rfl (lv_at hl 1 rfl) ?_
    refine lv_bipush (v := 6) hx hb de_M_turn_72 (by decide) ?_
    obtain ⟨hi2, h⟩ := gd_some h
    refine mt_6 hx hb hK hP hJ hS (by decide) (inb_in hi2) de_M_turn_74 (fun H locs hP hS => ?_)
    obtain ⟨σ3, eσ3, h⟩ := lx_ex h
    rw [← eσ3] at hP
    have h := Option.some.inj h
    subst h
    exact W.vret hx hb hr (fun t ht hW => ⟨⟨_, rfl, rfl, by rw [ht]; exact hP, va_K.moved hW.alike hK⟩, hS.F ht⟩) hS.2.2 de_M_turn_75 hlocks
  · have h := ie_f h (by rw [he]; decide)
    have h := ie_f h (by rw [he]; decide)
    have h := Option.some.inj h
    subst h
    exact W.vret hx hb hr (fun t ht hW => ⟨⟨_, rfl, rfl, by rw [ht]; exact hP, va_K.moved hW.alike hK⟩, hS.F ht⟩) hS.2.2 de_M_turn_89 hlocks
set_option maxHeartbeats 4000000 in
set_option maxRecDepth 100000 in
theorem w_M_advance_2 {p : Program} {l : Launch} {e : Env} {s : State} {m : MethodId} {args : Array Value} {below : List Frame} {meth : Method} {c : Code} {Q : State → Prop} {D : va_G} {aa : Nat → Nat → Nat} {q : Nat → ClassId} (hJ : wJ mC aa) (S : CallFix p m c bc_M_advance 4 s args lw_g bR_M) (hlocks : meth.locks = false) (hK : va_K D mCl (mT q) s) : ∀ (n : Nat) (σ : kS) (x1 : Int64) (x3 : Int32) (ex : kS × Int32) (H : Heap) (locs : List Loc) (ls : Array Slot), lv_has ls 4 [(0, .ref (aa 0 0)), (1, .long x1), (3, .int x3)] → va_P D mCl (mW aa q σ) H → va_S (wA mC aa) s.heap H locs → F_M_advance_2 n σ x1 x3 = some ex → (∀ (H1 : Heap) (locs1 : List Loc) (ls1 : Array Slot), lv_has ls1 4 [(0, .ref (aa 0 0)), (1, .long x1), (3, .int ex.2)] → va_P D mCl (mW aa q ex.1) H1 → va_S (wA mC aa) s.heap H1 locs1 → W p l e brm_M_advance s m args below meth c H1 locs1 0 0 Q (F0 m 35 ls1 [])) → W p l e brm_M_advance s m args below meth c H locs 0 0 Q (F0 m 2 ls []) := by
  obtain ⟨hx, hb, hml, hown, hts⟩ := id S
  have ht := hts
  intro n
  induction n with
  | zero => intro σ x1 x3 ex H locs ls hl hP hS h k; cases (show (none : Option (kS × Int32)) = some ex from h)
  | succ n ih =>
    intro σ x1 x3 ex H locs ls hl hP hS h k
    unfold F_M_advance_2 at h
    refine lv_iload_n hx hb de_M_advance_2 rfl (lv_at hl 2 rfl) ?_
    refine lv_iconst (v := 4) hx hb de_M_advance_3 (by decide) ?_
    refine lv_icmp_ge (tgt := 35) hx hb de_M_advance_4 (by decide) (fun hc => ?_) (fun hc => ?_)
    · have h := ie_t h hc
      have h := Option.some.inj h
      subst h
      exact k _ _ _ (lv_sub hl [0, 1, 2] rfl) hP hS
    · have h := ie_f h hc
      refine lv_aload_n hx hb de_M_advance_7 rfl (lv_at hl 0 rfl) ?_
      refine mg_0 (v := .ref (aa 17 0)) hx hb ht hown hK hP (by decide) 21 (by decide) tw_2_236 rfl de_M_advance_8 ?_
      refine lv_iload_n hx hb de_M_advance_11 rfl (lv_at hl 2 rfl) ?_
      refine lv_dup2_11 hx hb de_M_advance_12 rfl rfl ?_
      obtain ⟨hi1, h⟩ := gd_some h
      refine ml_17 hx hb hK hP (by decide) (inb_in hi1) de_M_advance_13 ?_
      refine lv_aload_n hx hb de_M_advance_14 rfl (lv_at hl 0 rfl) ?_
      refine lv_iload_n hx hb de_M_advance_15 rfl (lv_at hl 2 rfl) ?_
      obtain ⟨r2, hr2, h⟩ := bd_some h
      refine mq_i (va_runV (As := [.int x3]) (rest := [.long (gL σ 17 0 x3.toNatClampNeg), .int x3, .ref (aa 17 0)]) S (c_M_seized l D aa q hJ σ x3 r2 hr2) (cwV 1 ht (gv_in tw_3_84 tw_3_86 ts_M_seized tw_1_7 tc_M_seized) rfl rfl rfl bh_M_seized ⟨Nat.le_of_ble_eq_true rfl, Nat.le_of_ble_eq_true rfl⟩) (mpreV hK hP (mr_0 hK hP (by decide))) rfl rfl hl.1 rfl (lv_room (Nat.le_of_ble_eq_true rfl)) de_M_advance_16 ⟨Nat.zero_le _, Nat.zero_le _⟩) hS (fun H locs hP hS => ?_)
      refine lv_i2l (v := r2.toInt64) hx hb de_M_advance_19 rfl ?_
      refine lv_lload_n hx hb de_M_advance_20 rfl (lv_at hl 1 rfl) ?_
      refine lv_aload_n hx hb de_M_advance_21 rfl (lv_at hl 0 rfl) ?_
      refine mg_0 (v := .long (gL σ 0 0 0)) hx hb ht hown hK hP (by decide) 4 (by decide) tw_2_219 rfl de_M_advance_22 ?_
      refine lv_lsub hx hb de_M_advance_25 ?_
      refine lv_lmul hx hb de_M_advance_26 ?_
      refine lv_ladd hx hb de_M_advance_27 ?_
      obtain ⟨hi3, h⟩ := gd_some h
      refine mt_17 hx hb hK hP hJ hS (by decide) (inb_in hi3) de_M_advance_28 (fun H locs hP hS => ?_)
      obtain ⟨σ4, eσ4, h⟩ := lx_ex h
      rw [← eσ4] at hP
      refine lv_iinc (k := 2) (v := x3 + 1) (lv' := [(3, .int (x3 + 1)), (0, .ref (aa 0 0)), (1, .long x1)]) hx hb de_M_advance_29 hl rfl (ii_p1 _) (by decide) rfl (fun ls hl => ?_)
      refine lv_goto (tgt := 2) hx hb de_M_advance_32 (by decide) ?_
      exact ih σ4 x1 (x3 + 1) ex _ _ _ (lv_sub hl [1, 2, 0] rfl) hP hS h k
set_option maxHeartbeats 4000000 in
set_option maxRecDepth 100000 in
theorem c_M_advance (l : Launch) (D : va_G) (aa : Nat → Nat → Nat) (q : Nat → ClassId) (hJ : wJ mC aa) (σ : kS) (x1 : Int64) (res : kS) (h : F_M_advance σ x1 = some res) : Met l by_M_advance (.code by_M_advance bc_M_advance 4 none :: lw_g) brm_M_advance (va_Pc [.ref (aa 0 0), .long x1] (mPre D aa q σ)) (va_Qv (fun u : kS => u = res) (mB D aa q) (wA mC aa)) 0 0 (wA mC aa) := by
  refine Met.ofW (cc := bc_M_advance) (maxL := 4) (ret := none) (by decide) rfl ?_
  intro p e s m args below meth c s₁ B hml hv
  obtain ⟨rfl, hP, hK⟩ := hv
  have hx := B.exec
  have hb := B.bytes
  have hr := B.returns
  have ht : ∀ w ∈ lw_g, w.before ([.ref (aa 0 0), .long x1] : List Value).toArray s = true := fun w h => atoms_spec (ws := .code by_M_advance bc_M_advance 4 none :: lw_g) B.pre w (List.mem_cons_of_mem _ h)
  have hown : s.vm.findClass bR_M = some m.cls := findClass_of_methodNamed B.named
  have hlocks := B.notSynchronized
  have S : CallFix p m c bc_M_advance 4 s ([.ref (aa 0 0), .long x1] : List Value).toArray lw_g bR_M := ⟨hx, hb, hml, hown, ht⟩
  have hS : va_S (wA mC aa) s.heap s.heap [] := va_S.rf
  have hl := lv_entry ([.ref (aa 0 0), .long x1]) (n := 4) (Nat.le_of_ble_eq_true rfl)
  rw [lg_entry_eq]
  generalize (lg_sl ([.ref (aa 0 0), .long x1]) ++ List.replicate (4 - (lg_sl ([.ref (aa 0 0), .long x1])).length) Slot.unset).toArray = ls at hl ⊢
  have hl : lv_has ls 4 [(0, .ref (aa 0 0)), (1, .long x1)] := hl
  unfold F_M_advance at h
  refine lv_iconst (v := 0) hx hb de_M_advance_0 (by decide) ?_
  refine lv_istore_n (lv' := [(3, .int 0), (0, .ref (aa 0 0)), (1, .long x1)]) hx hb de_M_advance_1 rfl hl (by decide) rfl (fun ls hl => ?_)
  obtain ⟨ex1, hex1, h⟩ := bd_some h
  refine w_M_advance_2 hJ S hlocks hK 1000 σ x1 0 ex1 _ _ _ (lv_sub hl [1, 2, 0] rfl) hP hS hex1 (fun H locs ls hl hP hS => ?_)
  refine lv_aload_n hx hb de_M_advance_35 rfl (lv_at hl 0 rfl) ?_
  refine lv_lload_n hx hb de_M_advance_36 rfl (lv_at hl 1 rfl) ?_
  refine mp_0_clock hx hb ht hown hK hP hJ hS (by decide) tw_2_219 de_M_advance_37 (fun H locs hP hS => ?_)
  obtain ⟨σ2, eσ2, h⟩ := lx_ex h
  rw [← eσ2] at hP
  have h := Option.some.inj h
  subst h
  exact W.vret hx hb hr (fun t ht hW => ⟨⟨_, rfl, rfl, by rw [ht]; exact hP, va_K.moved hW.alike hK⟩, hS.F ht⟩) hS.2.2 de_M_advance_40 hlocks
set_option maxHeartbeats 4000000 in
set_option maxRecDepth 100000 in
theorem w_M_event_13 {p : Program} {l : Launch} {e : Env} {s : State} {m : MethodId} {args : Array Value} {below : List Frame} {meth : Method} {c : Code} {Q : State → Prop} {D : va_G} {aa : Nat → Nat → Nat} {q : Nat → ClassId} (hJ : wJ mC aa) (S : CallFix p m c bc_M_event 3 s args lw_g bR_M) (hlocks : meth.locks = false) (hK : va_K D mCl (mT q) s) : ∀ (n : Nat) (σ : kS) (x1 : Int32) (x2 : Int32) (ex : kS × Int32) (H : Heap) (locs : List Loc) (ls : Array Slot), lv_has ls 3 [(0, .ref (aa 0 0)), (1, .int x1), (2, .int x2)] → va_P D mCl (mW aa q σ) H → va_S (wA mC aa) s.heap H locs → F_M_event_13 n σ x1 x2 = some ex → (∀ (H1 : Heap) (locs1 : List Loc) (ls1 : Array Slot), lv_has ls1 3 [(0, .ref (aa 0 0)), (1, .int x1), (2, .int ex.2)] → va_P D mCl (mW aa q ex.1) H1 → va_S (wA mC aa) s.heap H1 locs1 → W p l e brm_M_event s m args below meth c H1 locs1 0 0 Q (F0 m 37 ls1 [])) → W p l e brm_M_event s m args below meth c H locs 0 0 Q (F0 m 13 ls []) := by
  obtain ⟨hx, hb, hml, hown, hts⟩ := id S
  have ht := hts
  intro n
  induction n with
  | zero => intro σ x1 x2 ex H locs ls hl hP hS h k; cases (show (none : Option (kS × Int32)) = some ex from h)
  | succ n ih =>
    intro σ x1 x2 ex H locs ls hl hP hS h k
    unfold F_M_event_13 at h
    refine lv_iload_n hx hb de_M_event_13 rfl (lv_at hl 2 rfl) ?_
    refine lv_if_le (tgt := 37) hx hb de_M_event_14 (by decide) (fun hc => ?_) (fun hc => ?_)
    · have h := ie_t h hc
      have h := Option.some.inj h
      subst h
      exact k _ _ _ (lv_sub hl [0, 1, 2] rfl) hP hS
    · have h := ie_f h hc
      refine lv_aload_n hx hb de_M_event_17 rfl (lv_at hl 0 rfl) ?_
      refine mg_0 (v := .ref (aa 22 0)) hx hb ht hown hK hP (by decide) 26 (by decide) tw_3_1 rfl de_M_event_18 ?_
      refine lv_iload_n hx hb de_M_event_21 rfl (lv_at hl 2 rfl) ?_
      refine lv_aload_n hx hb de_M_event_22 rfl (lv_at hl 0 rfl) ?_
      refine mg_0 (v := .ref (aa 22 0)) hx hb ht hown hK hP (by decide) 26 (by decide) tw_3_1 rfl de_M_event_23 ?_
      refine lv_iload_n hx hb de_M_event_26 rfl (lv_at hl 2 rfl) ?_
      refine lv_iconst (v := 1) hx hb de_M_event_27 (by decide) ?_
      refine lv_isub hx hb de_M_event_28 ?_
      obtain ⟨hi1, h⟩ := gd_some h
      refine ml_22 hx hb hK hP (by decide) (inb_in hi1) de_M_event_29 ?_
      obtain ⟨hi2, h⟩ := gd_some h
      refine mt_22 hx hb hK hP hJ hS (by decide) (inb_in hi2) de_M_event_30 (fun H locs hP hS => ?_)
      obtain ⟨σ3, eσ3, h⟩ := lx_ex h
      rw [← eσ3] at hP
      refine lv_iinc (k := 2) (v := x2 + (-1)) (lv' := [(2, .int (x2 + (-1))), (0, .ref (aa 0 0)), (1, .int x1)]) hx hb de_M_event_31 hl rfl (ii_m1 _) (by decide) rfl (fun ls hl => ?_)
      refine lv_goto (tgt := 13) hx hb de_M_event_34 (by decide) ?_
      exact ih σ3 x1 (x2 + (-1)) ex _ _ _ (lv_sub hl [1, 2, 0] rfl) hP hS h k
set_option maxHeartbeats 4000000 in
set_option maxRecDepth 100000 in
theorem c_M_event (l : Launch) (D : va_G) (aa : Nat → Nat → Nat) (q : Nat → ClassId) (hJ : wJ mC aa) (σ : kS) (x1 : Int32) (res : kS) (h : F_M_event σ x1 = some res) : Met l by_M_event (.code by_M_event bc_M_event 3 none :: lw_g) brm_M_event (va_Pc [.ref (aa 0 0), .int x1] (mPre D aa q σ)) (va_Qv (fun u : kS => u = res) (mB D aa q) (wA mC aa)) 0 0 (wA mC aa) := by
  refine Met.ofW (cc := bc_M_event) (maxL := 3) (ret := none) (by decide) rfl ?_
  intro p e s m args below meth c s₁ B hml hv
  obtain ⟨rfl, hP, hK⟩ := hv
  have hx := B.exec
  have hb := B.bytes
  have hr := B.returns
  have ht : ∀ w ∈ lw_g, w.before ([.ref (aa 0 0), .int x1] : List Value).toArray s = true := fun w h => atoms_spec (ws := .code by_M_event bc_M_event 3 none :: lw_g) B.pre w (List.mem_cons_of_mem _ h)
  have hown : s.vm.findClass bR_M = some m.cls := findClass_of_methodNamed B.named
  have hlocks := B.notSynchronized
  have S : CallFix p m c bc_M_event 3 s ([.ref (aa 0 0), .int x1] : List Value).toArray lw_g bR_M := ⟨hx, hb, hml, hown, ht⟩
  have hS : va_S (wA mC aa) s.heap s.heap [] := va_S.rf
  have hl := lv_entry ([.ref (aa 0 0), .int x1]) (n := 3) (Nat.le_of_ble_eq_true rfl)
  rw [lg_entry_eq]
  generalize (lg_sl ([.ref (aa 0 0), .int x1]) ++ List.replicate (3 - (lg_sl ([.ref (aa 0 0), .int x1])).length) Slot.unset).toArray = ls at hl ⊢
  have hl : lv_has ls 3 [(0, .ref (aa 0 0)), (1, .int x1)] := hl
  unfold F_M_event at h
  refine lv_aload_n hx hb de_M_event_0 rfl (lv_at hl 0 rfl) ?_
  refine lv_aload_n hx hb de_M_event_1 rfl (lv_at hl 0 rfl) ?_
  refine mg_0 (v := .ref (aa 7 0)) hx hb ht hown hK hP (by decide) 11 (by decide) tw_2_226 rfl de_M_event_2 ?_
  refine lv_iload_n hx hb de_M_event_5 rfl (lv_at hl 1 rfl) ?_
  obtain ⟨hi1, h⟩ := gd_some h
  refine ml_7 hx hb hK hP (by decide) (inb_in hi1) de_M_event_6 ?_
  obtain ⟨r2, hr2, h⟩ := bd_some h
  refine mq_v (va_runV (As := [.long (gL σ 7 0 x1.toNatClampNeg)]) (rest := []) S (c_M_advance l D aa q hJ σ (gL σ 7 0 x1.toNatClampNeg) r2 hr2) (cwV 1 ht (gv_in tw_3_129 tw_3_131 ts_M_advance tw_1_7 tc_M_advance) rfl rfl rfl bh_M_advance ⟨Nat.le_of_ble_eq_true rfl, Nat.le_of_ble_eq_true rfl⟩) (mpreV hK hP (mr_0 hK hP (by decide))) rfl rfl hl.1 rfl (lv_room (Nat.le_of_ble_eq_true rfl)) de_M_event_7 ⟨Nat.zero_le _, Nat.zero_le _⟩) hS (fun H locs hP hS => ?_)
  refine lv_bipush (v := 63) hx hb de_M_event_10 (by decide) ?_
  refine lv_istore_n (lv' := [(2, .int 63), (0, .ref (aa 0 0)), (1, .int x1)]) hx hb de_M_event_12 rfl hl (by decide) rfl (fun ls hl => ?_)
  obtain ⟨ex3, hex3, h⟩ := bd_some h
  refine w_M_event_13 hJ S hlocks hK 1000 r2 x1 63 ex3 _ _ _ (lv_sub hl [1, 2, 0] rfl) hP hS hex3 (fun H locs ls hl hP hS => ?_)
  refine lv_aload_n hx hb de_M_event_37 rfl (lv_at hl 0 rfl) ?_
  refine mg_0 (v := .ref (aa 22 0)) hx hb ht hown hK hP (by decide) 26 (by decide) tw_3_1 rfl de_M_event_38 ?_
  refine lv_iconst (v := 0) hx hb de_M_event_41 (by decide) ?_
  refine lv_iload_n hx hb de_M_event_42 rfl (lv_at hl 1 rfl) ?_
  refine lv_bipush (v := 16) hx hb de_M_event_43 (by decide) ?_
  refine lv_aload_n hx hb de_M_event_45 rfl (lv_at hl 0 rfl) ?_
  refine mg_0 (v := .ref (aa 5 0)) hx hb ht hown hK hP (by decide) 9 (by decide) tw_2_224 rfl de_M_event_46 ?_
  refine lv_iload_n hx hb de_M_event_49 rfl (lv_at hl 1 rfl) ?_
  obtain ⟨hi4, h⟩ := gd_some h
  refine ml_5 hx hb hK hP (by decide) (inb_in hi4) de_M_event_50 ?_
  refine lv_imul hx hb de_M_event_51 ?_
  refine lv_iadd hx hb de_M_event_52 ?_
  obtain ⟨hi5, h⟩ := gd_some h
  refine mt_22 hx hb hK hP hJ hS (by decide) (inb_in hi5) de_M_event_53 (fun H locs hP hS => ?_)
  obtain ⟨σ6, eσ6, h⟩ := lx_ex h
  rw [← eσ6] at hP
  refine lv_aload_n hx hb de_M_event_54 rfl (lv_at hl 0 rfl) ?_
  refine lv_dup hx hb de_M_event_55 rfl ?_
  refine mg_0 (v := .int (gI σ6 33 0 0)) hx hb ht hown hK hP (by decide) 3 (by decide) tw_2_218 rfl de_M_event_56 ?_
  refine lv_iconst (v := 1) hx hb de_M_event_59 (by decide) ?_
  refine lv_iadd hx hb de_M_event_60 ?_
  refine mp_0_events hx hb ht hown hK hP hJ hS (by decide) tw_2_218 de_M_event_61 (fun H locs hP hS => ?_)
  obtain ⟨σ7, eσ7, h⟩ := lx_ex h
  rw [← eσ7] at hP
  refine lv_aload_n hx hb de_M_event_64 rfl (lv_at hl 0 rfl) ?_
  refine mg_0 (v := .ref (aa 8 0)) hx hb ht hown hK hP (by decide) 12 (by decide) tw_2_227 rfl de_M_event_65 ?_
  refine lv_iload_n hx hb de_M_event_68 rfl (lv_at hl 1 rfl) ?_
  refine lv_iconst (v := (-1)) hx hb de_M_event_69 (by decide) ?_
  obtain ⟨hi8, h⟩ := gd_some h
  refine mt_8 hx hb hK hP hJ hS (by decide) (inb_in hi8) de_M_event_70 (fun H locs hP hS => ?_)
  obtain ⟨σ9, eσ9, h⟩ := lx_ex h
  rw [← eσ9] at hP
  refine lv_aload_n hx hb de_M_event_71 rfl (lv_at hl 0 rfl) ?_
  refine mg_0 (v := .ref (aa 6 0)) hx hb ht hown hK hP (by decide) 10 (by decide) tw_2_225 rfl de_M_event_72 ?_
  refine lv_iload_n hx hb de_M_event_75 rfl (lv_at hl 1 rfl) ?_
  refine lv_iconst (v := 1) hx hb de_M_event_76 (by decide) ?_
  obtain ⟨hi10, h⟩ := gd_some h
  refine mt_6 hx hb hK hP hJ hS (by decide) (inb_in hi10) de_M_event_77 (fun H locs hP hS => ?_)
  obtain ⟨σ11, eσ11, h⟩ := lx_ex h
  rw [← eσ11] at hP
  refine lv_aload_n hx hb de_M_event_78 rfl (lv_at hl 0 rfl) ?_
  refine lv_iload_n hx hb de_M_event_79 rfl (lv_at hl 1 rfl) ?_
  obtain ⟨r12, hr12, h⟩ := bd_some h
  refine mq_v (va_runV (As := [.int x1]) (rest := []) S (c_M_turn l D aa q hJ σ11 x1 r12 hr12) (cwV 1 ht (gv_in tw_3_133 tw_3_135 ts_M_turn tw_1_7 tc_M_turn) rfl rfl rfl bh_M_turn ⟨Nat.le_of_ble_eq_true rfl, Nat.le_of_ble_eq_true rfl⟩) (mpreV hK hP (mr_0 hK hP (by decide))) rfl rfl hl.1 rfl (lv_room (Nat.le_of_ble_eq_true rfl)) de_M_event_80 ⟨Nat.zero_le _, Nat.zero_le _⟩) hS (fun H locs hP hS => ?_)
  refine lv_aload_n hx hb de_M_event_83 rfl (lv_at hl 0 rfl) ?_
  obtain ⟨r13, hr13, h⟩ := bd_some h
  refine mq_v (va_runV (As := []) (rest := []) S (c_M_goOver l D aa q hJ r12  r13 hr13) (cwV 0 ht (gv_in tw_3_181 tw_3_183 ts_M_goOver tw_1_7 tc_M_goOver) rfl rfl rfl bh_M_goOver ⟨Nat.le_of_ble_eq_true rfl, Nat.le_of_ble_eq_true rfl⟩) (mpreV hK hP (mr_0 hK hP (by decide))) rfl rfl hl.1 rfl (lv_room (Nat.le_of_ble_eq_true rfl)) de_M_event_84 ⟨Nat.zero_le _, Nat.zero_le _⟩) hS (fun H locs hP hS => ?_)
  have h := Option.some.inj h
  subst h
  exact W.vret hx hb hr (fun t ht hW => ⟨⟨_, rfl, rfl, by rw [ht]; exact hP, va_K.moved hW.alike hK⟩, hS.F ht⟩) hS.2.2 de_M_event_87 hlocks
