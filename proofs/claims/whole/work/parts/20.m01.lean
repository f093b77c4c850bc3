set_option maxHeartbeats 4000000 in
set_option maxRecDepth 100000 in
theorem c_M_rest (l : Launch) (D : va_G) (aa : Nat → Nat → Nat) (q : Nat → ClassId) (hJ : wJ mC aa) (σ : kS) (x1 : Int32) (res : Int32) (h : F_M_rest σ x1 = some res) : Met l by_M_rest (.code by_M_rest bc_M_rest 2 (some .int) :: lw_g) brm_M_rest (va_Pc [.ref (aa 0 0), .int x1] (mPre D aa q σ)) (va_Qi (fun (r : Int32) (u : kS) => r = res ∧ u = σ) (mB D aa q) (wA mC aa)) 0 0 (wA mC aa) := by
  refine Met.ofW (cc := bc_M_rest) (maxL := 2) (ret := (some .int)) (by decide) rfl ?_
  intro p e s m args below meth c s₁ B hml hv
  obtain ⟨rfl, hP, hK⟩ := hv
  have hx := B.exec
  have hb := B.bytes
  have hr := B.returns
  have ht : ∀ w ∈ lw_g, w.before ([.ref (aa 0 0), .int x1] : List Value).toArray s = true := fun w h => atoms_spec (ws := .code by_M_rest bc_M_rest 2 (some .int) :: lw_g) B.pre w (List.mem_cons_of_mem _ h)
  have hown : s.vm.findClass bR_M = some m.cls := findClass_of_methodNamed B.named
  have hlocks := B.notSynchronized
  have S : CallFix p m c bc_M_rest 2 s ([.ref (aa 0 0), .int x1] : List Value).toArray lw_g bR_M := ⟨hx, hb, hml, hown, ht⟩
  have hS : va_S (wA mC aa) s.heap s.heap [] := va_S.rf
  have hl := lv_entry ([.ref (aa 0 0), .int x1]) (n := 2) (Nat.le_of_ble_eq_true rfl)
  rw [lg_entry_eq]
  generalize (lg_sl ([.ref (aa 0 0), .int x1]) ++ List.replicate (2 - (lg_sl ([.ref (aa 0 0), .int x1])).length) Slot.unset).toArray = ls at hl ⊢
  have hl : lv_has ls 2 [(0, .ref (aa 0 0)), (1, .int x1)] := hl
  unfold F_M_rest at h
  refine lv_aload_n hx hb de_M_rest_0 rfl (lv_at hl 0 rfl) ?_
  refine mg_0 (v := .ref (aa 15 0)) hx hb ht hown hK hP (by decide) 19 (by decide) tw_2_234 rfl de_M_rest_1 ?_
  refine lv_iload_n hx hb de_M_rest_4 rfl (lv_at hl 1 rfl) ?_
  obtain ⟨hi1, h⟩ := gd_some h
  refine ml_15 hx hb hK hP (by decide) (inb_in hi1) de_M_rest_5 ?_
  refine lv_aload_n hx hb de_M_rest_6 rfl (lv_at hl 0 rfl) ?_
  refine lv_iload_n hx hb de_M_rest_7 rfl (lv_at hl 1 rfl) ?_
  obtain ⟨r2, hr2, h⟩ := bd_some h
  refine mq_i (va_runV (As := [.int x1]) (rest := [.int (gI σ 15 0 x1.toNatClampNeg)]) S (c_M_seized l D aa q hJ σ x1 r2 hr2) (cwV 1 ht (gv_in tw_3_84 tw_3_86 ts_M_seized tw_1_7 tc_M_seized) rfl rfl rfl bh_M_seized ⟨Nat.le_of_ble_eq_true rfl, Nat.le_of_ble_eq_true rfl⟩) (mpreV hK hP (mr_0 hK hP (by decide))) rfl rfl hl.1 rfl (lv_room (Nat.le_of_ble_eq_true rfl)) de_M_rest_8 ⟨Nat.zero_le _, Nat.zero_le _⟩) hS (fun H locs hP hS => ?_)
  refine lv_isub hx hb de_M_rest_11 ?_
  have h := Option.some.inj h
  subst h
  exact W.iret (v := (gI σ 15 0 x1.toNatClampNeg) - r2) hx hb hr (fun t ht hW => ⟨⟨_, _, rfl, ⟨rfl, rfl⟩, by rw [ht]; exact hP, va_K.moved hW.alike hK⟩, hS.F ht⟩) hS.2.2 de_M_rest_12 hlocks
set_option maxHeartbeats 4000000 in
set_option maxRecDepth 100000 in
theorem c_M_enter (l : Launch) (D : va_G) (aa : Nat → Nat → Nat) (q : Nat → ClassId) (hJ : wJ mC aa) (σ : kS) (x1 : Int32) (x2 : Int32) (x3 : Int64) (res : kS) (h : F_M_enter σ x1 x2 x3 = some res) : Met l by_M_enter (.code by_M_enter bc_M_enter 5 none :: lw_g) brm_M_enter (va_Pc [.ref (aa 0 0), .int x1, .int x2, .long x3] (mPre D aa q σ)) (va_Qv (fun u : kS => u = res) (mB D aa q) (wA mC aa)) 0 0 (wA mC aa) := by
  refine Met.ofW (cc := bc_M_enter) (maxL := 5) (ret := none) (by decide) rfl ?_
  intro p e s m args below meth c s₁ B hml hv
  obtain ⟨rfl, hP, hK⟩ := hv
  have hx := B.exec
  have hb := B.bytes
  have hr := B.returns
  have ht : ∀ w ∈ lw_g, w.before ([.ref (aa 0 0), .int x1, .int x2, .long x3] : List Value).toArray s = true := fun w h => atoms_spec (ws := .code by_M_enter bc_M_enter 5 none :: lw_g) B.pre w (List.mem_cons_of_mem _ h)
  have hown : s.vm.findClass bR_M = some m.cls := findClass_of_methodNamed B.named
  have hlocks := B.notSynchronized
  have S : CallFix p m c bc_M_enter 5 s ([.ref (aa 0 0), .int x1, .int x2, .long x3] : List Value).toArray lw_g bR_M := ⟨hx, hb, hml, hown, ht⟩
  have hS : va_S (wA mC aa) s.heap s.heap [] := va_S.rf
  have hl := lv_entry ([.ref (aa 0 0), .int x1, .int x2, .long x3]) (n := 5) (Nat.le_of_ble_eq_true rfl)
  rw [lg_entry_eq]
  generalize (lg_sl ([.ref (aa 0 0), .int x1, .int x2, .long x3]) ++ List.replicate (5 - (lg_sl ([.ref (aa 0 0), .int x1, .int x2, .long x3])).length) Slot.unset).toArray = ls at hl ⊢
  have hl : lv_has ls 5 [(0, .ref (aa 0 0)), (1, .int x1), (2, .int x2), (3, .long x3)] := hl
  unfold F_M_enter at h
  refine lv_aload_n hx hb de_M_enter_0 rfl (lv_at hl 0 rfl) ?_
  refine mg_0 (v := .ref (aa 6 0)) hx hb ht hown hK hP (by decide) 10 (by decide) tw_2_225 rfl de_M_enter_1 ?_
  refine lv_iload_n hx hb de_M_enter_4 rfl (lv_at hl 1 rfl) ?_
  refine lv_iload_n hx hb de_M_enter_5 rfl (lv_at hl 2 rfl) ?_
  obtain ⟨hi1, h⟩ := gd_some h
  refine mt_6 hx hb hK hP hJ hS (by decide) (inb_in hi1) de_M_enter_6 (fun H locs hP hS => ?_)
  obtain ⟨σ2, eσ2, h⟩ := lx_ex h
  rw [← eσ2] at hP
  refine lv_aload_n hx hb de_M_enter_7 rfl (lv_at hl 0 rfl) ?_
  refine mg_0 (v := .ref (aa 7 0)) hx hb ht hown hK hP (by decide) 11 (by decide) tw_2_226 rfl de_M_enter_8 ?_
  refine lv_iload_n hx hb de_M_enter_11 rfl (lv_at hl 1 rfl) ?_
  refine lv_lload_n hx hb de_M_enter_12 rfl (lv_at hl 3 rfl) ?_
  obtain ⟨hi3, h⟩ := gd_some h
  refine mt_7 hx hb hK hP hJ hS (by decide) (inb_in hi3) de_M_enter_13 (fun H locs hP hS => ?_)
  obtain ⟨σ4, eσ4, h⟩ := lx_ex h
  rw [← eσ4] at hP
  refine lv_aload_n hx hb de_M_enter_14 rfl (lv_at hl 0 rfl) ?_
  refine mg_0 (v := .ref (aa 8 0)) hx hb ht hown hK hP (by decide) 12 (by decide) tw_2_227 rfl de_M_enter_15 ?_
  refine lv_iload_n hx hb de_M_enter_18 rfl (lv_at hl 1 rfl) ?_
  refine lv_aload_n hx hb de_M_enter_19 rfl (lv_at hl 0 rfl) ?_
  refine mg_0 (v := .int (gI σ4 31 0 0)) hx hb ht hown hK hP (by decide) 1 (by decide) tw_2_216 rfl de_M_enter_20 ?_
  obtain ⟨hi5, h⟩ := gd_some h
  refine mt_8 hx hb hK hP hJ hS (by decide) (inb_in hi5) de_M_enter_23 (fun H locs hP hS => ?_)
  obtain ⟨σ6, eσ6, h⟩ := lx_ex h
  rw [← eσ6] at hP
  refine lv_aload_n hx hb de_M_enter_24 rfl (lv_at hl 0 rfl) ?_
  refine lv_dup hx hb de_M_enter_25 rfl ?_
  refine mg_0 (v := .int (gI σ6 31 0 0)) hx hb ht hown hK hP (by decide) 1 (by decide) tw_2_216 rfl de_M_enter_26 ?_
  refine lv_iconst (v := 1) hx hb de_M_enter_29 (by decide) ?_
  refine lv_iadd hx hb de_M_enter_30 ?_
  refine mp_0_order hx hb ht hown hK hP hJ hS (by decide) tw_2_216 de_M_enter_31 (fun H locs hP hS => ?_)
  obtain ⟨σ7, eσ7, h⟩ := lx_ex h
  rw [← eσ7] at hP
  have h := Option.some.inj h
  subst h
  exact W.vret hx hb hr (fun t ht hW => ⟨⟨_, rfl, rfl, by rw [ht]; exact hP, va_K.moved hW.alike hK⟩, hS.F ht⟩) hS.2.2 de_M_enter_34 hlocks
set_option maxHeartbeats 4000000 in
set_option maxRecDepth 100000 in
theorem w_M_serve_2 {p : Program} {l : Launch} {e : Env} {s : State} {m : MethodId} {args : Array Value} {below : List Frame} {meth : Method} {c : Code} {Q : State → Prop} {D : va_G} {aa : Nat → Nat → Nat} {q : Nat → ClassId} (hJ : wJ mC aa) (S : CallFix p m c bc_M_serve 4 s args lw_g bR_M) (hlocks : meth.locks = false) (hK : va_K D mCl (mT q) s) : ∀ (n : Nat) (σ : kS) (x1 : Int32) (x2 : Int32) (ex : Nat × kS × Int32) (H : Heap) (locs : List Loc) (ls : Array Slot), lv_has ls 4 [(0, .ref (aa 0 0)), (1, .int x1), (2, .int x2)] → va_P D mCl (mW aa q σ) H → va_S (wA mC aa) s.heap H locs → F_M_serve_2 n σ x1 x2 = some ex → (∀ (H1 : Heap) (locs1 : List Loc) (ls1 : Array Slot), lv_has ls1 4 [(0, .ref (aa 0 0)), (1, .int x1), (2, .int ex.2.2)] → va_P D mCl (mW aa q ex.2.1) H1 → va_S (wA mC aa) s.heap H1 locs1 → (ex.1 = 0 → W p l e brm_M_serve s m args below meth c H1 locs1 0 0 Q (F0 m 36 ls1 [])) ∧ (ex.1 = 1 → W p l e brm_M_serve s m args below meth c H1 locs1 0 0 Q (F0 m 96 ls1 []))) → W p l e brm_M_serve s m args below meth c H locs 0 0 Q (F0 m 2 ls []) := by
  obtain ⟨hx, hb, hml, hown, hts⟩ := id S
  have ht := hts
  intro n
  induction n with
  | zero => intro σ x1 x2 ex H locs ls hl hP hS h k; cases (show (none : Option (Nat × kS × Int32)) = some ex from h)
  | succ n ih =>
    intro σ x1 x2 ex H locs ls hl hP hS h k
    unfold F_M_serve_2 at h
    refine lv_iload_n hx hb de_M_serve_2 rfl (lv_at hl 2 rfl) ?_
    refine lv_bipush (v := 12) hx hb de_M_serve_3 (by decide) ?_
    refine lv_icmp_ge (tgt := 96) hx hb de_M_serve_5 (by decide) (fun hc => ?_) (fun hc => ?_)
    · have h := ie_t h hc
      have h := Option.some.inj h
      subst h
      exact (k _ _ _ (lv_sub hl [0, 1, 2] rfl) hP hS).2 rfl
    · have h := ie_f h hc
      refine lv_aload_n hx hb de_M_serve_8 rfl (lv_at hl 0 rfl) ?_
      refine lv_iload_n hx hb de_M_serve_9 rfl (lv_at hl 1 rfl) ?_
      obtain ⟨r1, hr1, h⟩ := bd_some h
      refine mq_i (va_runV (As := [.int x1]) (rest := []) S (c_M_head l D aa q hJ σ x1 r1 hr1) (cwV 1 ht (gv_in tw_3_92 tw_3_94 ts_M_head tw_1_7 tc_M_head) rfl rfl rfl bh_M_head ⟨Nat.le_of_ble_eq_true rfl, Nat.le_of_ble_eq_true rfl⟩) (mpreV hK hP (mr_0 hK hP (by decide))) rfl rfl hl.1 rfl (lv_room (Nat.le_of_ble_eq_true rfl)) de_M_serve_10 ⟨Nat.zero_le _, Nat.zero_le _⟩) hS (fun H locs hP hS => ?_)
      refine lv_istore_n (lv' := [(3, .int r1), (0, .ref (aa 0 0)), (1, .int x1), (2, .int x2)]) hx hb de_M_serve_13 rfl hl (by decide) rfl (fun ls hl => ?_)
      refine lv_iload_n hx hb de_M_serve_14 rfl (lv_at hl 0 rfl) ?_
      refine lv_if_lt (tgt := 36) hx hb de_M_serve_15 (by decide) (fun hc => ?_) (fun hc => ?_)
      · have h := ie_t h hc
        have h := Option.some.inj h
        subst h
        exact (k _ _ _ (lv_sub hl [1, 2, 3] rfl) hP hS).1 rfl
      · have h := ie_f h hc
        refine lv_aload_n hx hb de_M_serve_18 rfl (lv_at hl 1 rfl) ?_
        refine mg_0 (v := .ref (aa 13 0)) hx hb ht hown hK hP (by decide) 17 (by decide) tw_2_232 rfl de_M_serve_19 ?_
        refine lv_aload_n hx hb de_M_serve_22 rfl (lv_at hl 1 rfl) ?_
        refine lv_iload_n hx hb de_M_serve_23 rfl (lv_at hl 0 rfl) ?_
        obtain ⟨r2, hr2, h⟩ := bd_some h
        refine mq_i (va_runV (As := [.int r1]) (rest := [.ref (aa 13 0)]) S (c_M_done l D aa q hJ σ r1 r2 hr2) (cwV 1 ht (gv_in tw_3_96 tw_3_98 ts_M_done tw_1_7 tc_M_done) rfl rfl rfl bh_M_done ⟨Nat.le_of_ble_eq_true rfl, Nat.le_of_ble_eq_true rfl⟩) (mpreV hK hP (mr_0 hK hP (by decide))) rfl rfl hl.1 rfl (lv_room (Nat.le_of_ble_eq_true rfl)) de_M_serve_24 ⟨Nat.zero_le _, Nat.zero_le _⟩) hS (fun H locs hP hS => ?_)
        obtain ⟨hi3, h⟩ := gd_some h
        refine ml_13 hx hb hK hP (by decide) (inb_in hi3) de_M_serve_27 ?_
        refine lv_aload_n hx hb de_M_serve_28 rfl (lv_at hl 1 rfl) ?_
        refine lv_iload_n hx hb de_M_serve_29 rfl (lv_at hl 2 rfl) ?_
        obtain ⟨r4, hr4, h⟩ := bd_some h
        refine mq_i (va_runV (As := [.int x1]) (rest := [.int (gI σ 13 0 r2.toNatClampNeg)]) S (c_M_rest l D aa q hJ σ x1 r4 hr4) (cwV 1 ht (gv_in tw_3_100 tw_3_102 ts_M_rest tw_1_7 tc_M_rest) rfl rfl rfl bh_M_rest ⟨Nat.le_of_ble_eq_true rfl, Nat.le_of_ble_eq_true rfl⟩) (mpreV hK hP (mr_0 hK hP (by decide))) rfl rfl hl.1 rfl (lv_room (Nat.le_of_ble_eq_true rfl)) de_M_serve_30 ⟨Nat.zero_le _, Nat.zero_le _⟩) hS (fun H locs hP hS => ?_)
        refine lv_icmp_le (tgt := 37) hx hb de_M_serve_33 (by decide) (fun hc => ?_) (fun hc => ?_)
        · have h := ie_t h hc
          refine lv_aload_n hx hb de_M_serve_37 rfl (lv_at hl 1 rfl) ?_
          refine mg_0 (v := .ref (aa 14 0)) hx hb ht hown hK hP (by decide) 18 (by decide) tw_2_233 rfl de_M_serve_38 ?_
          refine lv_iconst (v := 4) hx hb de_M_serve_41 (by decide) ?_
          refine lv_iload_n hx hb de_M_serve_42 rfl (lv_at hl 0 rfl) ?_
          refine lv_imul hx hb de_M_serve_43 ?_
          refine lv_iload_n hx hb de_M_serve_44 rfl (lv_at hl 2 rfl) ?_
          refine lv_iadd hx hb de_M_serve_45 ?_
          refine lv_dup2_11 hx hb de_M_serve_46 rfl rfl ?_
          obtain ⟨hi5, h⟩ := gd_some h
          refine ml_14 hx hb hK hP (by decide) (inb_in hi5) de_M_serve_47 ?_
          refine lv_aload_n hx hb de_M_serve_48 rfl (lv_at hl 1 rfl) ?_
          refine mg_0 (v := .ref (aa 13 0)) hx hb ht hown hK hP (by decide) 17 (by decide) tw_2_232 rfl de_M_serve_49 ?_
          refine lv_aload_n hx hb de_M_serve_52 rfl (lv_at hl 1 rfl) ?_
          refine lv_iload_n hx hb de_M_serve_53 rfl (lv_at hl 0 rfl) ?_
          obtain ⟨r6, hr6, h⟩ := bd_some h
          refine mq_i (va_runV (As := [.int r1]) (rest := [.ref (aa 13 0), .int (gI σ 14 0 ((4 * r1) + x1).toNatClampNeg), .int ((4 * r1) + x1), .ref (aa 14 0)]) S (c_M_done l D aa q hJ σ r1 r6 hr6) (cwV 1 ht (gv_in tw_3_96 tw_3_98 ts_M_done tw_1_7 tc_M_done) rfl rfl rfl bh_M_done ⟨Nat.le_of_ble_eq_true rfl, Nat.le_of_ble_eq_true rfl⟩) (mpreV hK hP (mr_0 hK hP (by decide))) rfl rfl hl.1 rfl (lv_room (Nat.le_of_ble_eq_true rfl)) de_M_serve_54 ⟨Nat.zero_le _, Nat.zero_le _⟩) hS (fun H locs hP hS => ?_)
          obtain ⟨hi7, h⟩ := gd_some h
          refine ml_13 hx hb hK hP (by decide) (inb_in hi7) de_M_serve_57 ?_
          refine lv_iadd hx hb de_M_serve_58 ?_
          obtain ⟨hi8, h⟩ := gd_some h
          refine mt_14 hx hb hK hP hJ hS (by decide) (inb_in hi8) de_M_serve_59 (fun H locs hP hS => ?_)
          obtain ⟨σ9, eσ9, h⟩ := lx_ex h
          rw [← eσ9] at hP
          refine lv_aload_n hx hb de_M_serve_60 rfl (lv_at hl 1 rfl) ?_
          refine mg_0 (v := .ref (aa 18 0)) hx hb ht hown hK hP (by decide) 22 (by decide) tw_2_237 rfl de_M_serve_61 ?_
          refine lv_iload_n hx hb de_M_serve_64 rfl (lv_at hl 2 rfl) ?_
          refine lv_dup2_11 hx hb de_M_serve_65 rfl rfl ?_
          obtain ⟨hi10, h⟩ := gd_some h
          refine ml_18 hx hb hK hP (by decide) (inb_in hi10) de_M_serve_66 ?_
          refine lv_aload_n hx hb de_M_serve_67 rfl (lv_at hl 1 rfl) ?_
          refine mg_0 (v := .long (gL σ9 0 0 0)) hx hb ht hown hK hP (by decide) 4 (by decide) tw_2_219 rfl de_M_serve_68 ?_
          refine lv_aload_n hx hb de_M_serve_71 rfl (lv_at hl 1 rfl) ?_
          refine mg_0 (v := .ref (aa 10 0)) hx hb ht hown hK hP (by decide) 14 (by decide) tw_2_229 rfl de_M_serve_72 ?_
          refine lv_iload_n hx hb de_M_serve_75 rfl (lv_at hl 0 rfl) ?_
          obtain ⟨hi11, h⟩ := gd_some h
          refine ml_10 hx hb hK hP (by decide) (inb_in hi11) de_M_serve_76 ?_
          refine lv_lsub hx hb de_M_serve_77 ?_
          refine lv_ladd hx hb de_M_serve_78 ?_
          obtain ⟨hi12, h⟩ := gd_some h
          refine mt_18 hx hb hK hP hJ hS (by decide) (inb_in hi12) de_M_serve_79 (fun H locs hP hS => ?_)
          obtain ⟨σ13, eσ13, h⟩ := lx_ex h
          rw [← eσ13] at hP
          refine lv_aload_n hx hb de_M_serve_80 rfl (lv_at hl 1 rfl) ?_
          refine lv_iload_n hx hb de_M_serve_81 rfl (lv_at hl 0 rfl) ?_
          refine lv_iconst (v := 1) hx hb de_M_serve_82 (by decide) ?_
          refine lv_aload_n hx hb de_M_serve_83 rfl (lv_at hl 1 rfl) ?_
          refine mg_0 (v := .long (gL σ13 0 0 0)) hx hb ht hown hK hP (by decide) 4 (by decide) tw_2_219 rfl de_M_serve_84 ?_
          obtain ⟨r14, hr14, h⟩ := bd_some h
          refine mq_v (va_runV (As := [.int r1, .int 1, .long (gL σ13 0 0 0)]) (rest := []) S (c_M_enter l D aa q hJ σ13 r1 1 (gL σ13 0 0 0) r14 hr14) (cwV 3 ht (gv_in tw_3_104 tw_3_106 ts_M_enter tw_1_7 tc_M_enter) rfl rfl rfl bh_M_enter ⟨Nat.le_of_ble_eq_true rfl, Nat.le_of_ble_eq_true rfl⟩) (mpreV hK hP (mr_0 hK hP (by decide))) rfl rfl hl.1 rfl (lv_room (Nat.le_of_ble_eq_true rfl)) de_M_serve_87 ⟨Nat.zero_le _, Nat.zero_le _⟩) hS (fun H locs hP hS => ?_)
          refine lv_iinc (k := 3) (v := x2 + 1) (lv' := [(2, .int (x2 + 1)), (3, .int r1), (0, .ref (aa 0 0)), (1, .int x1)]) hx hb de_M_serve_90 hl rfl (ii_p1 _) (by decide) rfl (fun ls hl => ?_)
          refine lv_goto (tgt := 2) hx hb de_M_serve_93 (by decide) ?_
          exact ih r14 x1 (x2 + 1) ex _ _ _ (lv_sub hl [2, 3, 0] rfl) hP hS h k
        · have h := ie_f h hc
          have h := Option.some.inj h
          subst h
          exact (k _ _ _ (lv_sub hl [1, 2, 3] rfl) hP hS).1 rfl
set_option maxHeartbeats 4000000 in
set_option maxRecDepth 100000 in
theorem c_M_serve (l : Launch) (D : va_G) (aa : Nat → Nat → Nat) (q : Nat → ClassId) (hJ : wJ mC aa) (σ : kS) (x1 : Int32) (res : kS) (h : F_M_serve σ x1 = some res) : Met l by_M_serve (.code by_M_serve bc_M_serve 4 none :: lw_g) brm_M_serve (va_Pc [.ref (aa 0 0), .int x1] (mPre D aa q σ)) (va_Qv (fun u : kS => u = res) (mB D aa q) (wA mC aa)) 0 0 (wA mC aa) := by
  refine Met.ofW (cc := bc_M_serve) (maxL := 4) (ret := none) (by decide) rfl ?_
  intro p e s m args below meth c s₁ B hml hv
  obtain ⟨rfl, hP, hK⟩ := hv
  have hx := B.exec
  have hb := B.bytes
  have hr := B.returns
  have ht : ∀ w ∈ lw_g, w.before ([.ref (aa 0 0), .int x1] : List Value).toArray s = true := fun w h => atoms_spec (ws := .code by_M_serve bc_M_serve 4 none :: lw_g) B.pre w (List.mem_cons_of_mem _ h)
  have hown : s.vm.findClass bR_M = some m.cls := findClass_of_methodNamed B.named
  have hlocks := B.notSynchronized
  have S : CallFix p m c bc_M_serve 4 s ([.ref (aa 0 0), .int x1] : List Value).toArray lw_g bR_M := ⟨hx, hb, hml, hown, ht⟩
  have hS : va_S (wA mC aa) s.heap s.heap [] := va_S.rf
  have hl := lv_entry ([.ref (aa 0 0), .int x1]) (n := 4) (Nat.le_of_ble_eq_true rfl)
  rw [lg_entry_eq]
  generalize (lg_sl ([.ref (aa 0 0), .int x1]) ++ List.replicate (4 - (lg_sl ([.ref (aa 0 0), .int x1])).length) Slot.unset).toArray = ls at hl ⊢
  have hl : lv_has ls 4 [(0, .ref (aa 0 0)), (1, .int x1)] := hl
  unfold F_M_serve at h
  refine lv_iconst (v := 0) hx hb de_M_serve_0 (by decide) ?_
  refine lv_istore_n (lv' := [(2, .int 0), (0, .ref (aa 0 0)), (1, .int x1)]) hx hb de_M_serve_1 rfl hl (by decide) rfl (fun ls hl => ?_)
  obtain ⟨ex1, hex1, h⟩ := bd_some h
  refine w_M_serve_2 hJ S hlocks hK 1000 σ x1 0 ex1 _ _ _ (lv_sub hl [1, 2, 0] rfl) hP hS hex1 (fun H locs ls hl hP hS => ⟨fun he => ?_, fun he => ?_⟩)
  · have h := ie_t h he
    have h := Option.some.inj h
    subst h
    exact W.vret hx hb hr (fun t ht hW => ⟨⟨_, rfl, rfl, by rw [ht]; exact hP, va_K.moved hW.alike hK⟩, hS.F ht⟩) hS.2.2 de_M_serve_36 hlocks
  · have h := ie_f h (by rw [he]; decide)
    have h := Option.some.inj h
    subst h
    exact W.vret hx hb hr (fun t ht hW => ⟨⟨_, rfl, rfl, by rw [ht]; exact hP, va_K.moved hW.alike hK⟩, hS.F ht⟩) hS.2.2 de_M_serve_96 hlocks
set_option maxHeartbeats 4000000 in
set_option maxRecDepth 100000 in
theorem c_M_resource (l : Launch) (D : va_G) (aa : Nat → Nat → Nat) (q : Nat → ClassId) (hJ : wJ mC aa) (σ : kS) (x1 : Int32) (x2 : Int32) (x3 : Int32) (res : Int32 × kS) (h : F_M_resource σ x1 x2 x3 = some res) : Met l by_M_resource (.code by_M_resource bc_M_resource 4 (some .boolean) :: lw_g) brm_M_resource (va_Pc [.ref (aa 0 0), .int x1, .int x2, .int x3] (mPre D aa q σ)) (va_Qi (fun (r : Int32) (u : kS) => r = res.1 ∧ u = res.2) (mB D aa q) (wA mC aa)) 0 0 (wA mC aa) := by
  refine Met.ofW (cc := bc_M_resource) (maxL := 4) (ret := (some .boolean)) (by decide) rfl ?_
  intro p e s m args below meth c s₁ B hml hv
  obtain ⟨rfl, hP, hK⟩ := hv
  have hx := B.exec
  have hb := B.bytes
  have hr := B.returns
  have ht : ∀ w ∈ lw_g, w.before ([.ref (aa 0 0), .int x1, .int x2, .int x3] : List Value).toArray s = true := fun w h => atoms_spec (ws := .code by_M_resource bc_M_resource 4 (some .boolean) :: lw_g) B.pre w (List.mem_cons_of_mem _ h)
  have hown : s.vm.findClass bR_M = some m.cls := findClass_of_methodNamed B.named
  have hlocks := B.notSynchronized
  have S : CallFix p m c bc_M_resource 4 s ([.ref (aa 0 0), .int x1, .int x2, .int x3] : List Value).toArray lw_g bR_M := ⟨hx, hb, hml, hown, ht⟩
  have hS : va_S (wA mC aa) s.heap s.heap [] := va_S.rf
  have hl := lv_entry ([.ref (aa 0 0), .int x1, .int x2, .int x3]) (n := 4) (Nat.le_of_ble_eq_true rfl)
  rw [lg_entry_eq]
  generalize (lg_sl ([.ref (aa 0 0), .int x1, .int x2, .int x3]) ++ List.replicate (4 - (lg_sl ([.ref (aa 0 0), .int x1, .int x2, .int x3])).length) Slot.unset).toArray = ls at hl ⊢
  have hl : lv_has ls 4 [(0, .ref (aa 0 0)), (1, .int x1), (2, .int x2), (3, .int x3)] := hl
  unfold F_M_resource at h
  refine lv_aload_n hx hb de_M_resource_0 rfl (lv_at hl 0 rfl) ?_
  refine lv_iload_n hx hb de_M_resource_1 rfl (lv_at hl 1 rfl) ?_
  refine lv_iconst (v := 0) hx hb de_M_resource_2 (by decide) ?_
  refine lv_iconst (v := 3) hx hb de_M_resource_3 (by decide) ?_
  obtain ⟨r1, hr1, h⟩ := bd_some h
  refine mq_i (va_runV (As := [.int x1, .int 0, .int 3]) (rest := []) S (c_M_within l D aa q hJ σ x1 0 3 r1 hr1) (cwV 3 ht (gv_in tw_3_71 tw_3_73 ts_M_within tw_1_7 tc_M_within) rfl rfl rfl bh_M_within ⟨Nat.le_of_ble_eq_true rfl, Nat.le_of_ble_eq_true rfl⟩) (mpreV hK hP (mr_0 hK hP (by decide))) rfl rfl hl.1 rfl (lv_room (Nat.le_of_ble_eq_true rfl)) de_M_resource_4 ⟨Nat.zero_le _, Nat.zero_le _⟩) hS (fun H locs hP hS => ?_)
  refine lv_if_eq (tgt := 30) hx hb de_M_resource_7 (by decide) (fun hc => ?_) (fun hc => ?_)
  · have h := ie_t h hc
    refine lv_iconst (v := 0) hx hb de_M_resource_30 (by decide) ?_
    have h := Option.some.inj h
    subst h
    exact W.zret (v := 0) hx hb hr rfl (fun t ht hW => ⟨⟨_, _, rfl, ⟨rfl, rfl⟩, by rw [ht]; exact hP, va_K.moved hW.alike hK⟩, hS.F ht⟩) hS.2.2 de_M_resource_31 hlocks
  · have h := ie_f h hc
    refine lv_aload_n hx hb de_M_resource_10 rfl (lv_at hl 0 rfl) ?_
    refine lv_iload_n hx hb de_M_resource_11 rfl (lv_at hl 2 rfl) ?_
    refine lv_iconst (v := 0) hx hb de_M_resource_12 (by decide) ?_
    refine lv_bipush (v := 9) hx hb de_M_resource_13 (by decide) ?_
    obtain ⟨r2, hr2, h⟩ := bd_some h
    refine mq_i (va_runV (As := [.int x2, .int 0, .int 9]) (rest := []) S (c_M_within l D aa q hJ σ x2 0 9 r2 hr2) (cwV 3 ht (gv_in tw_3_71 tw_3_73 ts_M_within tw_1_7 tc_M_within) rfl rfl rfl bh_M_within ⟨Nat.le_of_ble_eq_true rfl, Nat.le_of_ble_eq_true rfl⟩) (mpreV hK hP (mr_0 hK hP (by decide))) rfl rfl hl.1 rfl (lv_room (Nat.le_of_ble_eq_true rfl)) de_M_resource_15 ⟨Nat.zero_le _, Nat.zero_le _⟩) hS (fun H locs hP hS => ?_)
    refine lv_if_eq (tgt := 30) hx hb de_M_resource_18 (by decide) (fun hc => ?_) (fun hc => ?_)
    · have h := ie_t h hc
      refine lv_iconst (v := 0) hx hb de_M_resource_30 (by decide) ?_
      have h := Option.some.inj h
      subst h
      exact W.zret (v := 0) hx hb hr rfl (fun t ht hW => ⟨⟨_, _, rfl, ⟨rfl, rfl⟩, by rw [ht]; exact hP, va_K.moved hW.alike hK⟩, hS.F ht⟩) hS.2.2 de_M_resource_31 hlocks
    · have h := ie_f h hc
      refine lv_aload_n hx hb de_M_resource_21 rfl (lv_at hl 0 rfl) ?_
      refine lv_iload_n hx hb de_M_resource_22 rfl (lv_at hl 1 rfl) ?_
      obtain ⟨r3, hr3, h⟩ := bd_some h
      refine mq_i (va_runV (As := [.int x1]) (rest := []) S (c_M_seized l D aa q hJ σ x1 r3 hr3) (cwV 1 ht (gv_in tw_3_84 tw_3_86 ts_M_seized tw_1_7 tc_M_seized) rfl rfl rfl bh_M_seized ⟨Nat.le_of_ble_eq_true rfl, Nat.le_of_ble_eq_true rfl⟩) (mpreV hK hP (mr_0 hK hP (by decide))) rfl rfl hl.1 rfl (lv_room (Nat.le_of_ble_eq_true rfl)) de_M_resource_23 ⟨Nat.zero_le _, Nat.zero_le _⟩) hS (fun H locs hP hS => ?_)
      refine lv_iload_n hx hb de_M_resource_26 rfl (lv_at hl 2 rfl) ?_
      refine lv_icmp_le (tgt := 32) hx hb de_M_resource_27 (by decide) (fun hc => ?_) (fun hc => ?_)
      · have h := ie_t h hc
        refine lv_aload_n hx hb de_M_resource_32 rfl (lv_at hl 0 rfl) ?_
        refine mg_0 (v := .ref (aa 15 0)) hx hb ht hown hK hP (by decide) 19 (by decide) tw_2_234 rfl de_M_resource_33 ?_
        refine lv_iload_n hx hb de_M_resource_36 rfl (lv_at hl 1 rfl) ?_
        refine lv_iload_n hx hb de_M_resource_37 rfl (lv_at hl 2 rfl) ?_
        obtain ⟨hi4, h⟩ := gd_some h
        refine mt_15 hx hb hK hP hJ hS (by decide) (inb_in hi4) de_M_resource_38 (fun H locs hP hS => ?_)
        obtain ⟨σ5, eσ5, h⟩ := lx_ex h
        rw [← eσ5] at hP
        refine lv_aload_n hx hb de_M_resource_39 rfl (lv_at hl 0 rfl) ?_
        refine mg_0 (v := .ref (aa 16 0)) hx hb ht hown hK hP (by decide) 20 (by decide) tw_2_235 rfl de_M_resource_40 ?_
        refine lv_iload_n hx hb de_M_resource_43 rfl (lv_at hl 1 rfl) ?_
        refine lv_iload_n hx hb de_M_resource_44 rfl (lv_at hl 3 rfl) ?_
        obtain ⟨hi6, h⟩ := gd_some h
        obtain ⟨hi7, h⟩ := gd_some h
        refine mt_16 hx hb hK hP hJ hS (by decide) (inb_in hi6) hi7 de_M_resource_45 (fun H locs hP hS => ?_)
        obtain ⟨σ8, eσ8, h⟩ := lx_ex h
        rw [← eσ8] at hP
        refine lv_aload_n hx hb de_M_resource_46 rfl (lv_at hl 0 rfl) ?_
        refine lv_iload_n hx hb de_M_resource_47 rfl (lv_at hl 1 rfl) ?_
        obtain ⟨r9, hr9, h⟩ := bd_some h
        refine mq_v (va_runV (As := [.int x1]) (rest := []) S (c_M_serve l D aa q hJ σ8 x1 r9 hr9) (cwV 1 ht (gv_in tw_3_88 tw_3_90 ts_M_serve tw_1_7 tc_M_serve) rfl rfl rfl bh_M_serve ⟨Nat.le_of_ble_eq_true rfl, Nat.le_of_ble_eq_true rfl⟩) (mpreV hK hP (mr_0 hK hP (by decide))) rfl rfl hl.1 rfl (lv_room (Nat.le_of_ble_eq_true rfl)) de_M_resource_48 ⟨Nat.zero_le _, Nat.zero_le _⟩) hS (fun H locs hP hS => ?_)
        refine lv_iconst (v := 1) hx hb de_M_resource_51 (by decide) ?_
        have h := Option.some.inj h
        subst h
        exact W.zret (v := 1) hx hb hr rfl (fun t ht hW => ⟨⟨_, _, rfl, ⟨rfl, rfl⟩, by rw [ht]; exact hP, va_K.moved hW.alike hK⟩, hS.F ht⟩) hS.2.2 de_M_resource_52 hlocks
      · have h := ie_f h hc
        refine lv_iconst (v := 0) hx hb de_M_resource_30 (by decide) ?_
        have h := Option.some.inj h
        subst h
        exact W.zret (v := 0) hx hb hr rfl (fun t ht hW => ⟨⟨_, _, rfl, ⟨rfl, rfl⟩, by rw [ht]; exact hP, va_K.moved hW.alike hK⟩, hS.F ht⟩) hS.2.2 de_M_resource_31 hlocks
set_option maxHeartbeats 4000000 in
set_option maxRecDepth 100000 in
theorem c_M_tank (l : Launch) (D : va_G) (aa : Nat → Nat → Nat) (q : Nat → ClassId) (hJ : wJ mC aa) (σ : kS) (x1 : Int32) (x2 : Int32) (x3 : Int32) (res : Int32 × kS) (h : F_M_tank σ x1 x2 x3 = some res) : Met l by_M_tank (.code by_M_tank bc_M_tank 4 (some .boolean) :: lw_g) brm_M_tank (va_Pc [.ref (aa 0 0), .int x1, .int x2, .int x3] (mPre D aa q σ)) (va_Qi (fun (r : Int32) (u : kS) => r = res.1 ∧ u = res.2) (mB D aa q) (wA mC aa)) 0 0 (wA mC aa) := by
  refine Met.ofW (cc := bc_M_tank) (maxL := 4) (ret := (some .boolean)) (by decide) rfl ?_
  intro p e s m args below meth c s₁ B hml hv
  obtain ⟨rfl, hP, hK⟩ := hv
  have hx := B.exec
  have hb := B.bytes
  have hr := B.returns
  have ht : ∀ w ∈ lw_g, w.before ([.ref (aa 0 0), .int x1, .int x2, .int x3] : List Value).toArray s = true := fun w h => atoms_spec (ws := .code by_M_tank bc_M_tank 4 (some .boolean) :: lw_g) B.pre w (List.mem_cons_of_mem _ h)
  have hown : s.vm.findClass bR_M = some m.cls := findClass_of_methodNamed B.named
  have hlocks := B.notSynchronized
  have S : CallFix p m c bc_M_tank 4 s ([.ref (aa 0 0), .int x1, .int x2, .int x3] : List Value).toArray lw_g bR_M := ⟨hx, hb, hml, hown, ht⟩
  have hS : va_S (wA mC aa) s.heap s.heap [] := va_S.rf
  have hl := lv_entry ([.ref (aa 0 0), .int x1, .int x2, .int x3]) (n := 4) (Nat.le_of_ble_eq_true rfl)
  rw [lg_entry_eq]
  generalize (lg_sl ([.ref (aa 0 0), .int x1, .int x2, .int x3]) ++ List.replicate (4 - (lg_sl ([.ref (aa 0 0), .int x1, .int x2, .int x3])).length) Slot.unset).toArray = ls at hl ⊢
  have hl : lv_has ls 4 [(0, .ref (aa 0 0)), (1, .int x1), (2, .int x2), (3, .int x3)] := hl
  unfold F_M_tank at h
  refine lv_aload_n hx hb de_M_tank_0 rfl (lv_at hl 0 rfl) ?_
  refine lv_iload_n hx hb de_M_tank_1 rfl (lv_at hl 1 rfl) ?_
  refine lv_iconst (v := 0) hx hb de_M_tank_2 (by decide) ?_
  refine lv_iconst (v := 3) hx hb de_M_tank_3 (by decide) ?_
  obtain ⟨r1, hr1, h⟩ := bd_some h
  refine mq_i (va_runV (As := [.int x1, .int 0, .int 3]) (rest := []) S (c_M_within l D aa q hJ σ x1 0 3 r1 hr1) (cwV 3 ht (gv_in tw_3_71 tw_3_73 ts_M_within tw_1_7 tc_M_within) rfl rfl rfl bh_M_within ⟨Nat.le_of_ble_eq_true rfl, Nat.le_of_ble_eq_true rfl⟩) (mpreV hK hP (mr_0 hK hP (by decide))) rfl rfl hl.1 rfl (lv_room (Nat.le_of_ble_eq_true rfl)) de_M_tank_4 ⟨Nat.zero_le _, Nat.zero_le _⟩) hS (fun H locs hP hS => ?_)
  refine lv_if_eq (tgt := 32) hx hb de_M_tank_7 (by decide) (fun hc => ?_) (fun hc => ?_)
  · have h := ie_t h hc
    refine lv_iconst (v := 0) hx hb de_M_tank_32 (by decide) ?_
    have h := Option.some.inj h
    subst h
    exact W.zret (v := 0) hx hb hr rfl (fun t ht hW => ⟨⟨_, _, rfl, ⟨rfl, rfl⟩, by rw [ht]; exact hP, va_K.moved hW.alike hK⟩, hS.F ht⟩) hS.2.2 de_M_tank_33 hlocks
  · have h := ie_f h hc
    refine lv_aload_n hx hb de_M_tank_10 rfl (lv_at hl 0 rfl) ?_
    refine lv_iload_n hx hb de_M_tank_11 rfl (lv_at hl 2 rfl) ?_
    refine lv_iconst (v := 0) hx hb de_M_tank_12 (by decide) ?_
    refine lv_sipush (v := 1000) hx hb de_M_tank_13 (by decide) ?_
    obtain ⟨r2, hr2, h⟩ := bd_some h
    refine mq_i (va_runV (As := [.int x2, .int 0, .int 1000]) (rest := []) S (c_M_within l D aa q hJ σ x2 0 1000 r2 hr2) (cwV 3 ht (gv_in tw_3_71 tw_3_73 ts_M_within tw_1_7 tc_M_within) rfl rfl rfl bh_M_within ⟨Nat.le_of_ble_eq_true rfl, Nat.le_of_ble_eq_true rfl⟩) (mpreV hK hP (mr_0 hK hP (by decide))) rfl rfl hl.1 rfl (lv_room (Nat.le_of_ble_eq_true rfl)) de_M_tank_16 ⟨Nat.zero_le _, Nat.zero_le _⟩) hS (fun H locs hP hS => ?_)
    refine lv_if_eq (tgt := 32) hx hb de_M_tank_19 (by decide) (fun hc => ?_) (fun hc => ?_)
    · have h := ie_t h hc
      refine lv_iconst (v := 0) hx hb de_M_tank_32 (by decide) ?_
      have h := Option.some.inj h
      subst h
      exact W.zret (v := 0) hx hb hr rfl (fun t ht hW => ⟨⟨_, _, rfl, ⟨rfl, rfl⟩, by rw [ht]; exact hP, va_K.moved hW.alike hK⟩, hS.F ht⟩) hS.2.2 de_M_tank_33 hlocks
    · have h := ie_f h hc
      refine lv_aload_n hx hb de_M_tank_22 rfl (lv_at hl 0 rfl) ?_
      refine lv_iload_n hx hb de_M_tank_23 rfl (lv_at hl 3 rfl) ?_
      refine lv_iconst (v := 0) hx hb de_M_tank_24 (by decide) ?_
      refine lv_iload_n hx hb de_M_tank_25 rfl (lv_at hl 2 rfl) ?_
      obtain ⟨r3, hr3, h⟩ := bd_some h
      refine mq_i (va_runV (As := [.int x3, .int 0, .int x2]) (rest := []) S (c_M_within l D aa q hJ σ x3 0 x2 r3 hr3) (cwV 3 ht (gv_in tw_3_71 tw_3_73 ts_M_within tw_1_7 tc_M_within) rfl rfl rfl bh_M_within ⟨Nat.le_of_ble_eq_true rfl, Nat.le_of_ble_eq_true rfl⟩) (mpreV hK hP (mr_0 hK hP (by decide))) rfl rfl hl.1 rfl (lv_room (Nat.le_of_ble_eq_true rfl)) de_M_tank_26 ⟨Nat.zero_le _, Nat.zero_le _⟩) hS (fun H locs hP hS => ?_)
      refine lv_if_ne (tgt := 34) hx hb de_M_tank_29 (by decide) (fun hc => ?_) (fun hc => ?_)
      · have h := ie_f h hc
        refine lv_aload_n hx hb de_M_tank_34 rfl (lv_at hl 0 rfl) ?_
        refine mg_0 (v := .ref (aa 19 0)) hx hb ht hown hK hP (by decide) 23 (by decide) tw_2_238 rfl de_M_tank_35 ?_
        refine lv_iload_n hx hb de_M_tank_38 rfl (lv_at hl 1 rfl) ?_
        refine lv_iload_n hx hb de_M_tank_39 rfl (lv_at hl 2 rfl) ?_
        obtain ⟨hi4, h⟩ := gd_some h
        refine mt_19 hx hb hK hP hJ hS (by decide) (inb_in hi4) de_M_tank_40 (fun H locs hP hS => ?_)
        obtain ⟨σ5, eσ5, h⟩ := lx_ex h
        rw [← eσ5] at hP
        refine lv_aload_n hx hb de_M_tank_41 rfl (lv_at hl 0 rfl) ?_
        refine mg_0 (v := .ref (aa 20 0)) hx hb ht hown hK hP (by decide) 24 (by decide) tw_2_239 rfl de_M_tank_42 ?_
        refine lv_iload_n hx hb de_M_tank_45 rfl (lv_at hl 1 rfl) ?_
        refine lv_iload_n hx hb de_M_tank_46 rfl (lv_at hl 3 rfl) ?_
        obtain ⟨hi6, h⟩ := gd_some h
        refine mt_20 hx hb hK hP hJ hS (by decide) (inb_in hi6) de_M_tank_47 (fun H locs hP hS => ?_)
        obtain ⟨σ7, eσ7, h⟩ := lx_ex h
        rw [← eσ7] at hP
        refine lv_iconst (v := 1) hx hb de_M_tank_48 (by decide) ?_
        have h := Option.some.inj h
        subst h
        exact W.zret (v := 1) hx hb hr rfl (fun t ht hW => ⟨⟨_, _, rfl, ⟨rfl, rfl⟩, by rw [ht]; exact hP, va_K.moved hW.alike hK⟩, hS.F ht⟩) hS.2.2 de_M_tank_49 hlocks
      · have h := ie_t h hc
        refine lv_iconst (v := 0) hx hb de_M_tank_32 (by decide) ?_
        have h := Option.some.inj h
        subst h
        exact W.zret (v := 0) hx hb hr rfl (fun t ht hW => ⟨⟨_, _, rfl, ⟨rfl, rfl⟩, by rw [ht]; exact hP, va_K.moved hW.alike hK⟩, hS.F ht⟩) hS.2.2 de_M_tank_33 hlocks
set_option maxHeartbeats 4000000 in
set_option maxRecDepth 100000 in
theorem c_M_sooner (l : Launch) (D : va_G) (aa : Nat → Nat → Nat) (q : Nat → ClassId) (hJ : wJ mC aa) (σ : kS) (x1 : Int32) (x2 : Int32) (res : Int32) (h : F_M_sooner σ x1 x2 = some res) : Met l by_M_sooner (.code by_M_sooner bc_M_sooner 3 (some .boolean) :: lw_g) brm_M_sooner (va_Pc [.ref (aa 0 0), .int x1, .int x2] (mPre D aa q σ)) (va_Qi (fun (r : Int32) (u : kS) => r = res ∧ u = σ) (mB D aa q) (wA mC aa)) 0 0 (wA mC aa) := by
  refine Met.ofW (cc := bc_M_sooner) (maxL := 3) (ret := (some .boolean)) (by decide) rfl ?_
  intro p e s m args below meth c s₁ B hml hv
  obtain ⟨rfl, hP, hK⟩ := hv
  have hx := B.exec
  have hb := B.bytes
  have hr := B.returns
  have ht : ∀ w ∈ lw_g, w.before ([.ref (aa 0 0), .int x1, .int x2] : List Value).toArray s = true := fun w h => atoms_spec (ws := .code by_M_sooner bc_M_sooner 3 (some .boolean) :: lw_g) B.pre w (List.mem_cons_of_mem _ h)
  have hown : s.vm.findClass bR_M = some m.cls := findClass_of_methodNamed B.named
  have hlocks := B.notSynchronized
  have S : CallFix p m c bc_M_sooner 3 s ([.ref (aa 0 0), .int x1, .int x2] : List Value).toArray lw_g bR_M := ⟨hx, hb, hml, hown, ht⟩
  have hS : va_S (wA mC aa) s.heap s.heap [] := va_S.rf
  have hl := lv_entry ([.ref (aa 0 0), .int x1, .int x2]) (n := 3) (Nat.le_of_ble_eq_true rfl)
  rw [lg_entry_eq]
  generalize (lg_sl ([.ref (aa 0 0), .int x1, .int x2]) ++ List.replicate (3 - (lg_sl ([.ref (aa 0 0), .int x1, .int x2])).length) Slot.unset).toArray = ls at hl ⊢
  have hl : lv_has ls 3 [(0, .ref (aa 0 0)), (1, .int x1), (2, .int x2)] := hl
  unfold F_M_sooner at h
  refine lv_aload_n hx hb de_M_sooner_0 rfl (lv_at hl 0 rfl) ?_
  refine mg_0 (v := .ref (aa 7 0)) hx hb ht hown hK hP (by decide) 11 (by decide) tw_2_226 rfl de_M_sooner_1 ?_
  refine lv_iload_n hx hb de_M_sooner_4 rfl (lv_at hl 1 rfl) ?_
  obtain ⟨hi1, h⟩ := gd_some h
  refine ml_7 hx hb hK hP (by decide) (inb_in hi1) de_M_sooner_5 ?_
  refine lv_aload_n hx hb de_M_sooner_6 rfl (lv_at hl 0 rfl) ?_
  refine mg_0 (v := .ref (aa 7 0)) hx hb ht hown hK hP (by decide) 11 (by decide) tw_2_226 rfl de_M_sooner_7 ?_
  refine lv_iload_n hx hb de_M_sooner_10 rfl (lv_at hl 2 rfl) ?_
  obtain ⟨hi2, h⟩ := gd_some h
  refine ml_7 hx hb hK hP (by decide) (inb_in hi2) de_M_sooner_11 ?_
  refine W.lcmp hx hb de_M_sooner_12 ?_
  refine lv_if_eq (tgt := 38) hx hb de_M_sooner_13 (by decide) (fun hc => ?_) (fun hc => ?_)
  · have h := ie_t h hc
    refine lv_aload_n hx hb de_M_sooner_38 rfl (lv_at hl 0 rfl) ?_
    refine mg_0 (v := .ref (aa 1 0)) hx hb ht hown hK hP (by decide) 5 (by decide) tw_2_220 rfl de_M_sooner_39 ?_
    refine lv_iload_n hx hb de_M_sooner_42 rfl (lv_at hl 1 rfl) ?_
    obtain ⟨hi3, h⟩ := gd_some h
    refine ml_1 hx hb hK hP (by decide) (inb_in hi3) de_M_sooner_43 ?_
    refine lv_aload_n hx hb de_M_sooner_44 rfl (lv_at hl 0 rfl) ?_
    refine mg_0 (v := .ref (aa 1 0)) hx hb ht hown hK hP (by decide) 5 (by decide) tw_2_220 rfl de_M_sooner_45 ?_
    refine lv_iload_n hx hb de_M_sooner_48 rfl (lv_at hl 2 rfl) ?_
    obtain ⟨hi4, h⟩ := gd_some h
    refine ml_1 hx hb hK hP (by decide) (inb_in hi4) de_M_sooner_49 ?_
    refine lv_icmp_eq (tgt := 76) hx hb de_M_sooner_50 (by decide) (fun hc => ?_) (fun hc => ?_)
    · have h := ie_t h hc
      refine lv_aload_n hx hb de_M_sooner_76 rfl (lv_at hl 0 rfl) ?_
      refine mg_0 (v := .ref (aa 8 0)) hx hb ht hown hK hP (by decide) 12 (by decide) tw_2_227 rfl de_M_sooner_77 ?_
      refine lv_iload_n hx hb de_M_sooner_80 rfl (lv_at hl 1 rfl) ?_
      obtain ⟨hi5, h⟩ := gd_some h
      refine ml_8 hx hb hK hP (by decide) (inb_in hi5) de_M_sooner_81 ?_
      refine lv_aload_n hx hb de_M_sooner_82 rfl (lv_at hl 0 rfl) ?_
      refine mg_0 (v := .ref (aa 8 0)) hx hb ht hown hK hP (by decide) 12 (by decide) tw_2_227 rfl de_M_sooner_83 ?_
      refine lv_iload_n hx hb de_M_sooner_86 rfl (lv_at hl 2 rfl) ?_
      obtain ⟨hi6, h⟩ := gd_some h
      refine ml_8 hx hb hK hP (by decide) (inb_in hi6) de_M_sooner_87 ?_
      refine lv_icmp_ge (tgt := 95) hx hb de_M_sooner_88 (by decide) (fun hc => ?_) (fun hc => ?_)
      · have h := ie_t h hc
        refine lv_iconst (v := 0) hx hb de_M_sooner_95 (by decide) ?_
        have h := Option.some.inj h
        subst h
        exact W.zret (v := 0) hx hb hr rfl (fun t ht hW => ⟨⟨_, _, rfl, ⟨rfl, rfl⟩, by rw [ht]; exact hP, va_K.moved hW.alike hK⟩, hS.F ht⟩) hS.2.2 de_M_sooner_96 hlocks
      · have h := ie_f h hc
        refine lv_iconst (v := 1) hx hb de_M_sooner_91 (by decide) ?_
        refine lv_goto (tgt := 96) hx hb de_M_sooner_92 (by decide) ?_
        have h := Option.some.inj h
        subst h
        exact W.zret (v := 1) hx hb hr rfl (fun t ht hW => ⟨⟨_, _, rfl, ⟨rfl, rfl⟩, by rw [ht]; exact hP, va_K.moved hW.alike hK⟩, hS.F ht⟩) hS.2.2 de_M_sooner_96 hlocks
    · have h := ie_f h hc
      refine lv_aload_n hx hb de_M_sooner_53 rfl (lv_at hl 0 rfl) ?_
      refine mg_0 (v := .ref (aa 1 0)) hx hb ht hown hK hP (by decide) 5 (by decide) tw_2_220 rfl de_M_sooner_54 ?_
      refine lv_iload_n hx hb de_M_sooner_57 rfl (lv_at hl 1 rfl) ?_
      obtain ⟨hi7, h⟩ := gd_some h
      refine ml_1 hx hb hK hP (by decide) (inb_in hi7) de_M_sooner_58 ?_
      refine lv_aload_n hx hb de_M_sooner_59 rfl (lv_at hl 0 rfl) ?_
      refine mg_0 (v := .ref (aa 1 0)) hx hb ht hown hK hP (by decide) 5 (by decide) tw_2_220 rfl de_M_sooner_60 ?_
      refine lv_iload_n hx hb de_M_sooner_63 rfl (lv_at hl 2 rfl) ?_
      obtain ⟨hi8, h⟩ := gd_some h
      refine ml_1 hx hb hK hP (by decide) (inb_in hi8) de_M_sooner_64 ?_
      refine lv_icmp_ge (tgt := 72) hx hb de_M_sooner_65 (by decide) (fun hc => ?_) (fun hc => ?_)
      · have h := ie_t h hc
        refine lv_iconst (v := 0) hx hb de_M_sooner_72 (by decide) ?_
        refine lv_goto (tgt := 96) hx hb de_M_sooner_73 (by decide) ?_
        have h := Option.some.inj h
        subst h
        exact W.zret (v := 0) hx hb hr rfl (fun t ht hW => ⟨⟨_, _, rfl, ⟨rfl, rfl⟩, by rw [ht]; exact hP, va_K.moved hW.alike hK⟩, hS.F ht⟩) hS.2.2 de_M_sooner_96 hlocks
      · have h := ie_f h hc
        refine lv_iconst (v := 1) hx hb de_M_sooner_68 (by decide) ?_
        refine lv_goto (tgt := 96) hx hb de_M_sooner_69 (by decide) ?_
        have h := Option.some.inj h
        subst h
        exact W.zret (v := 1) hx hb hr rfl (fun t ht hW => ⟨⟨_, _, rfl, ⟨rfl, rfl⟩, by rw [ht]; exact hP, va_K.moved hW.alike hK⟩, hS.F ht⟩) hS.2.2 de_M_sooner_96 hlocks
  · have h := ie_f h hc
    refine lv_aload_n hx hb de_M_sooner_16 rfl (lv_at hl 0 rfl) ?_
    refine mg_0 (v := .ref (aa 7 0)) hx hb ht hown hK hP (by decide) 11 (by decide) tw_2_226 rfl de_M_sooner_17 ?_
    refine lv_iload_n hx hb de_M_sooner_20 rfl (lv_at hl 1 rfl) ?_
    obtain ⟨hi9, h⟩ := gd_some h
    refine ml_7 hx hb hK hP (by decide) (inb_in hi9) de_M_sooner_21 ?_
    refine lv_aload_n hx hb de_M_sooner_22 rfl (lv_at hl 0 rfl) ?_
    refine mg_0 (v := .ref (aa 7 0)) hx hb ht hown hK hP (by decide) 11 (by decide) tw_2_226 rfl de_M_sooner_23 ?_
    refine lv_iload_n hx hb de_M_sooner_26 rfl (lv_at hl 2 rfl) ?_
    obtain ⟨hi10, h⟩ := gd_some h
    refine ml_7 hx hb hK hP (by decide) (inb_in hi10) de_M_sooner_27 ?_
    refine W.lcmp hx hb de_M_sooner_28 ?_
    refine lv_if_ge (tgt := 36) hx hb de_M_sooner_29 (by decide) (fun hc => ?_) (fun hc => ?_)
    · have h := ie_t h hc
      refine lv_iconst (v := 0) hx hb de_M_sooner_36 (by decide) ?_
      have h := Option.some.inj h
      subst h
      exact W.zret (v := 0) hx hb hr rfl (fun t ht hW => ⟨⟨_, _, rfl, ⟨rfl, rfl⟩, by rw [ht]; exact hP, va_K.moved hW.alike hK⟩, hS.F ht⟩) hS.2.2 de_M_sooner_37 hlocks
    · have h := ie_f h hc
      refine lv_iconst (v := 1) hx hb de_M_sooner_32 (by decide) ?_
      refine lv_goto (tgt := 37) hx hb de_M_sooner_33 (by decide) ?_
      have h := Option.some.inj h
      subst h
      exact W.zret (v := 1) hx hb hr rfl (fun t ht hW => ⟨⟨_, _, rfl, ⟨rfl, rfl⟩, by rw [ht]; exact hP, va_K.moved hW.alike hK⟩, hS.F ht⟩) hS.2.2 de_M_sooner_37 hlocks
set_option maxHeartbeats 4000000 in
set_option maxRecDepth 100000 in
theorem w_M_first_4 {p : Program} {l : Launch} {e : Env} {s : State} {m : MethodId} {args : Array Value} {below : List Frame} {meth : Method} {c : Code} {Q : State → Prop} {D : va_G} {aa : Nat → Nat → Nat} {q : Nat → ClassId} (hJ : wJ mC aa) (S : CallFix p m c bc_M_first 3 s args lw_g bR_M) (hlocks : meth.locks = false) (hK : va_K D mCl (mT q) s) : ∀ (n : Nat) (σ : kS) (x1 : Int32) (x2 : Int32) (ex : Int32 × Int32) (H : Heap) (locs : List Loc) (ls : Array Slot), lv_has ls 3 [(0, .ref (aa 0 0)), (1, .int x1), (2, .int x2)] → va_P D mCl (mW aa q σ) H → va_S (wA mC aa) s.heap H locs → F_M_first_4 n σ x1 x2 = some ex → (∀ (H1 : Heap) (locs1 : List Loc) (ls1 : Array Slot), lv_has ls1 3 [(0, .ref (aa 0 0)), (1, .int ex.1), (2, .int ex.2)] → va_P D mCl (mW aa q σ) H1 → va_S (wA mC aa) s.heap H1 locs1 → W p l e brm_M_first s m args below meth c H1 locs1 0 0 Q (F0 m 42 ls1 [])) → W p l e brm_M_first s m args below meth c H locs 0 0 Q (F0 m 4 ls []) := by
  obtain ⟨hx, hb, hml, hown, hts⟩ := id S
  have ht := hts
  intro n
  induction n with
  | zero => intro σ x1 x2 ex H locs ls hl hP hS h k; cases (show (none : Option (Int32 × Int32)) = some ex from h)
  | succ n ih =>
    intro σ x1 x2 ex H locs ls hl hP hS h k
    unfold F_M_first_4 at h
    refine lv_iload_n hx hb de_M_first_4 rfl (lv_at hl 2 rfl) ?_
    refine lv_aload_n hx hb de_M_first_5 rfl (lv_at hl 0 rfl) ?_
    refine mg_0 (v := .int (gI σ 30 0 0)) hx hb ht hown hK hP (by decide) 0 (by decide) tw_2_215 rfl de_M_first_6 ?_
    refine lv_icmp_ge (tgt := 42) hx hb de_M_first_9 (by decide) (fun hc => ?_) (fun hc => ?_)
    · have h := ie_t h hc
      have h := Option.some.inj h
      subst h
      exact k _ _ _ (lv_sub hl [0, 1, 2] rfl) hP hS
    · have h := ie_f h hc
      refine lv_aload_n hx hb de_M_first_12 rfl (lv_at hl 0 rfl) ?_
      refine mg_0 (v := .ref (aa 8 0)) hx hb ht hown hK hP (by decide) 12 (by decide) tw_2_227 rfl de_M_first_13 ?_
      refine lv_iload_n hx hb de_M_first_16 rfl (lv_at hl 2 rfl) ?_
      obtain ⟨hi1, h⟩ := gd_some h
      refine ml_8 hx hb hK hP (by decide) (inb_in hi1) de_M_first_17 ?_
      refine lv_if_lt (tgt := 36) hx hb de_M_first_18 (by decide) (fun hc => ?_) (fun hc => ?_)
      · have h := ie_t h hc
        refine lv_iinc (k := 2) (v := x2 + 1) (lv' := [(2, .int (x2 + 1)), (0, .ref (aa 0 0)), (1, .int x1)]) hx hb de_M_first_36 hl rfl (ii_p1 _) (by decide) rfl (fun ls hl => ?_)
        refine lv_goto (tgt := 4) hx hb de_M_first_39 (by decide) ?_
        exact ih σ x1 (x2 + 1) ex _ _ _ (lv_sub hl [1, 2, 0] rfl) hP hS h k
      · have h := ie_f h hc
        refine lv_iload_n hx hb de_M_first_21 rfl (lv_at hl 1 rfl) ?_
        refine lv_if_lt (tgt := 34) hx hb de_M_first_22 (by decide) (fun hc => ?_) (fun hc => ?_)
        · have h := ie_t h hc
          refine lv_iload_n hx hb de_M_first_34 rfl (lv_at hl 2 rfl) ?_
          refine lv_istore_n (lv' := [(1, .int x2), (0, .ref (aa 0 0)), (2, .int x2)]) hx hb de_M_first_35 rfl hl (by decide) rfl (fun ls hl => ?_)
          refine lv_iinc (k := 2) (v := x2 + 1) (lv' := [(2, .int (x2 + 1)), (1, .int x2), (0, .ref (aa 0 0))]) hx hb de_M_first_36 hl rfl (ii_p1 _) (by decide) rfl (fun ls hl => ?_)
          refine lv_goto (tgt := 4) hx hb de_M_first_39 (by decide) ?_
          exact ih σ x2 (x2 + 1) ex _ _ _ (lv_sub hl [2, 1, 0] rfl) hP hS h k
        · have h := ie_f h hc
          refine lv_aload_n hx hb de_M_first_25 rfl (lv_at hl 0 rfl) ?_
          refine lv_iload_n hx hb de_M_first_26 rfl (lv_at hl 2 rfl) ?_
          refine lv_iload_n hx hb de_M_first_27 rfl (lv_at hl 1 rfl) ?_
          obtain ⟨r2, hr2, h⟩ := bd_some h
          refine mq_i (va_runV (As := [.int x2, .int x1]) (rest := []) S (c_M_sooner l D aa q hJ σ x2 x1 r2 hr2) (cwV 2 ht (gv_in tw_3_121 tw_3_123 ts_M_sooner tw_1_7 tc_M_sooner) rfl rfl rfl bh_M_sooner ⟨Nat.le_of_ble_eq_true rfl, Nat.le_of_ble_eq_true rfl⟩) (mpreV hK hP (mr_0 hK hP (by decide))) rfl rfl hl.1 rfl (lv_room (Nat.le_of_ble_eq_true rfl)) de_M_first_28 ⟨Nat.zero_le _, Nat.zero_le _⟩) hS (fun H locs hP hS => ?_)
          refine lv_if_eq (tgt := 36) hx hb de_M_first_31 (by decide) (fun hc => ?_) (fun hc => ?_)
          · have h := ie_t h hc
            refine lv_iinc (k := 2) (v := x2 + 1) (lv' := [(2, .int (x2 + 1)), (0, .ref (aa 0 0)), (1, .int x1)]) hx hb de_M_first_36 hl rfl (ii_p1 _) (by decide) rfl (fun ls hl => ?_)
            refine lv_goto (tgt := 4) hx hb de_M_first_39 (by decide) ?_
            exact ih σ x1 (x2 + 1) ex _ _ _ (lv_sub hl [1, 2, 0] rfl) hP hS h k
          · have h := ie_f h hc
            refine lv_iload_n hx hb de_M_first_34 rfl (lv_at hl 2 rfl) ?_
            refine lv_istore_n (lv' := [(1, .int x2), (0, .ref (aa 0 0)), (2, .int x2)]) hx hb de_M_first_35 rfl hl (by decide) rfl (fun ls hl => ?_)
            refine lv_iinc (k := 2) (v := x2 + 1) (lv' := [(2, .int (x2 + 1)), (1, .int x2), (0, .ref (aa 0 0))]) hx hb de_M_first_36 hl rfl (ii_p1 _) (by decide) rfl (fun ls hl => ?_)
            refine lv_goto (tgt := 4) hx hb de_M_first_39 (by decide) ?_
            exact ih σ x2 (x2 + 1) ex _ _ _ (lv_sub hl [2, 1, 0] rfl) hP hS h k
set_option maxHeartbeats 4000000 in
set_option maxRecDepth 100000 in
theorem c_M_first (l : Launch) (D : va_G) (aa : Nat → Nat → Nat) (q : Nat → ClassId) (hJ : wJ mC aa) (σ : kS) (res : Int32) (h : F_M_first σ = some res) : Met l by_M_first (.code by_M_first bc_M_first 3 (some .int) :: lw_g) brm_M_first (va_Pc [.ref (aa 0 0)] (mPre D aa q σ)) (va_Qi (fun (r : Int32) (u : kS) => r = res ∧ u = σ) (mB D aa q) (wA mC aa)) 0 0 (wA mC aa) := by
  refine Met.ofW (cc := bc_M_first) (maxL := 3) (ret := (some .int)) (by decide) rfl ?_
  intro p e s m args below meth c s₁ B hml hv
  obtain ⟨rfl, hP, hK⟩ := hv
  have hx := B.exec
  have hb := B.bytes
  have hr := B.returns
  have ht : ∀ w ∈ lw_g, w.before ([.ref (aa 0 0)] : List Value).toArray s = true := fun w h => atoms_spec (ws := .code by_M_first bc_M_first 3 (some .int) :: lw_g) B.pre w (List.mem_cons_of_mem _ h)
  have hown : s.vm.findClass bR_M = some m.cls := findClass_of_methodNamed B.named
  have hlocks := B.notSynchronized
  have S : CallFix p m c bc_M_first 3 s ([.ref (aa 0 0)] : List Value).toArray lw_g bR_M := ⟨hx, hb, hml, hown, ht⟩
  have hS : va_S (wA mC aa) s.heap s.heap [] := va_S.rf
  have hl := lv_entry ([.ref (aa 0 0)]) (n := 3) (Nat.le_of_ble_eq_true rfl)
  rw [lg_entry_eq]
  generalize (lg_sl ([.ref (aa 0 0)]) ++ List.replicate (3 - (lg_sl ([.ref (aa 0 0)])).length) Slot.unset).toArray = ls at hl ⊢
  have hl : lv_has ls 3 [(0, .ref (aa 0 0))] := hl
  unfold F_M_first at h
  refine lv_iconst (v := (-1)) hx hb de_M_first_0 (by decide) ?_
  refine lv_istore_n (lv' := [(1, .int (-1)), (0, .ref (aa 0 0))]) hx hb de_M_first_1 rfl hl (by decide) rfl (fun ls hl => ?_)
  refine lv_iconst (v := 0) hx hb de_M_first_2 (by decide) ?_
  refine lv_istore_n (lv' := [(2, .int 0), (1, .int (-1)), (0, .ref (aa 0 0))]) hx hb de_M_first_3 rfl hl (by decide) rfl (fun ls hl => ?_)
  obtain ⟨ex1, hex1, h⟩ := bd_some h
  refine w_M_first_4 hJ S hlocks hK 1000 σ (-1) 0 ex1 _ _ _ (lv_sub hl [2, 1, 0] rfl) hP hS hex1 (fun H locs ls hl hP hS => ?_)
  refine lv_iload_n hx hb de_M_first_42 rfl (lv_at hl 1 rfl) ?_
  have h := Option.some.inj h
  subst h
  exact W.iret (v := ex1.1) hx hb hr (fun t ht hW => ⟨⟨_, _, rfl, ⟨rfl, rfl⟩, by rw [ht]; exact hP, va_K.moved hW.alike hK⟩, hS.F ht⟩) hS.2.2 de_M_first_43 hlocks
set_option maxHeartbeats 4000000 in
set_option maxRecDepth 100000 in
theorem w_M_reach_9 {p : Program} {l : Launch} {e : Env} {s : State} {m : MethodId} {args : Array Value} {below : List Frame} {meth : Method} {c : Code} {Q : State → Prop} {D : va_G} {aa : Nat → Nat → Nat} {q : Nat → ClassId} (hJ : wJ mC aa) (S : CallFix p m c bc_M_reach 5 s args lw_g bR_M) (hlocks : meth.locks = false) (hK : va_K D mCl (mT q) s) : ∀ (n : Nat) (σ : kS) (x1 : Int32) (x2 : Int32) (x3 : Int32) (x4 : Int32) (ex : Int32 × Int32) (H : Heap) (locs : List Loc) (ls : Array Slot), lv_has ls 5 [(0, .ref (aa 0 0)), (1, .int x1), (2, .int x2), (3, .int x3), (4, .int x4)] → va_P D mCl (mW aa q σ) H → va_S (wA mC aa) s.heap H locs → F_M_reach_9 n σ x1 x2 x3 x4 = some ex → (∀ (H1 : Heap) (locs1 : List Loc) (ls1 : Array Slot), lv_has ls1 5 [(0, .ref (aa 0 0)), (1, .int x1), (2, .int x2), (3, .int ex.1), (4, .int ex.2)] → va_P D mCl (mW aa q σ) H1 → va_S (wA mC aa) s.heap H1 locs1 → W p l e brm_M_reach s m args below meth c H1 locs1 0 0 Q (F0 m 58 ls1 [])) → W p l e brm_M_reach s m args below meth c H locs 0 0 Q (F0 m 9 ls []) := by
  obtain ⟨hx, hb, hml, hown, hts⟩ := id S
  have ht := hts
  intro n
  induction n with
  | zero => intro σ x1 x2 x3 x4 ex H locs ls hl hP hS h k; cases (show (none : Option (Int32 × Int32)) = some ex from h)
  | succ n ih =>
    intro σ x1 x2 x3 x4 ex H locs ls hl hP hS h k
    unfold F_M_reach_9 at h
    refine lv_iload hx hb de_M_reach_9 (lv_at hl 4 rfl) ?_
    refine lv_aload_n hx hb de_M_reach_11 rfl (lv_at hl 0 rfl) ?_
    refine mg_0 (v := .int (gI σ 30 0 0)) hx hb ht hown hK hP (by decide) 0 (by decide) tw_2_215 rfl de_M_reach_12 ?_
    refine lv_icmp_ge (tgt := 58) hx hb de_M_reach_15 (by decide) (fun hc => ?_) (fun hc => ?_)
    · have h := ie_t h hc
      have h := Option.some.inj h
      subst h
      exact k _ _ _ (lv_sub hl [0, 1, 2, 3, 4] rfl) hP hS
    · have h := ie_f h hc
      refine lv_iload_n hx hb de_M_reach_18 rfl (lv_at hl 3 rfl) ?_
      refine lv_aload_n hx hb de_M_reach_19 rfl (lv_at hl 0 rfl) ?_
      refine mg_0 (v := .ref (aa 1 0)) hx hb ht hown hK hP (by decide) 5 (by decide) tw_2_220 rfl de_M_reach_20 ?_
      refine lv_iload hx hb de_M_reach_23 (lv_at hl 4 rfl) ?_
      obtain ⟨hi1, h⟩ := gd_some h
      refine ml_1 hx hb hK hP (by decide) (inb_in hi1) de_M_reach_25 ?_
      refine lv_aload_n hx hb de_M_reach_26 rfl (lv_at hl 0 rfl) ?_
      refine mg_0 (v := .ref (aa 1 0)) hx hb ht hown hK hP (by decide) 5 (by decide) tw_2_220 rfl de_M_reach_27 ?_
      refine lv_iload_n hx hb de_M_reach_30 rfl (lv_at hl 1 rfl) ?_
      obtain ⟨hi2, h⟩ := gd_some h
      refine ml_1 hx hb hK hP (by decide) (inb_in hi2) de_M_reach_31 ?_
      refine lv_icmp_le (tgt := 49) hx hb de_M_reach_32 (by decide) (fun hc => ?_) (fun hc => ?_)
      · have h := ie_t h hc
        refine lv_iconst (v := 0) hx hb de_M_reach_49 (by decide) ?_
        refine lv_iadd hx hb de_M_reach_50 ?_
        refine lv_topi (fun v3 ev3 => ?_)
        have h := lx_at h v3 ev3
        refine lv_istore_n (lv' := [(3, .int v3), (0, .ref (aa 0 0)), (1, .int x1), (2, .int x2), (4, .int x4)]) hx hb de_M_reach_51 rfl hl (by decide) rfl (fun ls hl => ?_)
        refine lv_iinc (k := 4) (v := x4 + 1) (lv' := [(4, .int (x4 + 1)), (3, .int v3), (0, .ref (aa 0 0)), (1, .int x1), (2, .int x2)]) hx hb de_M_reach_52 hl rfl (ii_p1 _) (by decide) rfl (fun ls hl => ?_)
        refine lv_goto (tgt := 9) hx hb de_M_reach_55 (by decide) ?_
        exact ih σ x1 x2 v3 (x4 + 1) ex _ _ _ (lv_sub hl [2, 3, 4, 1, 0] rfl) hP hS h k
      · have h := ie_f h hc
        refine lv_aload_n hx hb de_M_reach_35 rfl (lv_at hl 0 rfl) ?_
        refine mg_0 (v := .ref (aa 14 0)) hx hb ht hown hK hP (by decide) 18 (by decide) tw_2_233 rfl de_M_reach_36 ?_
        refine lv_iconst (v := 4) hx hb de_M_reach_39 (by decide) ?_
        refine lv_iload hx hb de_M_reach_40 (lv_at hl 4 rfl) ?_
        refine lv_imul hx hb de_M_reach_42 ?_
        refine lv_iload_n hx hb de_M_reach_43 rfl (lv_at hl 2 rfl) ?_
        refine lv_iadd hx hb de_M_reach_44 ?_
        obtain ⟨hi4, h⟩ := gd_some h
        refine ml_14 hx hb hK hP (by decide) (inb_in hi4) de_M_reach_45 ?_
        refine lv_goto (tgt := 50) hx hb de_M_reach_46 (by decide) ?_
        refine lv_iadd hx hb de_M_reach_50 ?_
        refine lv_topi (fun v5 ev5 => ?_)
        have h := lx_at h v5 ev5
        refine lv_istore_n (lv' := [(3, .int v5), (0, .ref (aa 0 0)), (1, .int x1), (2, .int x2), (4, .int x4)]) hx hb de_M_reach_51 rfl hl (by decide) rfl (fun ls hl => ?_)
        refine lv_iinc (k := 4) (v := x4 + 1) (lv' := [(4, .int (x4 + 1)), (3, .int v5), (0, .ref (aa 0 0)), (1, .int x1), (2, .int x2)]) hx hb de_M_reach_52 hl rfl (ii_p1 _) (by decide) rfl (fun ls hl => ?_)
        refine lv_goto (tgt := 9) hx hb de_M_reach_55 (by decide) ?_
        exact ih σ x1 x2 v5 (x4 + 1) ex _ _ _ (lv_sub hl [2, 3, 4, 1, 0] rfl) hP hS h k
set_option maxHeartbeats 4000000 in
set_option maxRecDepth 100000 in
theorem c_M_reach (l : Launch) (D : va_G) (aa : Nat → Nat → Nat) (q : Nat → ClassId) (hJ : wJ mC aa) (σ : kS) (x1 : Int32) (x2 : Int32) (res : Int32) (h : F_M_reach σ x1 x2 = some res) : Met l by_M_reach (.code by_M_reach bc_M_reach 5 (some .int) :: lw_g) brm_M_reach (va_Pc [.ref (aa 0 0), .int x1, .int x2] (mPre D aa q σ)) (va_Qi (fun (r : Int32) (u : kS) => r = res ∧ u = σ) (mB D aa q) (wA mC aa)) 0 0 (wA mC aa) := by
  refine Met.ofW (cc := bc_M_reach) (maxL := 5) (ret := (some .int)) (by decide) rfl ?_
  intro p e s m args below meth c s₁ B hml hv
  obtain ⟨rfl, hP, hK⟩ := hv
  have hx := B.exec
  have hb := B.bytes
  have hr := B.returns
  have ht : ∀ w ∈ lw_g, w.before ([.ref (aa 0 0), .int x1, .int x2] : List Value).toArray s = true := fun w h => atoms_spec (ws := .code by_M_reach bc_M_reach 5 (some .int) :: lw_g) B.pre w (List.mem_cons_of_mem _ h)
  have hown : s.vm.findClass bR_M = some m.cls := findClass_of_methodNamed B.named
  have hlocks := B.notSynchronized
  have S : CallFix p m c bc_M_reach 5 s ([.ref (aa 0 0), .int x1, .int x2] : List Value).toArray lw_g bR_M := ⟨hx, hb, hml, hown, ht⟩
  have hS : va_S (wA mC aa) s.heap s.heap [] := va_S.rf
  have hl := lv_entry ([.ref (aa 0 0), .int x1, .int x2]) (n := 5) (Nat.le_of_ble_eq_true rfl)
  rw [lg_entry_eq]
  generalize (lg_sl ([.ref (aa 0 0), .int x1, .int x2]) ++ List.replicate (5 - (lg_sl ([.ref (aa 0 0), .int x1, .int x2])).length) Slot.unset).toArray = ls at hl ⊢
  have hl : lv_has ls 5 [(0, .ref (aa 0 0)), (1, .int x1), (2, .int x2)] := hl
  unfold F_M_reach at h
  refine lv_aload_n hx hb de_M_reach_0 rfl (lv_at hl 0 rfl) ?_
  refine lv_iload_n hx hb de_M_reach_1 rfl (lv_at hl 2 rfl) ?_
  obtain ⟨r1, hr1, h⟩ := bd_some h
  refine mq_i (va_runV (As := [.int x2]) (rest := []) S (c_M_rest l D aa q hJ σ x2 r1 hr1) (cwV 1 ht (gv_in tw_3_100 tw_3_102 ts_M_rest tw_1_7 tc_M_rest) rfl rfl rfl bh_M_rest ⟨Nat.le_of_ble_eq_true rfl, Nat.le_of_ble_eq_true rfl⟩) (mpreV hK hP (mr_0 hK hP (by decide))) rfl rfl hl.1 rfl (lv_room (Nat.le_of_ble_eq_true rfl)) de_M_reach_2 ⟨Nat.zero_le _, Nat.zero_le _⟩) hS (fun H locs hP hS => ?_)
  refine lv_istore_n (lv' := [(3, .int r1), (0, .ref (aa 0 0)), (1, .int x1), (2, .int x2)]) hx hb de_M_reach_5 rfl hl (by decide) rfl (fun ls hl => ?_)
  refine lv_iconst (v := 0) hx hb de_M_reach_6 (by decide) ?_
  refine lv_istore (lv' := [(4, .int 0), (3, .int r1), (0, .ref (aa 0 0)), (1, .int x1), (2, .int x2)]) hx hb de_M_reach_7 hl (by decide) rfl (fun ls hl => ?_)
  obtain ⟨ex2, hex2, h⟩ := bd_some h
  refine w_M_reach_9 hJ S hlocks hK 1000 σ x1 x2 r1 0 ex2 _ _ _ (lv_sub hl [2, 3, 4, 1, 0] rfl) hP hS hex2 (fun H locs ls hl hP hS => ?_)
  refine lv_iload_n hx hb de_M_reach_58 rfl (lv_at hl 3 rfl) ?_
  have h := Option.some.inj h
  subst h
  exact W.iret (v := ex2.1) hx hb hr (fun t ht hW => ⟨⟨_, _, rfl, ⟨rfl, rfl⟩, by rw [ht]; exact hP, va_K.moved hW.alike hK⟩, hS.F ht⟩) hS.2.2 de_M_reach_59 hlocks
