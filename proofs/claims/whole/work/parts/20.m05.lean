set_option maxHeartbeats 4000000 in
set_option maxRecDepth 100000 in
theorem w_M_run_38 {p : Program} {l : Launch} {e : Env} {s : State} {m : MethodId} {args : Array Value} {below : List Frame} {meth : Method} {c : Code} {Q : State → Prop} {D : va_G} {aa : Nat → Nat → Nat} {q : Nat → ClassId} (hJ : wJ mC aa) (S : CallFix p m c bc_M_run 6 s args lw_g bR_M) (hlocks : meth.locks = false) (hK : va_K D mCl (mT q) s) : ∀ (n : Nat) (σ : kS) (x1 : Int32) (x2 : Int64) (x4 : Int32) (x5 : Int32) (ex : kS × Int32 × Int32) (H : Heap) (locs : List Loc) (ls : Array Slot), lv_has ls 6 [(0, .ref (aa 0 0)), (1, .int x1), (2, .long x2), (4, .int x4), (5, .int x5)] → va_P D mCl (mW aa q σ) H → va_S (wA mC aa) s.heap H locs → F_M_run_38 n σ x1 x2 x4 x5 = some ex → (∀ (H1 : Heap) (locs1 : List Loc) (ls1 : Array Slot), lv_has ls1 6 [(0, .ref (aa 0 0)), (1, .int x1), (2, .long x2), (4, .int ex.2.1), (5, .int ex.2.2)] → va_P D mCl (mW aa q ex.1) H1 → va_S (wA mC aa) s.heap H1 locs1 → W p l e brm_M_run s m args below meth c H1 locs1 0 0 Q (F0 m 79 ls1 [])) → W p l e brm_M_run s m args below meth c H locs 0 0 Q (F0 m 38 ls []) := by
  obtain ⟨hx, hb, hml, hown, hts⟩ := id S
  have ht := hts
  intro n
  induction n with
  | zero => intro σ x1 x2 x4 x5 ex H locs ls hl hP hS h k; cases (show (none : Option (kS × Int32 × Int32)) = some ex from h)
  | succ n ih =>
    intro σ x1 x2 x4 x5 ex H locs ls hl hP hS h k
    unfold F_M_run_38 at h
    refine lv_iload hx hb de_M_run_38 (lv_at hl 3 rfl) ?_
    refine lv_iload_n hx hb de_M_run_40 rfl (lv_at hl 1 rfl) ?_
    refine lv_icmp_ge (tgt := 79) hx hb de_M_run_41 (by decide) (fun hc => ?_) (fun hc => ?_)
    · have h := ie_t h hc
      have h := Option.some.inj h
      subst h
      exact k _ _ _ (lv_sub hl [0, 1, 2, 3, 4] rfl) hP hS
    · have h := ie_f h hc
      refine lv_iload hx hb de_M_run_44 (lv_at hl 4 rfl) ?_
      refine lv_if_lt (tgt := 79) hx hb de_M_run_46 (by decide) (fun hc => ?_) (fun hc => ?_)
      · have h := ie_t h hc
        have h := Option.some.inj h
        subst h
        exact k _ _ _ (lv_sub hl [0, 1, 2, 3, 4] rfl) hP hS
      · have h := ie_f h hc
        refine lv_aload_n hx hb de_M_run_49 rfl (lv_at hl 0 rfl) ?_
        refine mg_0 (v := .ref (aa 7 0)) hx hb ht hown hK hP (by decide) 11 (by decide) tw_2_226 rfl de_M_run_50 ?_
        refine lv_iload hx hb de_M_run_53 (lv_at hl 4 rfl) ?_
        obtain ⟨hi1, h⟩ := gd_some h
        refine ml_7 hx hb hK hP (by decide) (inb_in hi1) de_M_run_55 ?_
        refine lv_lload_n hx hb de_M_run_56 rfl (lv_at hl 2 rfl) ?_
        refine W.lcmp hx hb de_M_run_57 ?_
        refine lv_if_gt (tgt := 79) hx hb de_M_run_58 (by decide) (fun hc => ?_) (fun hc => ?_)
        · have h := ie_t h hc
          have h := Option.some.inj h
          subst h
          exact k _ _ _ (lv_sub hl [0, 1, 2, 3, 4] rfl) hP hS
        · have h := ie_f h hc
          refine lv_aload_n hx hb de_M_run_61 rfl (lv_at hl 0 rfl) ?_
          refine lv_iload hx hb de_M_run_62 (lv_at hl 4 rfl) ?_
          obtain ⟨r2, hr2, h⟩ := bd_some h
          refine mq_v (va_runV (As := [.int x5]) (rest := []) S (c_M_event l D aa q hJ σ x5 r2 hr2) (cwV 1 ht (gv_in tw_3_125 tw_3_127 ts_M_event tw_1_7 tc_M_event) rfl rfl rfl bh_M_event ⟨Nat.le_of_ble_eq_true rfl, Nat.le_of_ble_eq_true rfl⟩) (mpreV hK hP (mr_0 hK hP (by decide))) rfl rfl hl.1 rfl (lv_room (Nat.le_of_ble_eq_true rfl)) de_M_run_64 ⟨Nat.zero_le _, Nat.zero_le _⟩) hS (fun H locs hP hS => ?_)
          refine lv_iinc (k := 3) (v := x4 + 1) (lv' := [(4, .int (x4 + 1)), (0, .ref (aa 0 0)), (1, .int x1), (2, .long x2), (5, .int x5)]) hx hb de_M_run_67 hl rfl (ii_p1 _) (by decide) rfl (fun ls hl => ?_)
          refine lv_aload_n hx hb de_M_run_70 rfl (lv_at hl 1 rfl) ?_
          obtain ⟨r3, hr3, h⟩ := bd_some h
          refine mq_i (va_runV (As := []) (rest := []) S (c_M_first l D aa q hJ r2  r3 hr3) (cwV 0 ht (gv_in tw_3_117 tw_3_119 ts_M_first tw_1_7 tc_M_first) rfl rfl rfl bh_M_first ⟨Nat.le_of_ble_eq_true rfl, Nat.le_of_ble_eq_true rfl⟩) (mpreV hK hP (mr_0 hK hP (by decide))) rfl rfl hl.1 rfl (lv_room (Nat.le_of_ble_eq_true rfl)) de_M_run_71 ⟨Nat.zero_le _, Nat.zero_le _⟩) hS (fun H locs hP hS => ?_)
          refine lv_istore (lv' := [(5, .int r3), (4, .int (x4 + 1)), (0, .ref (aa 0 0)), (1, .int x1), (2, .long x2)]) hx hb de_M_run_74 hl (by decide) rfl (fun ls hl => ?_)
          refine lv_goto (tgt := 38) hx hb de_M_run_76 (by decide) ?_
          exact ih r2 x1 x2 (x4 + 1) r3 ex _ _ _ (lv_sub hl [2, 3, 4, 1, 0] rfl) hP hS h k
set_option maxHeartbeats 4000000 in
set_option maxRecDepth 100000 in
theorem c_M_run (l : Launch) (D : va_G) (aa : Nat → Nat → Nat) (q : Nat → ClassId) (hJ : wJ mC aa) (σ : kS) (x1 : Int32) (x2 : Int64) (res : Int32 × kS) (h : F_M_run σ x1 x2 = some res) : Met l by_M_run (.code by_M_run bc_M_run 6 (some .int) :: lw_g) brm_M_run (va_Pc [.ref (aa 0 0), .int x1, .long x2] (mPre D aa q σ)) (va_Qi (fun (r : Int32) (u : kS) => r = res.1 ∧ u = res.2) (mB D aa q) (wA mC aa)) 0 0 (wA mC aa) := by
  refine Met.ofW (cc := bc_M_run) (maxL := 6) (ret := (some .int)) (by decide) rfl ?_
  intro p e s m args below meth c s₁ B hml hv
  obtain ⟨rfl, hP, hK⟩ := hv
  have hx := B.exec
  have hb := B.bytes
  have hr := B.returns
  have ht : ∀ w ∈ lw_g, w.before ([.ref (aa 0 0), .int x1, .long x2] : List Value).toArray s = true := fun w h => atoms_spec (ws := .code by_M_run bc_M_run 6 (some .int) :: lw_g) B.pre w (List.mem_cons_of_mem _ h)
  have hown : s.vm.findClass bR_M = some m.cls := findClass_of_methodNamed B.named
  have hlocks := B.notSynchronized
  have S : CallFix p m c bc_M_run 6 s ([.ref (aa 0 0), .int x1, .long x2] : List Value).toArray lw_g bR_M := ⟨hx, hb, hml, hown, ht⟩
  have hS : va_S (wA mC aa) s.heap s.heap [] := va_S.rf
  have hl := lv_entry ([.ref (aa 0 0), .int x1, .long x2]) (n := 6) (Nat.le_of_ble_eq_true rfl)
  rw [lg_entry_eq]
  generalize (lg_sl ([.ref (aa 0 0), .int x1, .long x2]) ++ List.replicate (6 - (lg_sl ([.ref (aa 0 0), .int x1, .long x2])).length) Slot.unset).toArray = ls at hl ⊢
  have hl : lv_has ls 6 [(0, .ref (aa 0 0)), (1, .int x1), (2, .long x2)] := hl
  unfold F_M_run at h
  refine lv_iload_n hx hb de_M_run_0 rfl (lv_at hl 1 rfl) ?_
  refine lv_if_lt (tgt := 27) hx hb de_M_run_1 (by decide) (fun hc => ?_) (fun hc => ?_)
  · have h := ie_t h hc
    refine lv_iconst (v := (-1)) hx hb de_M_run_27 (by decide) ?_
    have h := Option.some.inj h
    subst h
    exact W.iret (v := (-1)) hx hb hr (fun t ht hW => ⟨⟨_, _, rfl, ⟨rfl, rfl⟩, by rw [ht]; exact hP, va_K.moved hW.alike hK⟩, hS.F ht⟩) hS.2.2 de_M_run_28 hlocks
  · have h := ie_f h hc
    refine lv_iload_n hx hb de_M_run_4 rfl (lv_at hl 1 rfl) ?_
    refine lv_bipush (v := 100) hx hb de_M_run_5 (by decide) ?_
    refine lv_icmp_gt (tgt := 27) hx hb de_M_run_7 (by decide) (fun hc => ?_) (fun hc => ?_)
    · have h := ie_t h hc
      refine lv_iconst (v := (-1)) hx hb de_M_run_27 (by decide) ?_
      have h := Option.some.inj h
      subst h
      exact W.iret (v := (-1)) hx hb hr (fun t ht hW => ⟨⟨_, _, rfl, ⟨rfl, rfl⟩, by rw [ht]; exact hP, va_K.moved hW.alike hK⟩, hS.F ht⟩) hS.2.2 de_M_run_28 hlocks
    · have h := ie_f h hc
      refine lv_lload_n hx hb de_M_run_10 rfl (lv_at hl 2 rfl) ?_
      refine lv_aload_n hx hb de_M_run_11 rfl (lv_at hl 0 rfl) ?_
      refine mg_0 (v := .long (gL σ 0 0 0)) hx hb ht hown hK hP (by decide) 4 (by decide) tw_2_219 rfl de_M_run_12 ?_
      refine W.lcmp hx hb de_M_run_15 ?_
      refine lv_if_lt (tgt := 27) hx hb de_M_run_16 (by decide) (fun hc => ?_) (fun hc => ?_)
      · have h := ie_t h hc
        refine lv_iconst (v := (-1)) hx hb de_M_run_27 (by decide) ?_
        have h := Option.some.inj h
        subst h
        exact W.iret (v := (-1)) hx hb hr (fun t ht hW => ⟨⟨_, _, rfl, ⟨rfl, rfl⟩, by rw [ht]; exact hP, va_K.moved hW.alike hK⟩, hS.F ht⟩) hS.2.2 de_M_run_28 hlocks
      · have h := ie_f h hc
        refine lv_lload_n hx hb de_M_run_19 rfl (lv_at hl 2 rfl) ?_
        refine lv_ldc2 (v := 1000000000000) hx hb hown (ht _ tw_3_116) de_M_run_20 ?_
        refine W.lcmp hx hb de_M_run_23 ?_
        refine lv_if_le (tgt := 29) hx hb de_M_run_24 (by decide) (fun hc => ?_) (fun hc => ?_)
        · have h := ie_t h hc
          refine lv_iconst (v := 0) hx hb de_M_run_29 (by decide) ?_
          refine lv_istore (lv' := [(4, .int 0), (0, .ref (aa 0 0)), (1, .int x1), (2, .long x2)]) hx hb de_M_run_30 hl (by decide) rfl (fun ls hl => ?_)
          refine lv_aload_n hx hb de_M_run_32 rfl (lv_at hl 1 rfl) ?_
          obtain ⟨r1, hr1, h⟩ := bd_some h
          refine mq_i (va_runV (As := []) (rest := []) S (c_M_first l D aa q hJ σ  r1 hr1) (cwV 0 ht (gv_in tw_3_117 tw_3_119 ts_M_first tw_1_7 tc_M_first) rfl rfl rfl bh_M_first ⟨Nat.le_of_ble_eq_true rfl, Nat.le_of_ble_eq_true rfl⟩) (mpreV hK hP (mr_0 hK hP (by decide))) rfl rfl hl.1 rfl (lv_room (Nat.le_of_ble_eq_true rfl)) de_M_run_33 ⟨Nat.zero_le _, Nat.zero_le _⟩) hS (fun H locs hP hS => ?_)
          refine lv_istore (lv' := [(5, .int r1), (4, .int 0), (0, .ref (aa 0 0)), (1, .int x1), (2, .long x2)]) hx hb de_M_run_36 hl (by decide) rfl (fun ls hl => ?_)
          obtain ⟨ex2, hex2, h⟩ := bd_some h
          refine w_M_run_38 hJ S hlocks hK 1000 σ x1 x2 0 r1 ex2 _ _ _ (lv_sub hl [2, 3, 4, 1, 0] rfl) hP hS hex2 (fun H locs ls hl hP hS => ?_)
          refine lv_iload hx hb de_M_run_79 (lv_at hl 3 rfl) ?_
          refine lv_iload_n hx hb de_M_run_81 rfl (lv_at hl 1 rfl) ?_
          refine lv_icmp_ge (tgt := 90) hx hb de_M_run_82 (by decide) (fun hc => ?_) (fun hc => ?_)
          · have h := ie_t h hc
            refine lv_iload hx hb de_M_run_90 (lv_at hl 3 rfl) ?_
            have h := Option.some.inj h
            subst h
            exact W.iret (v := ex2.2.1) hx hb hr (fun t ht hW => ⟨⟨_, _, rfl, ⟨rfl, rfl⟩, by rw [ht]; exact hP, va_K.moved hW.alike hK⟩, hS.F ht⟩) hS.2.2 de_M_run_92 hlocks
          · have h := ie_f h hc
            refine lv_aload_n hx hb de_M_run_85 rfl (lv_at hl 0 rfl) ?_
            refine lv_lload_n hx hb de_M_run_86 rfl (lv_at hl 2 rfl) ?_
            obtain ⟨r3, hr3, h⟩ := bd_some h
            refine mq_v (va_runV (As := [.long x2]) (rest := []) S (c_M_advance l D aa q hJ ex2.1 x2 r3 hr3) (cwV 1 ht (gv_in tw_3_129 tw_3_131 ts_M_advance tw_1_7 tc_M_advance) rfl rfl rfl bh_M_advance ⟨Nat.le_of_ble_eq_true rfl, Nat.le_of_ble_eq_true rfl⟩) (mpreV hK hP (mr_0 hK hP (by decide))) rfl rfl hl.1 rfl (lv_room (Nat.le_of_ble_eq_true rfl)) de_M_run_87 ⟨Nat.zero_le _, Nat.zero_le _⟩) hS (fun H locs hP hS => ?_)
            refine lv_iload hx hb de_M_run_90 (lv_at hl 3 rfl) ?_
            have h := Option.some.inj h
            subst h
            exact W.iret (v := ex2.2.1) hx hb hr (fun t ht hW => ⟨⟨_, _, rfl, ⟨rfl, rfl⟩, by rw [ht]; exact hP, va_K.moved hW.alike hK⟩, hS.F ht⟩) hS.2.2 de_M_run_92 hlocks
        · have h := ie_f h hc
          refine lv_iconst (v := (-1)) hx hb de_M_run_27 (by decide) ?_
          have h := Option.some.inj h
          subst h
          exact W.iret (v := (-1)) hx hb hr (fun t ht hW => ⟨⟨_, _, rfl, ⟨rfl, rfl⟩, by rw [ht]; exact hP, va_K.moved hW.alike hK⟩, hS.F ht⟩) hS.2.2 de_M_run_28 hlocks
set_option maxHeartbeats 4000000 in
set_option maxRecDepth 100000 in
theorem c_M_now (l : Launch) (D : va_G) (aa : Nat → Nat → Nat) (q : Nat → ClassId) (hJ : wJ mC aa) (σ : kS) (res : Int64) (h : F_M_now σ = some res) : Met l by_M_now (.code by_M_now bc_M_now 1 (some .long) :: lw_g) brm_M_now (va_Pc [.ref (aa 0 0)] (mPre D aa q σ)) (va_Ql (fun (r : Int64) (u : kS) => r = res ∧ u = σ) (mB D aa q) (wA mC aa)) 0 0 (wA mC aa) := by
  refine Met.ofW (cc := bc_M_now) (maxL := 1) (ret := (some .long)) (by decide) rfl ?_
  intro p e s m args below meth c s₁ B hml hv
  obtain ⟨rfl, hP, hK⟩ := hv
  have hx := B.exec
  have hb := B.bytes
  have hr := B.returns
  have ht : ∀ w ∈ lw_g, w.before ([.ref (aa 0 0)] : List Value).toArray s = true := fun w h => atoms_spec (ws := .code by_M_now bc_M_now 1 (some .long) :: lw_g) B.pre w (List.mem_cons_of_mem _ h)
  have hown : s.vm.findClass bR_M = some m.cls := findClass_of_methodNamed B.named
  have hlocks := B.notSynchronized
  have S : CallFix p m c bc_M_now 1 s ([.ref (aa 0 0)] : List Value).toArray lw_g bR_M := ⟨hx, hb, hml, hown, ht⟩
  have hS : va_S (wA mC aa) s.heap s.heap [] := va_S.rf
  have hl := lv_entry ([.ref (aa 0 0)]) (n := 1) (Nat.le_of_ble_eq_true rfl)
  rw [lg_entry_eq]
  generalize (lg_sl ([.ref (aa 0 0)]) ++ List.replicate (1 - (lg_sl ([.ref (aa 0 0)])).length) Slot.unset).toArray = ls at hl ⊢
  have hl : lv_has ls 1 [(0, .ref (aa 0 0))] := hl
  unfold F_M_now at h
  refine lv_aload_n hx hb de_M_now_0 rfl (lv_at hl 0 rfl) ?_
  refine mg_0 (v := .long (gL σ 0 0 0)) hx hb ht hown hK hP (by decide) 4 (by decide) tw_2_219 rfl de_M_now_1 ?_
  have h := Option.some.inj h
  subst h
  exact W.lret (v := gL σ 0 0 0) hx hb hr (fun t ht hW => ⟨⟨_, _, rfl, ⟨rfl, rfl⟩, by rw [ht]; exact hP, va_K.moved hW.alike hK⟩, hS.F ht⟩) hS.2.2 de_M_now_4 hlocks
set_option maxHeartbeats 4000000 in
set_option maxRecDepth 100000 in
theorem c_M_next (l : Launch) (D : va_G) (aa : Nat → Nat → Nat) (q : Nat → ClassId) (hJ : wJ mC aa) (σ : kS) (res : Int64) (h : F_M_next σ = some res) : Met l by_M_next (.code by_M_next bc_M_next 2 (some .long) :: lw_g) brm_M_next (va_Pc [.ref (aa 0 0)] (mPre D aa q σ)) (va_Ql (fun (r : Int64) (u : kS) => r = res ∧ u = σ) (mB D aa q) (wA mC aa)) 0 0 (wA mC aa) := by
  refine Met.ofW (cc := bc_M_next) (maxL := 2) (ret := (some .long)) (by decide) rfl ?_
  intro p e s m args below meth c s₁ B hml hv
  obtain ⟨rfl, hP, hK⟩ := hv
  have hx := B.exec
  have hb := B.bytes
  have hr := B.returns
  have ht : ∀ w ∈ lw_g, w.before ([.ref (aa 0 0)] : List Value).toArray s = true := fun w h => atoms_spec (ws := .code by_M_next bc_M_next 2 (some .long) :: lw_g) B.pre w (List.mem_cons_of_mem _ h)
  have hown : s.vm.findClass bR_M = some m.cls := findClass_of_methodNamed B.named
  have hlocks := B.notSynchronized
  have S : CallFix p m c bc_M_next 2 s ([.ref (aa 0 0)] : List Value).toArray lw_g bR_M := ⟨hx, hb, hml, hown, ht⟩
  have hS : va_S (wA mC aa) s.heap s.heap [] := va_S.rf
  have hl := lv_entry ([.ref (aa 0 0)]) (n := 2) (Nat.le_of_ble_eq_true rfl)
  rw [lg_entry_eq]
  generalize (lg_sl ([.ref (aa 0 0)]) ++ List.replicate (2 - (lg_sl ([.ref (aa 0 0)])).length) Slot.unset).toArray = ls at hl ⊢
  have hl : lv_has ls 2 [(0, .ref (aa 0 0))] := hl
  unfold F_M_next at h
  refine lv_aload_n hx hb de_M_next_0 rfl (lv_at hl 0 rfl) ?_
  obtain ⟨r1, hr1, h⟩ := bd_some h
  refine mq_i (va_runV (As := []) (rest := []) S (c_M_first l D aa q hJ σ  r1 hr1) (cwV 0 ht (gv_in tw_3_117 tw_3_119 ts_M_first tw_1_7 tc_M_first) rfl rfl rfl bh_M_first ⟨Nat.le_of_ble_eq_true rfl, Nat.le_of_ble_eq_true rfl⟩) (mpreV hK hP (mr_0 hK hP (by decide))) rfl rfl hl.1 rfl (lv_room (Nat.le_of_ble_eq_true rfl)) de_M_next_1 ⟨Nat.zero_le _, Nat.zero_le _⟩) hS (fun H locs hP hS => ?_)
  refine lv_istore_n (lv' := [(1, .int r1), (0, .ref (aa 0 0))]) hx hb de_M_next_4 rfl hl (by decide) rfl (fun ls hl => ?_)
  refine lv_iload_n hx hb de_M_next_5 rfl (lv_at hl 0 rfl) ?_
  refine lv_if_ge (tgt := 15) hx hb de_M_next_6 (by decide) (fun hc => ?_) (fun hc => ?_)
  · have h := ie_t h hc
    refine lv_aload_n hx hb de_M_next_15 rfl (lv_at hl 1 rfl) ?_
    refine mg_0 (v := .ref (aa 7 0)) hx hb ht hown hK hP (by decide) 11 (by decide) tw_2_226 rfl de_M_next_16 ?_
    refine lv_iload_n hx hb de_M_next_19 rfl (lv_at hl 0 rfl) ?_
    obtain ⟨hi2, h⟩ := gd_some h
    refine ml_7 hx hb hK hP (by decide) (inb_in hi2) de_M_next_20 ?_
    have h := Option.some.inj h
    subst h
    exact W.lret (v := gL σ 7 0 r1.toNatClampNeg) hx hb hr (fun t ht hW => ⟨⟨_, _, rfl, ⟨rfl, rfl⟩, by rw [ht]; exact hP, va_K.moved hW.alike hK⟩, hS.F ht⟩) hS.2.2 de_M_next_21 hlocks
  · have h := ie_f h hc
    refine lv_ldc2 (v := (-1)) hx hb hown (ht _ tw_3_196) de_M_next_9 ?_
    refine lv_goto (tgt := 21) hx hb de_M_next_12 (by decide) ?_
    have h := Option.some.inj h
    subst h
    exact W.lret (v := (-1)) hx hb hr (fun t ht hW => ⟨⟨_, _, rfl, ⟨rfl, rfl⟩, by rw [ht]; exact hP, va_K.moved hW.alike hK⟩, hS.F ht⟩) hS.2.2 de_M_next_21 hlocks
set_option maxHeartbeats 4000000 in
set_option maxRecDepth 100000 in
theorem c_M_state (l : Launch) (D : va_G) (aa : Nat → Nat → Nat) (q : Nat → ClassId) (hJ : wJ mC aa) (σ : kS) (x1 : Int32) (res : Int32) (h : F_M_state σ x1 = some res) : Met l by_M_state (.code by_M_state bc_M_state 2 (some .int) :: lw_g) brm_M_state (va_Pc [.ref (aa 0 0), .int x1] (mPre D aa q σ)) (va_Qi (fun (r : Int32) (u : kS) => r = res ∧ u = σ) (mB D aa q) (wA mC aa)) 0 0 (wA mC aa) := by
  refine Met.ofW (cc := bc_M_state) (maxL := 2) (ret := (some .int)) (by decide) rfl ?_
  intro p e s m args below meth c s₁ B hml hv
  obtain ⟨rfl, hP, hK⟩ := hv
  have hx := B.exec
  have hb := B.bytes
  have hr := B.returns
  have ht : ∀ w ∈ lw_g, w.before ([.ref (aa 0 0), .int x1] : List Value).toArray s = true := fun w h => atoms_spec (ws := .code by_M_state bc_M_state 2 (some .int) :: lw_g) B.pre w (List.mem_cons_of_mem _ h)
  have hown : s.vm.findClass bR_M = some m.cls := findClass_of_methodNamed B.named
  have hlocks := B.notSynchronized
  have S : CallFix p m c bc_M_state 2 s ([.ref (aa 0 0), .int x1] : List Value).toArray lw_g bR_M := ⟨hx, hb, hml, hown, ht⟩
  have hS : va_S (wA mC aa) s.heap s.heap [] := va_S.rf
  have hl := lv_entry ([.ref (aa 0 0), .int x1]) (n := 2) (Nat.le_of_ble_eq_true rfl)
  rw [lg_entry_eq]
  generalize (lg_sl ([.ref (aa 0 0), .int x1]) ++ List.replicate (2 - (lg_sl ([.ref (aa 0 0), .int x1])).length) Slot.unset).toArray = ls at hl ⊢
  have hl : lv_has ls 2 [(0, .ref (aa 0 0)), (1, .int x1)] := hl
  unfold F_M_state at h
  refine lv_aload_n hx hb de_M_state_0 rfl (lv_at hl 0 rfl) ?_
  refine lv_iload_n hx hb de_M_state_1 rfl (lv_at hl 1 rfl) ?_
  obtain ⟨r1, hr1, h⟩ := bd_some h
  refine mq_i (va_runV (As := [.int x1]) (rest := []) S (c_M_none l D aa q hJ σ x1 r1 hr1) (cwV 1 ht (gv_in tw_3_67 tw_3_69 ts_M_none tw_1_7 tc_M_none) rfl rfl rfl bh_M_none ⟨Nat.le_of_ble_eq_true rfl, Nat.le_of_ble_eq_true rfl⟩) (mpreV hK hP (mr_0 hK hP (by decide))) rfl rfl hl.1 rfl (lv_room (Nat.le_of_ble_eq_true rfl)) de_M_state_2 ⟨Nat.zero_le _, Nat.zero_le _⟩) hS (fun H locs hP hS => ?_)
  refine lv_if_eq (tgt := 12) hx hb de_M_state_5 (by decide) (fun hc => ?_) (fun hc => ?_)
  · have h := ie_t h hc
    refine lv_aload_n hx hb de_M_state_12 rfl (lv_at hl 0 rfl) ?_
    refine mg_0 (v := .ref (aa 6 0)) hx hb ht hown hK hP (by decide) 10 (by decide) tw_2_225 rfl de_M_state_13 ?_
    refine lv_iload_n hx hb de_M_state_16 rfl (lv_at hl 1 rfl) ?_
    obtain ⟨hi2, h⟩ := gd_some h
    refine ml_6 hx hb hK hP (by decide) (inb_in hi2) de_M_state_17 ?_
    have h := Option.some.inj h
    subst h
    exact W.iret (v := gI σ 6 0 x1.toNatClampNeg) hx hb hr (fun t ht hW => ⟨⟨_, _, rfl, ⟨rfl, rfl⟩, by rw [ht]; exact hP, va_K.moved hW.alike hK⟩, hS.F ht⟩) hS.2.2 de_M_state_18 hlocks
  · have h := ie_f h hc
    refine lv_iconst (v := (-1)) hx hb de_M_state_8 (by decide) ?_
    refine lv_goto (tgt := 18) hx hb de_M_state_9 (by decide) ?_
    have h := Option.some.inj h
    subst h
    exact W.iret (v := (-1)) hx hb hr (fun t ht hW => ⟨⟨_, _, rfl, ⟨rfl, rfl⟩, by rw [ht]; exact hP, va_K.moved hW.alike hK⟩, hS.F ht⟩) hS.2.2 de_M_state_18 hlocks
set_option maxHeartbeats 4000000 in
set_option maxRecDepth 100000 in
theorem c_M_place (l : Launch) (D : va_G) (aa : Nat → Nat → Nat) (q : Nat → ClassId) (hJ : wJ mC aa) (σ : kS) (x1 : Int32) (res : Int32) (h : F_M_place σ x1 = some res) : Met l by_M_place (.code by_M_place bc_M_place 2 (some .int) :: lw_g) brm_M_place (va_Pc [.ref (aa 0 0), .int x1] (mPre D aa q σ)) (va_Qi (fun (r : Int32) (u : kS) => r = res ∧ u = σ) (mB D aa q) (wA mC aa)) 0 0 (wA mC aa) := by
  refine Met.ofW (cc := bc_M_place) (maxL := 2) (ret := (some .int)) (by decide) rfl ?_
  intro p e s m args below meth c s₁ B hml hv
  obtain ⟨rfl, hP, hK⟩ := hv
  have hx := B.exec
  have hb := B.bytes
  have hr := B.returns
  have ht : ∀ w ∈ lw_g, w.before ([.ref (aa 0 0), .int x1] : List Value).toArray s = true := fun w h => atoms_spec (ws := .code by_M_place bc_M_place 2 (some .int) :: lw_g) B.pre w (List.mem_cons_of_mem _ h)
  have hown : s.vm.findClass bR_M = some m.cls := findClass_of_methodNamed B.named
  have hlocks := B.notSynchronized
  have S : CallFix p m c bc_M_place 2 s ([.ref (aa 0 0), .int x1] : List Value).toArray lw_g bR_M := ⟨hx, hb, hml, hown, ht⟩
  have hS : va_S (wA mC aa) s.heap s.heap [] := va_S.rf
  have hl := lv_entry ([.ref (aa 0 0), .int x1]) (n := 2) (Nat.le_of_ble_eq_true rfl)
  rw [lg_entry_eq]
  generalize (lg_sl ([.ref (aa 0 0), .int x1]) ++ List.replicate (2 - (lg_sl ([.ref (aa 0 0), .int x1])).length) Slot.unset).toArray = ls at hl ⊢
  have hl : lv_has ls 2 [(0, .ref (aa 0 0)), (1, .int x1)] := hl
  unfold F_M_place at h
  refine lv_aload_n hx hb de_M_place_0 rfl (lv_at hl 0 rfl) ?_
  refine lv_iload_n hx hb de_M_place_1 rfl (lv_at hl 1 rfl) ?_
  obtain ⟨r1, hr1, h⟩ := bd_some h
  refine mq_i (va_runV (As := [.int x1]) (rest := []) S (c_M_none l D aa q hJ σ x1 r1 hr1) (cwV 1 ht (gv_in tw_3_67 tw_3_69 ts_M_none tw_1_7 tc_M_none) rfl rfl rfl bh_M_none ⟨Nat.le_of_ble_eq_true rfl, Nat.le_of_ble_eq_true rfl⟩) (mpreV hK hP (mr_0 hK hP (by decide))) rfl rfl hl.1 rfl (lv_room (Nat.le_of_ble_eq_true rfl)) de_M_place_2 ⟨Nat.zero_le _, Nat.zero_le _⟩) hS (fun H locs hP hS => ?_)
  refine lv_if_eq (tgt := 12) hx hb de_M_place_5 (by decide) (fun hc => ?_) (fun hc => ?_)
  · have h := ie_t h hc
    refine lv_aload_n hx hb de_M_place_12 rfl (lv_at hl 0 rfl) ?_
    refine mg_0 (v := .ref (aa 5 0)) hx hb ht hown hK hP (by decide) 9 (by decide) tw_2_224 rfl de_M_place_13 ?_
    refine lv_iload_n hx hb de_M_place_16 rfl (lv_at hl 1 rfl) ?_
    obtain ⟨hi2, h⟩ := gd_some h
    refine ml_5 hx hb hK hP (by decide) (inb_in hi2) de_M_place_17 ?_
    have h := Option.some.inj h
    subst h
    exact W.iret (v := gI σ 5 0 x1.toNatClampNeg) hx hb hr (fun t ht hW => ⟨⟨_, _, rfl, ⟨rfl, rfl⟩, by rw [ht]; exact hP, va_K.moved hW.alike hK⟩, hS.F ht⟩) hS.2.2 de_M_place_18 hlocks
  · have h := ie_f h hc
    refine lv_iconst (v := (-1)) hx hb de_M_place_8 (by decide) ?_
    refine lv_goto (tgt := 18) hx hb de_M_place_9 (by decide) ?_
    have h := Option.some.inj h
    subst h
    exact W.iret (v := (-1)) hx hb hr (fun t ht hW => ⟨⟨_, _, rfl, ⟨rfl, rfl⟩, by rw [ht]; exact hP, va_K.moved hW.alike hK⟩, hS.F ht⟩) hS.2.2 de_M_place_18 hlocks
set_option maxHeartbeats 4000000 in
set_option maxRecDepth 100000 in
theorem c_M_held (l : Launch) (D : va_G) (aa : Nat → Nat → Nat) (q : Nat → ClassId) (hJ : wJ mC aa) (σ : kS) (x1 : Int32) (x2 : Int32) (res : Int32) (h : F_M_held σ x1 x2 = some res) : Met l by_M_held (.code by_M_held bc_M_held 3 (some .int) :: lw_g) brm_M_held (va_Pc [.ref (aa 0 0), .int x1, .int x2] (mPre D aa q σ)) (va_Qi (fun (r : Int32) (u : kS) => r = res ∧ u = σ) (mB D aa q) (wA mC aa)) 0 0 (wA mC aa) := by
  refine Met.ofW (cc := bc_M_held) (maxL := 3) (ret := (some .int)) (by decide) rfl ?_
  intro p e s m args below meth c s₁ B hml hv
  obtain ⟨rfl, hP, hK⟩ := hv
  have hx := B.exec
  have hb := B.bytes
  have hr := B.returns
  have ht : ∀ w ∈ lw_g, w.before ([.ref (aa 0 0), .int x1, .int x2] : List Value).toArray s = true := fun w h => atoms_spec (ws := .code by_M_held bc_M_held 3 (some .int) :: lw_g) B.pre w (List.mem_cons_of_mem _ h)
  have hown : s.vm.findClass bR_M = some m.cls := findClass_of_methodNamed B.named
  have hlocks := B.notSynchronized
  have S : CallFix p m c bc_M_held 3 s ([.ref (aa 0 0), .int x1, .int x2] : List Value).toArray lw_g bR_M := ⟨hx, hb, hml, hown, ht⟩
  have hS : va_S (wA mC aa) s.heap s.heap [] := va_S.rf
  have hl := lv_entry ([.ref (aa 0 0), .int x1, .int x2]) (n := 3) (Nat.le_of_ble_eq_true rfl)
  rw [lg_entry_eq]
  generalize (lg_sl ([.ref (aa 0 0), .int x1, .int x2]) ++ List.replicate (3 - (lg_sl ([.ref (aa 0 0), .int x1, .int x2])).length) Slot.unset).toArray = ls at hl ⊢
  have hl : lv_has ls 3 [(0, .ref (aa 0 0)), (1, .int x1), (2, .int x2)] := hl
  unfold F_M_held at h
  refine lv_aload_n hx hb de_M_held_0 rfl (lv_at hl 0 rfl) ?_
  refine lv_iload_n hx hb de_M_held_1 rfl (lv_at hl 1 rfl) ?_
  obtain ⟨r1, hr1, h⟩ := bd_some h
  refine mq_i (va_runV (As := [.int x1]) (rest := []) S (c_M_none l D aa q hJ σ x1 r1 hr1) (cwV 1 ht (gv_in tw_3_67 tw_3_69 ts_M_none tw_1_7 tc_M_none) rfl rfl rfl bh_M_none ⟨Nat.le_of_ble_eq_true rfl, Nat.le_of_ble_eq_true rfl⟩) (mpreV hK hP (mr_0 hK hP (by decide))) rfl rfl hl.1 rfl (lv_room (Nat.le_of_ble_eq_true rfl)) de_M_held_2 ⟨Nat.zero_le _, Nat.zero_le _⟩) hS (fun H locs hP hS => ?_)
  refine lv_if_ne (tgt := 18) hx hb de_M_held_5 (by decide) (fun hc => ?_) (fun hc => ?_)
  · have h := ie_f h hc
    refine lv_iconst (v := (-1)) hx hb de_M_held_18 (by decide) ?_
    refine lv_goto (tgt := 32) hx hb de_M_held_19 (by decide) ?_
    have h := Option.some.inj h
    subst h
    exact W.iret (v := (-1)) hx hb hr (fun t ht hW => ⟨⟨_, _, rfl, ⟨rfl, rfl⟩, by rw [ht]; exact hP, va_K.moved hW.alike hK⟩, hS.F ht⟩) hS.2.2 de_M_held_32 hlocks
  · have h := ie_t h hc
    refine lv_aload_n hx hb de_M_held_8 rfl (lv_at hl 0 rfl) ?_
    refine lv_iload_n hx hb de_M_held_9 rfl (lv_at hl 2 rfl) ?_
    refine lv_iconst (v := 0) hx hb de_M_held_10 (by decide) ?_
    refine lv_iconst (v := 3) hx hb de_M_held_11 (by decide) ?_
    obtain ⟨r2, hr2, h⟩ := bd_some h
    refine mq_i (va_runV (As := [.int x2, .int 0, .int 3]) (rest := []) S (c_M_within l D aa q hJ σ x2 0 3 r2 hr2) (cwV 3 ht (gv_in tw_3_71 tw_3_73 ts_M_within tw_1_7 tc_M_within) rfl rfl rfl bh_M_within ⟨Nat.le_of_ble_eq_true rfl, Nat.le_of_ble_eq_true rfl⟩) (mpreV hK hP (mr_0 hK hP (by decide))) rfl rfl hl.1 rfl (lv_room (Nat.le_of_ble_eq_true rfl)) de_M_held_12 ⟨Nat.zero_le _, Nat.zero_le _⟩) hS (fun H locs hP hS => ?_)
    refine lv_if_ne (tgt := 22) hx hb de_M_held_15 (by decide) (fun hc => ?_) (fun hc => ?_)
    · have h := ie_f h hc
      refine lv_aload_n hx hb de_M_held_22 rfl (lv_at hl 0 rfl) ?_
      refine mg_0 (v := .ref (aa 14 0)) hx hb ht hown hK hP (by decide) 18 (by decide) tw_2_233 rfl de_M_held_23 ?_
      refine lv_iconst (v := 4) hx hb de_M_held_26 (by decide) ?_
      refine lv_iload_n hx hb de_M_held_27 rfl (lv_at hl 1 rfl) ?_
      refine lv_imul hx hb de_M_held_28 ?_
      refine lv_iload_n hx hb de_M_held_29 rfl (lv_at hl 2 rfl) ?_
      refine lv_iadd hx hb de_M_held_30 ?_
      obtain ⟨hi3, h⟩ := gd_some h
      refine ml_14 hx hb hK hP (by decide) (inb_in hi3) de_M_held_31 ?_
      have h := Option.some.inj h
      subst h
      exact W.iret (v := gI σ 14 0 ((4 * x1) + x2).toNatClampNeg) hx hb hr (fun t ht hW => ⟨⟨_, _, rfl, ⟨rfl, rfl⟩, by rw [ht]; exact hP, va_K.moved hW.alike hK⟩, hS.F ht⟩) hS.2.2 de_M_held_32 hlocks
    · have h := ie_t h hc
      refine lv_iconst (v := (-1)) hx hb de_M_held_18 (by decide) ?_
      refine lv_goto (tgt := 32) hx hb de_M_held_19 (by decide) ?_
      have h := Option.some.inj h
      subst h
      exact W.iret (v := (-1)) hx hb hr (fun t ht hW => ⟨⟨_, _, rfl, ⟨rfl, rfl⟩, by rw [ht]; exact hP, va_K.moved hW.alike hK⟩, hS.F ht⟩) hS.2.2 de_M_held_32 hlocks
set_option maxHeartbeats 4000000 in
set_option maxRecDepth 100000 in
theorem c_M_free (l : Launch) (D : va_G) (aa : Nat → Nat → Nat) (q : Nat → ClassId) (hJ : wJ mC aa) (σ : kS) (x1 : Int32) (res : Int32) (h : F_M_free σ x1 = some res) : Met l by_M_free (.code by_M_free bc_M_free 2 (some .int) :: lw_g) brm_M_free (va_Pc [.ref (aa 0 0), .int x1] (mPre D aa q σ)) (va_Qi (fun (r : Int32) (u : kS) => r = res ∧ u = σ) (mB D aa q) (wA mC aa)) 0 0 (wA mC aa) := by
  refine Met.ofW (cc := bc_M_free) (maxL := 2) (ret := (some .int)) (by decide) rfl ?_
  intro p e s m args below meth c s₁ B hml hv
  obtain ⟨rfl, hP, hK⟩ := hv
  have hx := B.exec
  have hb := B.bytes
  have hr := B.returns
  have ht : ∀ w ∈ lw_g, w.before ([.ref (aa 0 0), .int x1] : List Value).toArray s = true := fun w h => atoms_spec (ws := .code by_M_free bc_M_free 2 (some .int) :: lw_g) B.pre w (List.mem_cons_of_mem _ h)
  have hown : s.vm.findClass bR_M = some m.cls := findClass_of_methodNamed B.named
  have hlocks := B.notSynchronized
  have S : CallFix p m c bc_M_free 2 s ([.ref (aa 0 0), .int x1] : List Value).toArray lw_g bR_M := ⟨hx, hb, hml, hown, ht⟩
  have hS : va_S (wA mC aa) s.heap s.heap [] := va_S.rf
  have hl := lv_entry ([.ref (aa 0 0), .int x1]) (n := 2) (Nat.le_of_ble_eq_true rfl)
  rw [lg_entry_eq]
  generalize (lg_sl ([.ref (aa 0 0), .int x1]) ++ List.replicate (2 - (lg_sl ([.ref (aa 0 0), .int x1])).length) Slot.unset).toArray = ls at hl ⊢
  have hl : lv_has ls 2 [(0, .ref (aa 0 0)), (1, .int x1)] := hl
  unfold F_M_free at h
  refine lv_aload_n hx hb de_M_free_0 rfl (lv_at hl 0 rfl) ?_
  refine lv_iload_n hx hb de_M_free_1 rfl (lv_at hl 1 rfl) ?_
  refine lv_iconst (v := 0) hx hb de_M_free_2 (by decide) ?_
  refine lv_iconst (v := 3) hx hb de_M_free_3 (by decide) ?_
  obtain ⟨r1, hr1, h⟩ := bd_some h
  refine mq_i (va_runV (As := [.int x1, .int 0, .int 3]) (rest := []) S (c_M_within l D aa q hJ σ x1 0 3 r1 hr1) (cwV 3 ht (gv_in tw_3_71 tw_3_73 ts_M_within tw_1_7 tc_M_within) rfl rfl rfl bh_M_within ⟨Nat.le_of_ble_eq_true rfl, Nat.le_of_ble_eq_true rfl⟩) (mpreV hK hP (mr_0 hK hP (by decide))) rfl rfl hl.1 rfl (lv_room (Nat.le_of_ble_eq_true rfl)) de_M_free_4 ⟨Nat.zero_le _, Nat.zero_le _⟩) hS (fun H locs hP hS => ?_)
  refine lv_if_eq (tgt := 18) hx hb de_M_free_7 (by decide) (fun hc => ?_) (fun hc => ?_)
  · have h := ie_t h hc
    refine lv_iconst (v := (-1)) hx hb de_M_free_18 (by decide) ?_
    have h := Option.some.inj h
    subst h
    exact W.iret (v := (-1)) hx hb hr (fun t ht hW => ⟨⟨_, _, rfl, ⟨rfl, rfl⟩, by rw [ht]; exact hP, va_K.moved hW.alike hK⟩, hS.F ht⟩) hS.2.2 de_M_free_19 hlocks
  · have h := ie_f h hc
    refine lv_aload_n hx hb de_M_free_10 rfl (lv_at hl 0 rfl) ?_
    refine lv_iload_n hx hb de_M_free_11 rfl (lv_at hl 1 rfl) ?_
    obtain ⟨r2, hr2, h⟩ := bd_some h
    refine mq_i (va_runV (As := [.int x1]) (rest := []) S (c_M_rest l D aa q hJ σ x1 r2 hr2) (cwV 1 ht (gv_in tw_3_100 tw_3_102 ts_M_rest tw_1_7 tc_M_rest) rfl rfl rfl bh_M_rest ⟨Nat.le_of_ble_eq_true rfl, Nat.le_of_ble_eq_true rfl⟩) (mpreV hK hP (mr_0 hK hP (by decide))) rfl rfl hl.1 rfl (lv_room (Nat.le_of_ble_eq_true rfl)) de_M_free_12 ⟨Nat.zero_le _, Nat.zero_le _⟩) hS (fun H locs hP hS => ?_)
    refine lv_goto (tgt := 19) hx hb de_M_free_15 (by decide) ?_
    have h := Option.some.inj h
    subst h
    exact W.iret (v := r2) hx hb hr (fun t ht hW => ⟨⟨_, _, rfl, ⟨rfl, rfl⟩, by rw [ht]; exact hP, va_K.moved hW.alike hK⟩, hS.F ht⟩) hS.2.2 de_M_free_19 hlocks
set_option maxHeartbeats 4000000 in
set_option maxRecDepth 100000 in
theorem w_M_waiting_16 {p : Program} {l : Launch} {e : Env} {s : State} {m : MethodId} {args : Array Value} {below : List Frame} {meth : Method} {c : Code} {Q : State → Prop} {D : va_G} {aa : Nat → Nat → Nat} {q : Nat → ClassId} (hJ : wJ mC aa) (S : CallFix p m c bc_M_waiting 5 s args lw_g bR_M) (hlocks : meth.locks = false) (hK : va_K D mCl (mT q) s) : ∀ (n : Nat) (σ : kS) (x1 : Int32) (x2 : Int32) (x3 : Int32) (ex : Int32 × Int32) (H : Heap) (locs : List Loc) (ls : Array Slot), lv_has ls 5 [(0, .ref (aa 0 0)), (1, .int x1), (2, .int x2), (3, .int x3)] → va_P D mCl (mW aa q σ) H → va_S (wA mC aa) s.heap H locs → F_M_waiting_16 n σ x1 x2 x3 = some ex → (∀ (H1 : Heap) (locs1 : List Loc) (ls1 : Array Slot), lv_has ls1 5 [(0, .ref (aa 0 0)), (1, .int x1), (2, .int ex.1), (3, .int ex.2)] → va_P D mCl (mW aa q σ) H1 → va_S (wA mC aa) s.heap H1 locs1 → W p l e brm_M_waiting s m args below meth c H1 locs1 0 0 Q (F0 m 97 ls1 [])) → W p l e brm_M_waiting s m args below meth c H locs 0 0 Q (F0 m 16 ls []) := by
  obtain ⟨hx, hb, hml, hown, hts⟩ := id S
  have ht := hts
  intro n
  induction n with
  | zero => intro σ x1 x2 x3 ex H locs ls hl hP hS h k; cases (show (none : Option (Int32 × Int32)) = some ex from h)
  | succ n ih =>
    intro σ x1 x2 x3 ex H locs ls hl hP hS h k
    unfold F_M_waiting_16 at h
    refine lv_iload_n hx hb de_M_waiting_16 rfl (lv_at hl 3 rfl) ?_
    refine lv_aload_n hx hb de_M_waiting_17 rfl (lv_at hl 0 rfl) ?_
    refine mg_0 (v := .int (gI σ 30 0 0)) hx hb ht hown hK hP (by decide) 0 (by decide) tw_2_215 rfl de_M_waiting_18 ?_
    refine lv_icmp_ge (tgt := 97) hx hb de_M_waiting_21 (by decide) (fun hc => ?_) (fun hc => ?_)
    · have h := ie_t h hc
      have h := Option.some.inj h
      subst h
      exact k _ _ _ (lv_sub hl [0, 1, 2, 3] rfl) hP hS
    · have h := ie_f h hc
      refine lv_iload_n hx hb de_M_waiting_24 rfl (lv_at hl 1 rfl) ?_
      refine lv_iconst (v := 4) hx hb de_M_waiting_25 (by decide) ?_
      refine lv_icmp_ne (tgt := 47) hx hb de_M_waiting_26 (by decide) (fun hc => ?_) (fun hc => ?_)
      · have h := ie_f h hc
        refine lv_aload_n hx hb de_M_waiting_47 rfl (lv_at hl 0 rfl) ?_
        refine mg_0 (v := .ref (aa 6 0)) hx hb ht hown hK hP (by decide) 10 (by decide) tw_2_225 rfl de_M_waiting_48 ?_
        refine lv_iload_n hx hb de_M_waiting_51 rfl (lv_at hl 3 rfl) ?_
        obtain ⟨hi1, h⟩ := gd_some h
        refine ml_6 hx hb hK hP (by decide) (inb_in hi1) de_M_waiting_52 ?_
        refine lv_iconst (v := 4) hx hb de_M_waiting_53 (by decide) ?_
        refine lv_icmp_ne (tgt := 75) hx hb de_M_waiting_54 (by decide) (fun hc => ?_) (fun hc => ?_)
        · have h := ie_f h hc
          refine lv_iconst (v := 0) hx hb de_M_waiting_75 (by decide) ?_
          refine lv_istore (lv' := [(4, .int 0), (0, .ref (aa 0 0)), (1, .int x1), (2, .int x2), (3, .int x3)]) hx hb de_M_waiting_76 hl (by decide) rfl (fun ls hl => ?_)
          refine lv_iload_n hx hb de_M_waiting_78 rfl (lv_at hl 3 rfl) ?_
          refine lv_iload hx hb de_M_waiting_79 (lv_at hl 0 rfl) ?_
          refine lv_if_eq (tgt := 88) hx hb de_M_waiting_81 (by decide) (fun hc => ?_) (fun hc => ?_)
          · refine lv_iconst (v := 0) hx hb de_M_waiting_88 (by decide) ?_
            refine lv_iadd hx hb de_M_waiting_89 ?_
            refine lv_topi (fun v2 ev2 => ?_)
            have h := lx_at h v2 ev2
            refine lv_istore_n (lv' := [(2, .int v2), (4, .int 0), (0, .ref (aa 0 0)), (1, .int x1), (3, .int x3)]) hx hb de_M_waiting_90 rfl hl (by decide) rfl (fun ls hl => ?_)
            refine lv_iinc (k := 4) (v := x3 + 1) (lv' := [(3, .int (x3 + 1)), (2, .int v2), (4, .int 0), (0, .ref (aa 0 0)), (1, .int x1)]) hx hb de_M_waiting_91 hl rfl (ii_p1 _) (by decide) rfl (fun ls hl => ?_)
            refine lv_goto (tgt := 16) hx hb de_M_waiting_94 (by decide) ?_
            exact ih σ x1 v2 (x3 + 1) ex _ _ _ (lv_sub hl [3, 4, 1, 0] rfl) hP hS h k
          · exact absurd (by decide) hc
        · have h := ie_t h hc
          refine lv_aload_n hx hb de_M_waiting_57 rfl (lv_at hl 0 rfl) ?_
          refine mg_0 (v := .ref (aa 12 0)) hx hb ht hown hK hP (by decide) 16 (by decide) tw_2_231 rfl de_M_waiting_58 ?_
          refine lv_aload_n hx hb de_M_waiting_61 rfl (lv_at hl 0 rfl) ?_
          refine lv_iload_n hx hb de_M_waiting_62 rfl (lv_at hl 3 rfl) ?_
          obtain ⟨r3, hr3, h⟩ := bd_some h
          refine mq_i (va_runV (As := [.int x3]) (rest := [.ref (aa 12 0)]) S (c_M_done l D aa q hJ σ x3 r3 hr3) (cwV 1 ht (gv_in tw_3_96 tw_3_98 ts_M_done tw_1_7 tc_M_done) rfl rfl rfl bh_M_done ⟨Nat.le_of_ble_eq_true rfl, Nat.le_of_ble_eq_true rfl⟩) (mpreV hK hP (mr_0 hK hP (by decide))) rfl rfl hl.1 rfl (lv_room (Nat.le_of_ble_eq_true rfl)) de_M_waiting_63 ⟨Nat.zero_le _, Nat.zero_le _⟩) hS (fun H locs hP hS => ?_)
          obtain ⟨hi4, h⟩ := gd_some h
          refine ml_12 hx hb hK hP (by decide) (inb_in hi4) de_M_waiting_66 ?_
          refine lv_iload_n hx hb de_M_waiting_67 rfl (lv_at hl 1 rfl) ?_
          refine lv_icmp_ne (tgt := 75) hx hb de_M_waiting_68 (by decide) (fun hc => ?_) (fun hc => ?_)
          · have h := ie_f h hc
            refine lv_iconst (v := 0) hx hb de_M_waiting_75 (by decide) ?_
            refine lv_istore (lv' := [(4, .int 0), (0, .ref (aa 0 0)), (1, .int x1), (2, .int x2), (3, .int x3)]) hx hb de_M_waiting_76 hl (by decide) rfl (fun ls hl => ?_)
            refine lv_iload_n hx hb de_M_waiting_78 rfl (lv_at hl 3 rfl) ?_
            refine lv_iload hx hb de_M_waiting_79 (lv_at hl 0 rfl) ?_
            refine lv_if_eq (tgt := 88) hx hb de_M_waiting_81 (by decide) (fun hc => ?_) (fun hc => ?_)
            · refine lv_iconst (v := 0) hx hb de_M_waiting_88 (by decide) ?_
              refine lv_iadd hx hb de_M_waiting_89 ?_
              refine lv_topi (fun v5 ev5 => ?_)
              have h := lx_at h v5 ev5
              refine lv_istore_n (lv' := [(2, .int v5), (4, .int 0), (0, .ref (aa 0 0)), (1, .int x1), (3, .int x3)]) hx hb de_M_waiting_90 rfl hl (by decide) rfl (fun ls hl => ?_)
              refine lv_iinc (k := 4) (v := x3 + 1) (lv' := [(3, .int (x3 + 1)), (2, .int v5), (4, .int 0), (0, .ref (aa 0 0)), (1, .int x1)]) hx hb de_M_waiting_91 hl rfl (ii_p1 _) (by decide) rfl (fun ls hl => ?_)
              refine lv_goto (tgt := 16) hx hb de_M_waiting_94 (by decide) ?_
              exact ih σ x1 v5 (x3 + 1) ex _ _ _ (lv_sub hl [3, 4, 1, 0] rfl) hP hS h k
            · exact absurd (by decide) hc
          · have h := ie_t h hc
            refine lv_iconst (v := 1) hx hb de_M_waiting_71 (by decide) ?_
            refine lv_goto (tgt := 76) hx hb de_M_waiting_72 (by decide) ?_
            refine lv_istore (lv' := [(4, .int 1), (0, .ref (aa 0 0)), (1, .int x1), (2, .int x2), (3, .int x3)]) hx hb de_M_waiting_76 hl (by decide) rfl (fun ls hl => ?_)
            refine lv_iload_n hx hb de_M_waiting_78 rfl (lv_at hl 3 rfl) ?_
            refine lv_iload hx hb de_M_waiting_79 (lv_at hl 0 rfl) ?_
            refine lv_if_eq (tgt := 88) hx hb de_M_waiting_81 (by decide) (fun hc => ?_) (fun hc => ?_)
            · exact absurd hc (by decide)
            · refine lv_iconst (v := 1) hx hb de_M_waiting_84 (by decide) ?_
              refine lv_goto (tgt := 89) hx hb de_M_waiting_85 (by decide) ?_
              refine lv_iadd hx hb de_M_waiting_89 ?_
              refine lv_topi (fun v6 ev6 => ?_)
              have h := lx_at h v6 ev6
              refine lv_istore_n (lv' := [(2, .int v6), (4, .int 1), (0, .ref (aa 0 0)), (1, .int x1), (3, .int x3)]) hx hb de_M_waiting_90 rfl hl (by decide) rfl (fun ls hl => ?_)
              refine lv_iinc (k := 4) (v := x3 + 1) (lv' := [(3, .int (x3 + 1)), (2, .int v6), (4, .int 1), (0, .ref (aa 0 0)), (1, .int x1)]) hx hb de_M_waiting_91 hl rfl (ii_p1 _) (by decide) rfl (fun ls hl => ?_)
              refine lv_goto (tgt := 16) hx hb de_M_waiting_94 (by decide) ?_
              exact ih σ x1 v6 (x3 + 1) ex _ _ _ (lv_sub hl [3, 4, 1, 0] rfl) hP hS h k
      · have h := ie_t h hc
        refine lv_aload_n hx hb de_M_waiting_29 rfl (lv_at hl 0 rfl) ?_
        refine mg_0 (v := .ref (aa 6 0)) hx hb ht hown hK hP (by decide) 10 (by decide) tw_2_225 rfl de_M_waiting_30 ?_
        refine lv_iload_n hx hb de_M_waiting_33 rfl (lv_at hl 3 rfl) ?_
        obtain ⟨hi7, h⟩ := gd_some h
        refine ml_6 hx hb hK hP (by decide) (inb_in hi7) de_M_waiting_34 ?_
        refine lv_iconst (v := 5) hx hb de_M_waiting_35 (by decide) ?_
        refine lv_icmp_ne (tgt := 43) hx hb de_M_waiting_36 (by decide) (fun hc => ?_) (fun hc => ?_)
        · have h := ie_f h hc
          refine lv_iconst (v := 0) hx hb de_M_waiting_43 (by decide) ?_
          refine lv_goto (tgt := 76) hx hb de_M_waiting_44 (by decide) ?_
          refine lv_istore (lv' := [(4, .int 0), (0, .ref (aa 0 0)), (1, .int x1), (2, .int x2), (3, .int x3)]) hx hb de_M_waiting_76 hl (by decide) rfl (fun ls hl => ?_)
          refine lv_iload_n hx hb de_M_waiting_78 rfl (lv_at hl 3 rfl) ?_
          refine lv_iload hx hb de_M_waiting_79 (lv_at hl 0 rfl) ?_
          refine lv_if_eq (tgt := 88) hx hb de_M_waiting_81 (by decide) (fun hc => ?_) (fun hc => ?_)
          · refine lv_iconst (v := 0) hx hb de_M_waiting_88 (by decide) ?_
            refine lv_iadd hx hb de_M_waiting_89 ?_
            refine lv_topi (fun v8 ev8 => ?_)
            have h := lx_at h v8 ev8
            refine lv_istore_n (lv' := [(2, .int v8), (4, .int 0), (0, .ref (aa 0 0)), (1, .int x1), (3, .int x3)]) hx hb de_M_waiting_90 rfl hl (by decide) rfl (fun ls hl => ?_)
            refine lv_iinc (k := 4) (v := x3 + 1) (lv' := [(3, .int (x3 + 1)), (2, .int v8), (4, .int 0), (0, .ref (aa 0 0)), (1, .int x1)]) hx hb de_M_waiting_91 hl rfl (ii_p1 _) (by decide) rfl (fun ls hl => ?_)
            refine lv_goto (tgt := 16) hx hb de_M_waiting_94 (by decide) ?_
            exact ih σ x1 v8 (x3 + 1) ex _ _ _ (lv_sub hl [3, 4, 1, 0] rfl) hP hS h k
          · exact absurd (by decide) hc
        · have h := ie_t h hc
          refine lv_iconst (v := 1) hx hb de_M_waiting_39 (by decide) ?_
          refine lv_goto (tgt := 76) hx hb de_M_waiting_40 (by decide) ?_
          refine lv_istore (lv' := [(4, .int 1), (0, .ref (aa 0 0)), (1, .int x1), (2, .int x2), (3, .int x3)]) hx hb de_M_waiting_76 hl (by decide) rfl (fun ls hl => ?_)
          refine lv_iload_n hx hb de_M_waiting_78 rfl (lv_at hl 3 rfl) ?_
          refine lv_iload hx hb de_M_waiting_79 (lv_at hl 0 rfl) ?_
          refine lv_if_eq (tgt := 88) hx hb de_M_waiting_81 (by decide) (fun hc => ?_) (fun hc => ?_)
          · exact absurd hc (by decide)
          · refine lv_iconst (v := 1) hx hb de_M_waiting_84 (by decide) ?_
            refine lv_goto (tgt := 89) hx hb de_M_waiting_85 (by decide) ?_
            refine lv_iadd hx hb de_M_waiting_89 ?_
            refine lv_topi (fun v9 ev9 => ?_)
            have h := lx_at h v9 ev9
            refine lv_istore_n (lv' := [(2, .int v9), (4, .int 1), (0, .ref (aa 0 0)), (1, .int x1), (3, .int x3)]) hx hb de_M_waiting_90 rfl hl (by decide) rfl (fun ls hl => ?_)
            refine lv_iinc (k := 4) (v := x3 + 1) (lv' := [(3, .int (x3 + 1)), (2, .int v9), (4, .int 1), (0, .ref (aa 0 0)), (1, .int x1)]) hx hb de_M_waiting_91 hl rfl (ii_p1 _) (by decide) rfl (fun ls hl => ?_)
            refine lv_goto (tgt := 16) hx hb de_M_waiting_94 (by decide) ?_
            exact ih σ x1 v9 (x3 + 1) ex _ _ _ (lv_sub hl [3, 4, 1, 0] rfl) hP hS h k
set_option maxHeartbeats 4000000 in
set_option maxRecDepth 100000 in
theorem c_M_waiting (l : Launch) (D : va_G) (aa : Nat → Nat → Nat) (q : Nat → ClassId) (hJ : wJ mC aa) (σ : kS) (x1 : Int32) (res : Int32) (h : F_M_waiting σ x1 = some res) : Met l by_M_waiting (.code by_M_waiting bc_M_waiting 5 (some .int) :: lw_g) brm_M_waiting (va_Pc [.ref (aa 0 0), .int x1] (mPre D aa q σ)) (va_Qi (fun (r : Int32) (u : kS) => r = res ∧ u = σ) (mB D aa q) (wA mC aa)) 0 0 (wA mC aa) := by
  refine Met.ofW (cc := bc_M_waiting) (maxL := 5) (ret := (some .int)) (by decide) rfl ?_
  intro p e s m args below meth c s₁ B hml hv
  obtain ⟨rfl, hP, hK⟩ := hv
  have hx := B.exec
  have hb := B.bytes
  have hr := B.returns
  have ht : ∀ w ∈ lw_g, w.before ([.ref (aa 0 0), .int x1] : List Value).toArray s = true := fun w h => atoms_spec (ws := .code by_M_waiting bc_M_waiting 5 (some .int) :: lw_g) B.pre w (List.mem_cons_of_mem _ h)
  have hown : s.vm.findClass bR_M = some m.cls := findClass_of_methodNamed B.named
  have hlocks := B.notSynchronized
  have S : CallFix p m c bc_M_waiting 5 s ([.ref (aa 0 0), .int x1] : List Value).toArray lw_g bR_M := ⟨hx, hb, hml, hown, ht⟩
  have hS : va_S (wA mC aa) s.heap s.heap [] := va_S.rf
  have hl := lv_entry ([.ref (aa 0 0), .int x1]) (n := 5) (Nat.le_of_ble_eq_true rfl)
  rw [lg_entry_eq]
  generalize (lg_sl ([.ref (aa 0 0), .int x1]) ++ List.replicate (5 - (lg_sl ([.ref (aa 0 0), .int x1])).length) Slot.unset).toArray = ls at hl ⊢
  have hl : lv_has ls 5 [(0, .ref (aa 0 0)), (1, .int x1)] := hl
  unfold F_M_waiting at h
  refine lv_aload_n hx hb de_M_waiting_0 rfl (lv_at hl 0 rfl) ?_
  refine lv_iload_n hx hb de_M_waiting_1 rfl (lv_at hl 1 rfl) ?_
  refine lv_iconst (v := 0) hx hb de_M_waiting_2 (by decide) ?_
  refine lv_iconst (v := 4) hx hb de_M_waiting_3 (by decide) ?_
  obtain ⟨r1, hr1, h⟩ := bd_some h
  refine mq_i (va_runV (As := [.int x1, .int 0, .int 4]) (rest := []) S (c_M_within l D aa q hJ σ x1 0 4 r1 hr1) (cwV 3 ht (gv_in tw_3_71 tw_3_73 ts_M_within tw_1_7 tc_M_within) rfl rfl rfl bh_M_within ⟨Nat.le_of_ble_eq_true rfl, Nat.le_of_ble_eq_true rfl⟩) (mpreV hK hP (mr_0 hK hP (by decide))) rfl rfl hl.1 rfl (lv_room (Nat.le_of_ble_eq_true rfl)) de_M_waiting_4 ⟨Nat.zero_le _, Nat.zero_le _⟩) hS (fun H locs hP hS => ?_)
  refine lv_if_ne (tgt := 12) hx hb de_M_waiting_7 (by decide) (fun hc => ?_) (fun hc => ?_)
  · have h := ie_f h hc
    refine lv_iconst (v := 0) hx hb de_M_waiting_12 (by decide) ?_
    refine lv_istore_n (lv' := [(2, .int 0), (0, .ref (aa 0 0)), (1, .int x1)]) hx hb de_M_waiting_13 rfl hl (by decide) rfl (fun ls hl => ?_)
    refine lv_iconst (v := 0) hx hb de_M_waiting_14 (by decide) ?_
    refine lv_istore_n (lv' := [(3, .int 0), (2, .int 0), (0, .ref (aa 0 0)), (1, .int x1)]) hx hb de_M_waiting_15 rfl hl (by decide) rfl (fun ls hl => ?_)
    obtain ⟨ex2, hex2, h⟩ := bd_some h
    refine w_M_waiting_16 hJ S hlocks hK 1000 σ x1 0 0 ex2 _ _ _ (lv_sub hl [2, 3, 1, 0] rfl) hP hS hex2 (fun H locs ls hl hP hS => ?_)
    refine lv_iload_n hx hb de_M_waiting_97 rfl (lv_at hl 2 rfl) ?_
    have h := Option.some.inj h
    subst h
    exact W.iret (v := ex2.1) hx hb hr (fun t ht hW => ⟨⟨_, _, rfl, ⟨rfl, rfl⟩, by rw [ht]; exact hP, va_K.moved hW.alike hK⟩, hS.F ht⟩) hS.2.2 de_M_waiting_98 hlocks
  · have h := ie_t h hc
    refine lv_iconst (v := (-1)) hx hb de_M_waiting_10 (by decide) ?_
    have h := Option.some.inj h
    subst h
    exact W.iret (v := (-1)) hx hb hr (fun t ht hW => ⟨⟨_, _, rfl, ⟨rfl, rfl⟩, by rw [ht]; exact hP, va_K.moved hW.alike hK⟩, hS.F ht⟩) hS.2.2 de_M_waiting_11 hlocks
set_option maxHeartbeats 4000000 in
set_option maxRecDepth 100000 in
theorem c_M_area (l : Launch) (D : va_G) (aa : Nat → Nat → Nat) (q : Nat → ClassId) (hJ : wJ mC aa) (σ : kS) (x1 : Int32) (res : Int64) (h : F_M_area σ x1 = some res) : Met l by_M_area (.code by_M_area bc_M_area 2 (some .long) :: lw_g) brm_M_area (va_Pc [.ref (aa 0 0), .int x1] (mPre D aa q σ)) (va_Ql (fun (r : Int64) (u : kS) => r = res ∧ u = σ) (mB D aa q) (wA mC aa)) 0 0 (wA mC aa) := by
  refine Met.ofW (cc := bc_M_area) (maxL := 2) (ret := (some .long)) (by decide) rfl ?_
  intro p e s m args below meth c s₁ B hml hv
  obtain ⟨rfl, hP, hK⟩ := hv
  have hx := B.exec
  have hb := B.bytes
  have hr := B.returns
  have ht : ∀ w ∈ lw_g, w.before ([.ref (aa 0 0), .int x1] : List Value).toArray s = true := fun w h => atoms_spec (ws := .code by_M_area bc_M_area 2 (some .long) :: lw_g) B.pre w (List.mem_cons_of_mem _ h)
  have hown : s.vm.findClass bR_M = some m.cls := findClass_of_methodNamed B.named
  have hlocks := B.notSynchronized
  have S : CallFix p m c bc_M_area 2 s ([.ref (aa 0 0), .int x1] : List Value).toArray lw_g bR_M := ⟨hx, hb, hml, hown, ht⟩
  have hS : va_S (wA mC aa) s.heap s.heap [] := va_S.rf
  have hl := lv_entry ([.ref (aa 0 0), .int x1]) (n := 2) (Nat.le_of_ble_eq_true rfl)
  rw [lg_entry_eq]
  generalize (lg_sl ([.ref (aa 0 0), .int x1]) ++ List.replicate (2 - (lg_sl ([.ref (aa 0 0), .int x1])).length) Slot.unset).toArray = ls at hl ⊢
  have hl : lv_has ls 2 [(0, .ref (aa 0 0)), (1, .int x1)] := hl
  unfold F_M_area at h
  refine lv_aload_n hx hb de_M_area_0 rfl (lv_at hl 0 rfl) ?_
  refine lv_iload_n hx hb de_M_area_1 rfl (lv_at hl 1 rfl) ?_
  refine lv_iconst (v := 0) hx hb de_M_area_2 (by decide) ?_
  refine lv_iconst (v := 3) hx hb de_M_area_3 (by decide) ?_
  obtain ⟨r1, hr1, h⟩ := bd_some h
  refine mq_i (va_runV (As := [.int x1, .int 0, .int 3]) (rest := []) S (c_M_within l D aa q hJ σ x1 0 3 r1 hr1) (cwV 3 ht (gv_in tw_3_71 tw_3_73 ts_M_within tw_1_7 tc_M_within) rfl rfl rfl bh_M_within ⟨Nat.le_of_ble_eq_true rfl, Nat.le_of_ble_eq_true rfl⟩) (mpreV hK hP (mr_0 hK hP (by decide))) rfl rfl hl.1 rfl (lv_room (Nat.le_of_ble_eq_true rfl)) de_M_area_4 ⟨Nat.zero_le _, Nat.zero_le _⟩) hS (fun H locs hP hS => ?_)
  refine lv_if_eq (tgt := 19) hx hb de_M_area_7 (by decide) (fun hc => ?_) (fun hc => ?_)
  · have h := ie_t h hc
    refine lv_ldc2 (v := (-1)) hx hb hown (ht _ tw_3_196) de_M_area_19 ?_
    have h := Option.some.inj h
    subst h
    exact W.lret (v := (-1)) hx hb hr (fun t ht hW => ⟨⟨_, _, rfl, ⟨rfl, rfl⟩, by rw [ht]; exact hP, va_K.moved hW.alike hK⟩, hS.F ht⟩) hS.2.2 de_M_area_22 hlocks
  · have h := ie_f h hc
    refine lv_aload_n hx hb de_M_area_10 rfl (lv_at hl 0 rfl) ?_
    refine mg_0 (v := .ref (aa 17 0)) hx hb ht hown hK hP (by decide) 21 (by decide) tw_2_236 rfl de_M_area_11 ?_
    refine lv_iload_n hx hb de_M_area_14 rfl (lv_at hl 1 rfl) ?_
    obtain ⟨hi2, h⟩ := gd_some h
    refine ml_17 hx hb hK hP (by decide) (inb_in hi2) de_M_area_15 ?_
    refine lv_goto (tgt := 22) hx hb de_M_area_16 (by decide) ?_
    have h := Option.some.inj h
    subst h
    exact W.lret (v := gL σ 17 0 x1.toNatClampNeg) hx hb hr (fun t ht hW => ⟨⟨_, _, rfl, ⟨rfl, rfl⟩, by rw [ht]; exact hP, va_K.moved hW.alike hK⟩, hS.F ht⟩) hS.2.2 de_M_area_22 hlocks
set_option maxHeartbeats 4000000 in
set_option maxRecDepth 100000 in
theorem c_M_waited (l : Launch) (D : va_G) (aa : Nat → Nat → Nat) (q : Nat → ClassId) (hJ : wJ mC aa) (σ : kS) (x1 : Int32) (res : Int64) (h : F_M_waited σ x1 = some res) : Met l by_M_waited (.code by_M_waited bc_M_waited 2 (some .long) :: lw_g) brm_M_waited (va_Pc [.ref (aa 0 0), .int x1] (mPre D aa q σ)) (va_Ql (fun (r : Int64) (u : kS) => r = res ∧ u = σ) (mB D aa q) (wA mC aa)) 0 0 (wA mC aa) := by
  refine Met.ofW (cc := bc_M_waited) (maxL := 2) (ret := (some .long)) (by decide) rfl ?_
  intro p e s m args below meth c s₁ B hml hv
  obtain ⟨rfl, hP, hK⟩ := hv
  have hx := B.exec
  have hb := B.bytes
  have hr := B.returns
  have ht : ∀ w ∈ lw_g, w.before ([.ref (aa 0 0), .int x1] : List Value).toArray s = true := fun w h => atoms_spec (ws := .code by_M_waited bc_M_waited 2 (some .long) :: lw_g) B.pre w (List.mem_cons_of_mem _ h)
  have hown : s.vm.findClass bR_M = some m.cls := findClass_of_methodNamed B.named
  have hlocks := B.notSynchronized
  have S : CallFix p m c bc_M_waited 2 s ([.ref (aa 0 0), .int x1] : List Value).toArray lw_g bR_M := ⟨hx, hb, hml, hown, ht⟩
  have hS : va_S (wA mC aa) s.heap s.heap [] := va_S.rf
  have hl := lv_entry ([.ref (aa 0 0), .int x1]) (n := 2) (Nat.le_of_ble_eq_true rfl)
  rw [lg_entry_eq]
  generalize (lg_sl ([.ref (aa 0 0), .int x1]) ++ List.replicate (2 - (lg_sl ([.ref (aa 0 0), .int x1])).length) Slot.unset).toArray = ls at hl ⊢
  have hl : lv_has ls 2 [(0, .ref (aa 0 0)), (1, .int x1)] := hl
  unfold F_M_waited at h
  refine lv_aload_n hx hb de_M_waited_0 rfl (lv_at hl 0 rfl) ?_
  refine lv_iload_n hx hb de_M_waited_1 rfl (lv_at hl 1 rfl) ?_
  refine lv_iconst (v := 0) hx hb de_M_waited_2 (by decide) ?_
  refine lv_iconst (v := 3) hx hb de_M_waited_3 (by decide) ?_
  obtain ⟨r1, hr1, h⟩ := bd_some h
  refine mq_i (va_runV (As := [.int x1, .int 0, .int 3]) (rest := []) S (c_M_within l D aa q hJ σ x1 0 3 r1 hr1) (cwV 3 ht (gv_in tw_3_71 tw_3_73 ts_M_within tw_1_7 tc_M_within) rfl rfl rfl bh_M_within ⟨Nat.le_of_ble_eq_true rfl, Nat.le_of_ble_eq_true rfl⟩) (mpreV hK hP (mr_0 hK hP (by decide))) rfl rfl hl.1 rfl (lv_room (Nat.le_of_ble_eq_true rfl)) de_M_waited_4 ⟨Nat.zero_le _, Nat.zero_le _⟩) hS (fun H locs hP hS => ?_)
  refine lv_if_eq (tgt := 19) hx hb de_M_waited_7 (by decide) (fun hc => ?_) (fun hc => ?_)
  · have h := ie_t h hc
    refine lv_ldc2 (v := (-1)) hx hb hown (ht _ tw_3_196) de_M_waited_19 ?_
    have h := Option.some.inj h
    subst h
    exact W.lret (v := (-1)) hx hb hr (fun t ht hW => ⟨⟨_, _, rfl, ⟨rfl, rfl⟩, by rw [ht]; exact hP, va_K.moved hW.alike hK⟩, hS.F ht⟩) hS.2.2 de_M_waited_22 hlocks
  · have h := ie_f h hc
    refine lv_aload_n hx hb de_M_waited_10 rfl (lv_at hl 0 rfl) ?_
    refine mg_0 (v := .ref (aa 18 0)) hx hb ht hown hK hP (by decide) 22 (by decide) tw_2_237 rfl de_M_waited_11 ?_
    refine lv_iload_n hx hb de_M_waited_14 rfl (lv_at hl 1 rfl) ?_
    obtain ⟨hi2, h⟩ := gd_some h
    refine ml_18 hx hb hK hP (by decide) (inb_in hi2) de_M_waited_15 ?_
    refine lv_goto (tgt := 22) hx hb de_M_waited_16 (by decide) ?_
    have h := Option.some.inj h
    subst h
    exact W.lret (v := gL σ 18 0 x1.toNatClampNeg) hx hb hr (fun t ht hW => ⟨⟨_, _, rfl, ⟨rfl, rfl⟩, by rw [ht]; exact hP, va_K.moved hW.alike hK⟩, hS.F ht⟩) hS.2.2 de_M_waited_22 hlocks
