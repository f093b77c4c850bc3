set_option maxHeartbeats 4000000 in
set_option maxRecDepth 100000 in
theorem c_P_beginRound (l : Launch) (D : va_G) (aa : Nat → Nat → Nat) (q : Nat → ClassId) (hJ : wJ kC aa) (σ : kS) (g0 : Nat) (hg0 : g0 < 12) (res : Int32 × kS) (h : F_P_beginRound σ g0 = some res) : Met l by_P_beginRound (.code by_P_beginRound bc_P_beginRound 1 (some .boolean) :: lw_g) brm_P_beginRound (va_Pc [.ref (aa 9 g0)] (kPre D aa q σ)) (va_Qi (fun (r : Int32) (u : kS) => r = res.1 ∧ u = res.2) (kB D aa q) (wA kC aa)) 0 0 (wA kC aa) := by
  refine Met.ofW (cc := bc_P_beginRound) (maxL := 1) (ret := (some .boolean)) (by decide) rfl ?_
  intro p e s m args below meth c s₁ B hml hv
  obtain ⟨rfl, hP, hK⟩ := hv
  have hx := B.exec
  have hb := B.bytes
  have hr := B.returns
  have ht : ∀ w ∈ lw_g, w.before ([.ref (aa 9 g0)] : List Value).toArray s = true := fun w h => atoms_spec (ws := .code by_P_beginRound bc_P_beginRound 1 (some .boolean) :: lw_g) B.pre w (List.mem_cons_of_mem _ h)
  have hown : s.vm.findClass bR_P = some m.cls := findClass_of_methodNamed B.named
  have hlocks := B.notSynchronized
  have S : CallFix p m c bc_P_beginRound 1 s ([.ref (aa 9 g0)] : List Value).toArray lw_g bR_P := ⟨hx, hb, hml, hown, ht⟩
  have hS : va_S (wA kC aa) s.heap s.heap [] := va_S.rf
  have hl := lv_entry ([.ref (aa 9 g0)]) (n := 1) (Nat.le_of_ble_eq_true rfl)
  rw [lg_entry_eq]
  generalize (lg_sl ([.ref (aa 9 g0)]) ++ List.replicate (1 - (lg_sl ([.ref (aa 9 g0)])).length) Slot.unset).toArray = ls at hl ⊢
  have hl : lv_has ls 1 [(0, .ref (aa 9 g0))] := hl
  unfold F_P_beginRound at h
  refine lv_aload_n hx hb de_P_beginRound_0 rfl (lv_at hl 0 rfl) ?_
  refine lv_dup hx hb de_P_beginRound_1 rfl ?_
  refine kg_9 (v := .int (gI σ 5 g0 0)) hx hb ht hown hK hP hg0 7 (by decide) tw_1_74 rfl de_P_beginRound_2 ?_
  refine lv_iconst (v := 1) hx hb de_P_beginRound_5 (by decide) ?_
  refine lv_isub hx hb de_P_beginRound_6 ?_
  refine kp_9_roundsLeft hx hb ht hown hK hP hJ hS hg0 tw_1_74 de_P_beginRound_7 (fun H locs hP hS => ?_)
  obtain ⟨σ1, eσ1, h⟩ := lx_ex h
  rw [← eσ1] at hP
  refine lv_aload_n hx hb de_P_beginRound_10 rfl (lv_at hl 0 rfl) ?_
  refine kg_9 (v := .int (gI σ1 5 g0 0)) hx hb ht hown hK hP hg0 7 (by decide) tw_1_74 rfl de_P_beginRound_11 ?_
  refine lv_if_gt (tgt := 25) hx hb de_P_beginRound_14 (by decide) (fun hc => ?_) (fun hc => ?_)
  · have h := ie_t h hc
    refine lv_aload_n hx hb de_P_beginRound_25 rfl (lv_at hl 0 rfl) ?_
    refine lv_iconst (v := 0) hx hb de_P_beginRound_26 (by decide) ?_
    refine kp_9_place hx hb ht hown hK hP hJ hS hg0 tw_1_80 de_P_beginRound_27 (fun H locs hP hS => ?_)
    obtain ⟨σ2, eσ2, h⟩ := lx_ex h
    rw [← eσ2] at hP
    refine lv_iconst (v := 1) hx hb de_P_beginRound_30 (by decide) ?_
    have h := Option.some.inj h
    subst h
    exact W.zret (v := 1) hx hb hr rfl (fun t ht hW => ⟨⟨_, _, rfl, ⟨rfl, rfl⟩, by rw [ht]; exact hP, va_K.moved hW.alike hK⟩, hS.F ht⟩) hS.2.2 de_P_beginRound_31 hlocks
  · have h := ie_f h hc
    refine lv_aload_n hx hb de_P_beginRound_17 rfl (lv_at hl 0 rfl) ?_
    refine lv_bipush (v := 6) hx hb de_P_beginRound_18 (by decide) ?_
    refine kp_9_state hx hb ht hown hK hP hJ hS hg0 tw_1_78 de_P_beginRound_20 (fun H locs hP hS => ?_)
    obtain ⟨σ3, eσ3, h⟩ := lx_ex h
    rw [← eσ3] at hP
    refine lv_iconst (v := 0) hx hb de_P_beginRound_23 (by decide) ?_
    have h := Option.some.inj h
    subst h
    exact W.zret (v := 0) hx hb hr rfl (fun t ht hW => ⟨⟨_, _, rfl, ⟨rfl, rfl⟩, by rw [ht]; exact hP, va_K.moved hW.alike hK⟩, hS.F ht⟩) hS.2.2 de_P_beginRound_24 hlocks
set_option maxHeartbeats 4000000 in
set_option maxRecDepth 100000 in
theorem w_K_doTurn_4 {p : Program} {l : Launch} {e : Env} {s : State} {m : MethodId} {args : Array Value} {below : List Frame} {meth : Method} {c : Code} {Q : State → Prop} {D : va_G} {aa : Nat → Nat → Nat} {q : Nat → ClassId} (hJ : wJ kC aa) (S : CallFix p m c bc_K_doTurn 4 s args lw_g bR_K) (hlocks : meth.locks = false) (hK : va_K D kCl (kT q) s) : ∀ (n : Nat) (σ : kS) (g1 : Nat) (hg1 : g1 < 12) (x2 : Int32) (x3 : Int32) (ex : kS × Int32 × Int32) (H : Heap) (locs : List Loc) (ls : Array Slot), lv_has ls 4 [(0, .ref (aa 0 0)), (1, .ref (aa 9 g1)), (2, .int x2), (3, .int x3)] → va_P D kCl (kW aa q σ) H → va_S (wA kC aa) s.heap H locs → F_K_doTurn_4 n σ g1 x2 x3 = some ex → (∀ (H1 : Heap) (locs1 : List Loc) (ls1 : Array Slot), lv_has ls1 4 [(0, .ref (aa 0 0)), (1, .ref (aa 9 g1)), (2, .int ex.2.1), (3, .int ex.2.2)] → va_P D kCl (kW aa q ex.1) H1 → va_S (wA kC aa) s.heap H1 locs1 → W p l e brm_K_doTurn s m args below meth c H1 locs1 0 0 Q (F0 m 44 ls1 [])) → W p l e brm_K_doTurn s m args below meth c H locs 0 0 Q (F0 m 4 ls []) := by
  obtain ⟨hx, hb, hml, hown, hts⟩ := id S
  have ht := hts
  intro n
  induction n with
  | zero => intro σ g1 hg1 x2 x3 ex H locs ls hl hP hS h k; cases (show (none : Option (kS × Int32 × Int32)) = some ex from h)
  | succ n ih =>
    intro σ g1 hg1 x2 x3 ex H locs ls hl hP hS h k
    unfold F_K_doTurn_4 at h
    refine lv_iload_n hx hb de_K_doTurn_4 rfl (lv_at hl 2 rfl) ?_
    refine lv_if_eq (tgt := 44) hx hb de_K_doTurn_5 (by decide) (fun hc => ?_) (fun hc => ?_)
    · have h := ie_t h hc
      have h := Option.some.inj h
      subst h
      exact k _ _ _ (lv_sub hl [0, 1, 2, 3] rfl) hP hS
    · have h := ie_f h hc
      refine lv_iload_n hx hb de_K_doTurn_8 rfl (lv_at hl 3 rfl) ?_
      refine lv_bipush (v := 99) hx hb de_K_doTurn_9 (by decide) ?_
      refine lv_icmp_ge (tgt := 44) hx hb de_K_doTurn_11 (by decide) (fun hc => ?_) (fun hc => ?_)
      · have h := ie_t h hc
        have h := Option.some.inj h
        subst h
        exact k _ _ _ (lv_sub hl [0, 1, 2, 3] rfl) hP hS
      · have h := ie_f h hc
        refine lv_aload_n hx hb de_K_doTurn_14 rfl (lv_at hl 1 rfl) ?_
        refine kg_9 (v := .int (gI σ 8 g1 0)) hx hb ht hown hK hP hg1 10 (by decide) tw_1_81 rfl de_K_doTurn_15 ?_
        refine lv_aload_n hx hb de_K_doTurn_18 rfl (lv_at hl 1 rfl) ?_
        refine kg_9 (v := .int (gI σ 3 g1 0)) hx hb ht hown hK hP hg1 5 (by decide) tw_1_71 rfl de_K_doTurn_19 ?_
        refine lv_icmp_ge (tgt := 33) hx hb de_K_doTurn_22 (by decide) (fun hc => ?_) (fun hc => ?_)
        · have h := ie_t h hc
          refine lv_aload_n hx hb de_K_doTurn_33 rfl (lv_at hl 1 rfl) ?_
          obtain ⟨r1, hr1, h⟩ := bd_some h
          refine kq_i (va_runV (As := []) (rest := []) S (c_P_beginRound l D aa q hJ σ g1 hg1 r1 hr1) (cwV 0 ht (gv_in tw_2_148 tw_2_149 tw_2_150 tw_1_4 tc_P_beginRound) rfl rfl rfl bh_P_beginRound ⟨Nat.le_of_ble_eq_true rfl, Nat.le_of_ble_eq_true rfl⟩) (kpreV hK hP (kr_9 hK hP hg1)) rfl rfl hl.1 rfl (lv_room (Nat.le_of_ble_eq_true rfl)) de_K_doTurn_34 ⟨Nat.zero_le _, Nat.zero_le _⟩) hS (fun H locs hP hS => ?_)
          refine lv_topi (fun v2 ev2 => ?_)
          have h := lx_at h v2 ev2
          refine lv_istore_n (lv' := [(2, .int v2), (0, .ref (aa 0 0)), (1, .ref (aa 9 g1)), (3, .int x3)]) hx hb de_K_doTurn_37 rfl hl (by decide) rfl (fun ls hl => ?_)
          refine lv_iinc (k := 3) (v := x3 + 1) (lv' := [(3, .int (x3 + 1)), (2, .int v2), (0, .ref (aa 0 0)), (1, .ref (aa 9 g1))]) hx hb de_K_doTurn_38 hl rfl (ii_p1 _) (by decide) rfl (fun ls hl => ?_)
          refine lv_goto (tgt := 4) hx hb de_K_doTurn_41 (by decide) ?_
          exact ih r1.2 g1 hg1 v2 (x3 + 1) ex _ _ _ (lv_sub hl [2, 3, 1, 0] rfl) hP hS h k
        · have h := ie_f h hc
          refine lv_aload_n hx hb de_K_doTurn_25 rfl (lv_at hl 0 rfl) ?_
          refine lv_aload_n hx hb de_K_doTurn_26 rfl (lv_at hl 1 rfl) ?_
          obtain ⟨r3, hr3, h⟩ := bd_some h
          refine kq_i (va_runV (As := [.ref (aa 9 g1)]) (rest := []) S (c_K_perform l D aa q hJ σ g1 hg1 r3 hr3) (cwV 1 ht (gv_in tw_2_93 tw_2_95 ts_K_perform tw_1_1 tc_K_perform) rfl rfl rfl bh_K_perform ⟨Nat.le_of_ble_eq_true rfl, Nat.le_of_ble_eq_true rfl⟩) (kpreV hK hP (kr_0 hK hP (by decide))) rfl rfl hl.1 rfl (lv_room (Nat.le_of_ble_eq_true rfl)) de_K_doTurn_27 ⟨Nat.zero_le _, Nat.zero_le _⟩) hS (fun H locs hP hS => ?_)
          refine lv_goto (tgt := 37) hx hb de_K_doTurn_30 (by decide) ?_
          refine lv_topi (fun v4 ev4 => ?_)
          have h := lx_at h v4 ev4
          refine lv_istore_n (lv' := [(2, .int v4), (0, .ref (aa 0 0)), (1, .ref (aa 9 g1)), (3, .int x3)]) hx hb de_K_doTurn_37 rfl hl (by decide) rfl (fun ls hl => ?_)
          refine lv_iinc (k := 3) (v := x3 + 1) (lv' := [(3, .int (x3 + 1)), (2, .int v4), (0, .ref (aa 0 0)), (1, .ref (aa 9 g1))]) hx hb de_K_doTurn_38 hl rfl (ii_p1 _) (by decide) rfl (fun ls hl => ?_)
          refine lv_goto (tgt := 4) hx hb de_K_doTurn_41 (by decide) ?_
          exact ih r3.2 g1 hg1 v4 (x3 + 1) ex _ _ _ (lv_sub hl [2, 3, 1, 0] rfl) hP hS h k
set_option maxHeartbeats 4000000 in
set_option maxRecDepth 100000 in
theorem c_K_doTurn (l : Launch) (D : va_G) (aa : Nat → Nat → Nat) (q : Nat → ClassId) (hJ : wJ kC aa) (σ : kS) (g1 : Nat) (hg1 : g1 < 12) (res : kS) (h : F_K_doTurn σ g1 = some res) : Met l by_K_doTurn (.code by_K_doTurn bc_K_doTurn 4 none :: lw_g) brm_K_doTurn (va_Pc [.ref (aa 0 0), .ref (aa 9 g1)] (kPre D aa q σ)) (va_Qv (fun u : kS => u = res) (kB D aa q) (wA kC aa)) 0 0 (wA kC aa) := by
  refine Met.ofW (cc := bc_K_doTurn) (maxL := 4) (ret := none) (by decide) rfl ?_
  intro p e s m args below meth c s₁ B hml hv
  obtain ⟨rfl, hP, hK⟩ := hv
  have hx := B.exec
  have hb := B.bytes
  have hr := B.returns
  have ht : ∀ w ∈ lw_g, w.before ([.ref (aa 0 0), .ref (aa 9 g1)] : List Value).toArray s = true := fun w h => atoms_spec (ws := .code by_K_doTurn bc_K_doTurn 4 none :: lw_g) B.pre w (List.mem_cons_of_mem _ h)
  have hown : s.vm.findClass bR_K = some m.cls := findClass_of_methodNamed B.named
  have hlocks := B.notSynchronized
  have S : CallFix p m c bc_K_doTurn 4 s ([.ref (aa 0 0), .ref (aa 9 g1)] : List Value).toArray lw_g bR_K := ⟨hx, hb, hml, hown, ht⟩
  have hS : va_S (wA kC aa) s.heap s.heap [] := va_S.rf
  have hl := lv_entry ([.ref (aa 0 0), .ref (aa 9 g1)]) (n := 4) (Nat.le_of_ble_eq_true rfl)
  rw [lg_entry_eq]
  generalize (lg_sl ([.ref (aa 0 0), .ref (aa 9 g1)]) ++ List.replicate (4 - (lg_sl ([.ref (aa 0 0), .ref (aa 9 g1)])).length) Slot.unset).toArray = ls at hl ⊢
  have hl : lv_has ls 4 [(0, .ref (aa 0 0)), (1, .ref (aa 9 g1))] := hl
  unfold F_K_doTurn at h
  refine lv_iconst (v := 1) hx hb de_K_doTurn_0 (by decide) ?_
  refine lv_istore_n (lv' := [(2, .int 1), (0, .ref (aa 0 0)), (1, .ref (aa 9 g1))]) hx hb de_K_doTurn_1 rfl hl (by decide) rfl (fun ls hl => ?_)
  refine lv_iconst (v := 0) hx hb de_K_doTurn_2 (by decide) ?_
  refine lv_istore_n (lv' := [(3, .int 0), (2, .int 1), (0, .ref (aa 0 0)), (1, .ref (aa 9 g1))]) hx hb de_K_doTurn_3 rfl hl (by decide) rfl (fun ls hl => ?_)
  obtain ⟨ex1, hex1, h⟩ := bd_some h
  refine w_K_doTurn_4 hJ S hlocks hK 1000 σ g1 hg1 1 0 ex1 _ _ _ (lv_sub hl [2, 3, 1, 0] rfl) hP hS hex1 (fun H locs ls hl hP hS => ?_)
  have h := Option.some.inj h
  subst h
  exact W.vret hx hb hr (fun t ht hW => ⟨⟨_, rfl, rfl, by rw [ht]; exact hP, va_K.moved hW.alike hK⟩, hS.F ht⟩) hS.2.2 de_K_doTurn_44 hlocks
set_option maxHeartbeats 4000000 in
set_option maxRecDepth 100000 in
theorem w_K_goOverConditions_10 {p : Program} {l : Launch} {e : Env} {s : State} {m : MethodId} {args : Array Value} {below : List Frame} {meth : Method} {c : Code} {Q : State → Prop} {D : va_G} {aa : Nat → Nat → Nat} {q : Nat → ClassId} (hJ : wJ kC aa) (S : CallFix p m c bc_K_goOverConditions 4 s args lw_g bR_K) (hlocks : meth.locks = false) (hK : va_K D kCl (kT q) s) : ∀ (n : Nat) (σ : kS) (x1 : Int32) (x2 : Int32) (ex : kS × Int32 × Int32) (H : Heap) (locs : List Loc) (ls : Array Slot), lv_has ls 4 [(0, .ref (aa 0 0)), (1, .int x1), (2, .int x2)] → va_P D kCl (kW aa q σ) H → va_S (wA kC aa) s.heap H locs → F_K_goOverConditions_10 n σ x1 x2 = some ex → (∀ (H1 : Heap) (locs1 : List Loc) (ls1 : Array Slot), lv_has ls1 4 [(0, .ref (aa 0 0)), (1, .int ex.2.1), (2, .int ex.2.2)] → va_P D kCl (kW aa q ex.1) H1 → va_S (wA kC aa) s.heap H1 locs1 → W p l e brm_K_goOverConditions s m args below meth c H1 locs1 0 0 Q (F0 m 67 ls1 [])) → W p l e brm_K_goOverConditions s m args below meth c H locs 0 0 Q (F0 m 10 ls []) := by
  obtain ⟨hx, hb, hml, hown, hts⟩ := id S
  have ht := hts
  intro n
  induction n with
  | zero => intro σ x1 x2 ex H locs ls hl hP hS h k; cases (show (none : Option (kS × Int32 × Int32)) = some ex from h)
  | succ n ih =>
    intro σ x1 x2 ex H locs ls hl hP hS h k
    unfold F_K_goOverConditions_10 at h
    refine lv_iload_n hx hb de_K_goOverConditions_10 rfl (lv_at hl 2 rfl) ?_
    refine lv_if_le (tgt := 67) hx hb de_K_goOverConditions_11 (by decide) (fun hc => ?_) (fun hc => ?_)
    · have h := ie_t h hc
      have h := Option.some.inj h
      subst h
      exact k _ _ _ (lv_sub hl [0, 1, 2] rfl) hP hS
    · have h := ie_f h hc
      refine lv_aload_n hx hb de_K_goOverConditions_14 rfl (lv_at hl 0 rfl) ?_
      refine kg_0 (v := .ref (aa 1 0)) hx hb ht hown hK hP (by decide) 0 (by decide) tw_1_171 rfl de_K_goOverConditions_15 ?_
      refine lv_aload_n hx hb de_K_goOverConditions_18 rfl (lv_at hl 0 rfl) ?_
      refine kg_0 (v := .ref (aa 4 4)) hx hb ht hown hK hP (by decide) 3 (by decide) tw_1_174 rfl de_K_goOverConditions_19 ?_
      refine kg_4 (v := .ref (aa 5 4)) hx hb ht hown hK hP (by decide) 0 (by decide) tw_1_30 rfl de_K_goOverConditions_22 ?_
      refine lv_iload_n hx hb de_K_goOverConditions_25 rfl (lv_at hl 1 rfl) ?_
      obtain ⟨hi1, h⟩ := gd_some h
      refine kl_5 hx hb hK hP (by decide) (inb_in hi1) de_K_goOverConditions_26 ?_
      obtain ⟨hi2, h⟩ := gd_some h
      refine kl_1 hx hb hK hP (by decide) (inb_in hi2) de_K_goOverConditions_27 (fun j3 ej3 => ?_)
      have h := lx_at h j3 ej3
      have hj3 : j3 < 12 := by rw [ej3]; exact inb_lt hi2
      refine lv_astore_n (lv' := [(3, .ref (aa 9 j3)), (0, .ref (aa 0 0)), (1, .int x1), (2, .int x2)]) hx hb de_K_goOverConditions_28 rfl hl (by decide) rfl (fun ls hl => ?_)
      refine lv_aload_n hx hb de_K_goOverConditions_29 rfl (lv_at hl 1 rfl) ?_
      refine lv_aload_n hx hb de_K_goOverConditions_30 rfl (lv_at hl 0 rfl) ?_
      obtain ⟨r4, hr4, h⟩ := bd_some h
      refine kq_i (va_runV (As := [.ref (aa 9 j3)]) (rest := []) S (c_K_meetCondition l D aa q hJ σ j3 hj3 r4 hr4) (cwV 1 ht (gv_in tw_2_130 tw_2_132 ts_K_meetCondition tw_1_1 tc_K_meetCondition) rfl rfl rfl bh_K_meetCondition ⟨Nat.le_of_ble_eq_true rfl, Nat.le_of_ble_eq_true rfl⟩) (kpreV hK hP (kr_0 hK hP (by decide))) rfl rfl hl.1 rfl (lv_room (Nat.le_of_ble_eq_true rfl)) de_K_goOverConditions_31 ⟨Nat.zero_le _, Nat.zero_le _⟩) hS (fun H locs hP hS => ?_)
      refine lv_if_eq (tgt := 58) hx hb de_K_goOverConditions_34 (by decide) (fun hc => ?_) (fun hc => ?_)
      · have h := ie_t h hc
        refine lv_iinc (k := 2) (v := x1 + 1) (lv' := [(1, .int (x1 + 1)), (3, .ref (aa 9 j3)), (0, .ref (aa 0 0)), (2, .int x2)]) hx hb de_K_goOverConditions_58 hl rfl (ii_p1 _) (by decide) rfl (fun ls hl => ?_)
        refine lv_iinc (k := 3) (v := x2 + (-1)) (lv' := [(2, .int (x2 + (-1))), (1, .int (x1 + 1)), (3, .ref (aa 9 j3)), (0, .ref (aa 0 0))]) hx hb de_K_goOverConditions_61 hl rfl (ii_m1 _) (by decide) rfl (fun ls hl => ?_)
        refine lv_goto (tgt := 10) hx hb de_K_goOverConditions_64 (by decide) ?_
        exact ih r4.2 (x1 + 1) (x2 + (-1)) ex _ _ _ (lv_sub hl [3, 1, 0] rfl) hP hS h k
      · have h := ie_f h hc
        refine lv_aload_n hx hb de_K_goOverConditions_37 rfl (lv_at hl 1 rfl) ?_
        refine kg_0 (v := .ref (aa 4 4)) hx hb ht hown hK hP (by decide) 3 (by decide) tw_1_174 rfl de_K_goOverConditions_38 ?_
        refine lv_aload_n hx hb de_K_goOverConditions_41 rfl (lv_at hl 0 rfl) ?_
        refine kg_9 (v := .int (gI r4.2 2 j3 0)) hx hb ht hown hK hP hj3 0 (by decide) tw_1_61 rfl de_K_goOverConditions_42 ?_
        obtain ⟨r5, hr5, h⟩ := bd_some h
        refine kq_v (va_runV (As := [.int (gI r4.2 2 j3 0)]) (rest := []) S (c_L_drop l D aa q hJ r4.2 4 (by decide) (gI r4.2 2 j3 0) r5 hr5) (cwV 1 ht (gv_in tw_2_8 tw_2_9 tw_2_10 tw_1_2 tc_L_drop) rfl rfl rfl bh_L_drop ⟨Nat.le_of_ble_eq_true rfl, Nat.le_of_ble_eq_true rfl⟩) (kpreV hK hP (kr_4 hK hP (by decide))) rfl rfl hl.1 rfl (lv_room (Nat.le_of_ble_eq_true rfl)) de_K_goOverConditions_45 ⟨Nat.zero_le _, Nat.zero_le _⟩) hS (fun H locs hP hS => ?_)
        refine lv_aload_n hx hb de_K_goOverConditions_48 rfl (lv_at hl 1 rfl) ?_
        refine lv_aload_n hx hb de_K_goOverConditions_49 rfl (lv_at hl 0 rfl) ?_
        refine lv_iconst (v := 1) hx hb de_K_goOverConditions_50 (by decide) ?_
        refine lv_iconst (v := 0) hx hb de_K_goOverConditions_51 (by decide) ?_
        obtain ⟨r6, hr6, h⟩ := bd_some h
        refine kq_v (va_runV (As := [.ref (aa 9 j3), .int 1, .int 0]) (rest := []) S (c_K_enter l D aa q hJ r5 j3 hj3 1 0 r6 hr6) (cwV 3 ht (gv_in tw_2_12 tw_2_14 ts_K_enter tw_1_1 tc_K_enter) rfl rfl rfl bh_K_enter ⟨Nat.le_of_ble_eq_true rfl, Nat.le_of_ble_eq_true rfl⟩) (kpreV hK hP (kr_0 hK hP (by decide))) rfl rfl hl.1 rfl (lv_room (Nat.le_of_ble_eq_true rfl)) de_K_goOverConditions_52 ⟨Nat.zero_le _, Nat.zero_le _⟩) hS (fun H locs hP hS => ?_)
        refine lv_goto (tgt := 61) hx hb de_K_goOverConditions_55 (by decide) ?_
        refine lv_iinc (k := 3) (v := x2 + (-1)) (lv' := [(2, .int (x2 + (-1))), (3, .ref (aa 9 j3)), (0, .ref (aa 0 0)), (1, .int x1)]) hx hb de_K_goOverConditions_61 hl rfl (ii_m1 _) (by decide) rfl (fun ls hl => ?_)
        refine lv_goto (tgt := 10) hx hb de_K_goOverConditions_64 (by decide) ?_
        exact ih r6 x1 (x2 + (-1)) ex _ _ _ (lv_sub hl [2, 3, 0] rfl) hP hS h k
set_option maxHeartbeats 4000000 in
set_option maxRecDepth 100000 in
theorem c_K_goOverConditions (l : Launch) (D : va_G) (aa : Nat → Nat → Nat) (q : Nat → ClassId) (hJ : wJ kC aa) (σ : kS) (res : kS) (h : F_K_goOverConditions σ = some res) : Met l by_K_goOverConditions (.code by_K_goOverConditions bc_K_goOverConditions 4 none :: lw_g) brm_K_goOverConditions (va_Pc [.ref (aa 0 0)] (kPre D aa q σ)) (va_Qv (fun u : kS => u = res) (kB D aa q) (wA kC aa)) 0 0 (wA kC aa) := by
  refine Met.ofW (cc := bc_K_goOverConditions) (maxL := 4) (ret := none) (by decide) rfl ?_
  intro p e s m args below meth c s₁ B hml hv
  obtain ⟨rfl, hP, hK⟩ := hv
  have hx := B.exec
  have hb := B.bytes
  have hr := B.returns
  have ht : ∀ w ∈ lw_g, w.before ([.ref (aa 0 0)] : List Value).toArray s = true := fun w h => atoms_spec (ws := .code by_K_goOverConditions bc_K_goOverConditions 4 none :: lw_g) B.pre w (List.mem_cons_of_mem _ h)
  have hown : s.vm.findClass bR_K = some m.cls := findClass_of_methodNamed B.named
  have hlocks := B.notSynchronized
  have S : CallFix p m c bc_K_goOverConditions 4 s ([.ref (aa 0 0)] : List Value).toArray lw_g bR_K := ⟨hx, hb, hml, hown, ht⟩
  have hS : va_S (wA kC aa) s.heap s.heap [] := va_S.rf
  have hl := lv_entry ([.ref (aa 0 0)]) (n := 4) (Nat.le_of_ble_eq_true rfl)
  rw [lg_entry_eq]
  generalize (lg_sl ([.ref (aa 0 0)]) ++ List.replicate (4 - (lg_sl ([.ref (aa 0 0)])).length) Slot.unset).toArray = ls at hl ⊢
  have hl : lv_has ls 4 [(0, .ref (aa 0 0))] := hl
  unfold F_K_goOverConditions at h
  refine lv_iconst (v := 0) hx hb de_K_goOverConditions_0 (by decide) ?_
  refine lv_istore_n (lv' := [(1, .int 0), (0, .ref (aa 0 0))]) hx hb de_K_goOverConditions_1 rfl hl (by decide) rfl (fun ls hl => ?_)
  refine lv_aload_n hx hb de_K_goOverConditions_2 rfl (lv_at hl 1 rfl) ?_
  refine kg_0 (v := .ref (aa 4 4)) hx hb ht hown hK hP (by decide) 3 (by decide) tw_1_174 rfl de_K_goOverConditions_3 ?_
  refine kg_4 (v := .int (gI σ 19 4 0)) hx hb ht hown hK hP (by decide) 1 (by decide) tw_1_32 rfl de_K_goOverConditions_6 ?_
  refine lv_topi (fun v1 ev1 => ?_)
  have h := lx_at h v1 ev1
  refine lv_istore_n (lv' := [(2, .int v1), (1, .int 0), (0, .ref (aa 0 0))]) hx hb de_K_goOverConditions_9 rfl hl (by decide) rfl (fun ls hl => ?_)
  obtain ⟨ex2, hex2, h⟩ := bd_some h
  refine w_K_goOverConditions_10 hJ S hlocks hK 1000 σ 0 v1 ex2 _ _ _ (lv_sub hl [2, 1, 0] rfl) hP hS hex2 (fun H locs ls hl hP hS => ?_)
  have h := Option.some.inj h
  subst h
  exact W.vret hx hb hr (fun t ht hW => ⟨⟨_, rfl, rfl, by rw [ht]; exact hP, va_K.moved hW.alike hK⟩, hS.F ht⟩) hS.2.2 de_K_goOverConditions_67 hlocks
set_option maxHeartbeats 4000000 in
set_option maxRecDepth 100000 in
theorem w_K_run_38 {p : Program} {l : Launch} {e : Env} {s : State} {m : MethodId} {args : Array Value} {below : List Frame} {meth : Method} {c : Code} {Q : State → Prop} {D : va_G} {aa : Nat → Nat → Nat} {q : Nat → ClassId} (hJ : wJ kC aa) (S : CallFix p m c bc_K_run 6 s args lw_g bR_K) (hlocks : meth.locks = false) (hK : va_K D kCl (kT q) s) : ∀ (n : Nat) (σ : kS) (x1 : Int32) (x2 : Int64) (x4 : Int32) (x5 : Int32) (ex : kS × Int32 × Int32) (H : Heap) (locs : List Loc) (ls : Array Slot), lv_has ls 6 [(0, .ref (aa 0 0)), (1, .int x1), (2, .long x2), (4, .int x4), (5, .int x5)] → va_P D kCl (kW aa q σ) H → va_S (wA kC aa) s.heap H locs → F_K_run_38 n σ x1 x2 x4 x5 = some ex → (∀ (H1 : Heap) (locs1 : List Loc) (ls1 : Array Slot), lv_has ls1 6 [(0, .ref (aa 0 0)), (1, .int x1), (2, .long x2), (4, .int ex.2.1), (5, .int ex.2.2)] → va_P D kCl (kW aa q ex.1) H1 → va_S (wA kC aa) s.heap H1 locs1 → W p l e brm_K_run s m args below meth c H1 locs1 0 0 Q (F0 m 103 ls1 [])) → W p l e brm_K_run s m args below meth c H locs 0 0 Q (F0 m 38 ls []) := by
  obtain ⟨hx, hb, hml, hown, hts⟩ := id S
  have ht := hts
  intro n
  induction n with
  | zero => intro σ x1 x2 x4 x5 ex H locs ls hl hP hS h k; cases (show (none : Option (kS × Int32 × Int32)) = some ex from h)
  | succ n ih =>
    intro σ x1 x2 x4 x5 ex H locs ls hl hP hS h k
    unfold F_K_run_38 at h
    refine lv_iload hx hb de_K_run_38 (lv_at hl 3 rfl) ?_
    refine lv_iload_n hx hb de_K_run_40 rfl (lv_at hl 1 rfl) ?_
    refine lv_icmp_ge (tgt := 103) hx hb de_K_run_41 (by decide) (fun hc => ?_) (fun hc => ?_)
    · have h := ie_t h hc
      have h := Option.some.inj h
      subst h
      exact k _ _ _ (lv_sub hl [0, 1, 2, 3, 4] rfl) hP hS
    · have h := ie_f h hc
      refine lv_iload hx hb de_K_run_44 (lv_at hl 4 rfl) ?_
      refine lv_iconst (v := (-1)) hx hb de_K_run_46 (by decide) ?_
      refine lv_icmp_eq (tgt := 103) hx hb de_K_run_47 (by decide) (fun hc => ?_) (fun hc => ?_)
      · have h := ie_t h hc
        have h := Option.some.inj h
        subst h
        exact k _ _ _ (lv_sub hl [0, 1, 2, 3, 4] rfl) hP hS
      · have h := ie_f h hc
        refine lv_aload_n hx hb de_K_run_50 rfl (lv_at hl 0 rfl) ?_
        refine kg_0 (v := .ref (aa 1 0)) hx hb ht hown hK hP (by decide) 0 (by decide) tw_1_171 rfl de_K_run_51 ?_
        refine lv_iload hx hb de_K_run_54 (lv_at hl 4 rfl) ?_
        obtain ⟨hi1, h⟩ := gd_some h
        refine kl_1 hx hb hK hP (by decide) (inb_in hi1) de_K_run_56 (fun j2 ej2 => ?_)
        have h := lx_at h j2 ej2
        have hj2 : j2 < 12 := by rw [ej2]; exact inb_lt hi1
        refine kg_9 (v := .long (gL σ 2 j2 0)) hx hb ht hown hK hP hj2 13 (by decide) tw_1_87 rfl de_K_run_57 ?_
        refine lv_lload_n hx hb de_K_run_60 rfl (lv_at hl 2 rfl) ?_
        refine W.lcmp hx hb de_K_run_61 ?_
        refine lv_if_gt (tgt := 103) hx hb de_K_run_62 (by decide) (fun hc => ?_) (fun hc => ?_)
        · have h := ie_t h hc
          have h := Option.some.inj h
          subst h
          exact k _ _ _ (lv_sub hl [0, 1, 2, 3, 4] rfl) hP hS
        · have h := ie_f h hc
          refine lv_aload_n hx hb de_K_run_65 rfl (lv_at hl 0 rfl) ?_
          refine lv_aload_n hx hb de_K_run_66 rfl (lv_at hl 0 rfl) ?_
          refine kg_0 (v := .ref (aa 1 0)) hx hb ht hown hK hP (by decide) 0 (by decide) tw_1_171 rfl de_K_run_67 ?_
          refine lv_iload hx hb de_K_run_70 (lv_at hl 4 rfl) ?_
          obtain ⟨hi3, h⟩ := gd_some h
          refine kl_1 hx hb hK hP (by decide) (inb_in hi3) de_K_run_72 (fun j4 ej4 => ?_)
          have h := lx_at h j4 ej4
          have hj4 : j4 < 12 := by rw [ej4]; exact inb_lt hi3
          obtain ⟨r5, hr5, h⟩ := bd_some h
          refine kq_v (va_runV (As := [.ref (aa 9 j4)]) (rest := []) S (c_K_begin l D aa q hJ σ j4 hj4 r5 hr5) (cwV 1 ht (gv_in tw_2_76 tw_2_78 ts_K_begin tw_1_1 tc_K_begin) rfl rfl rfl bh_K_begin ⟨Nat.le_of_ble_eq_true rfl, Nat.le_of_ble_eq_true rfl⟩) (kpreV hK hP (kr_0 hK hP (by decide))) rfl rfl hl.1 rfl (lv_room (Nat.le_of_ble_eq_true rfl)) de_K_run_73 ⟨Nat.zero_le _, Nat.zero_le _⟩) hS (fun H locs hP hS => ?_)
          refine lv_aload_n hx hb de_K_run_76 rfl (lv_at hl 0 rfl) ?_
          refine lv_aload_n hx hb de_K_run_77 rfl (lv_at hl 0 rfl) ?_
          refine kg_0 (v := .ref (aa 1 0)) hx hb ht hown hK hP (by decide) 0 (by decide) tw_1_171 rfl de_K_run_78 ?_
          refine lv_iload hx hb de_K_run_81 (lv_at hl 4 rfl) ?_
          obtain ⟨hi6, h⟩ := gd_some h
          refine kl_1 hx hb hK hP (by decide) (inb_in hi6) de_K_run_83 (fun j7 ej7 => ?_)
          have h := lx_at h j7 ej7
          have hj7 : j7 < 12 := by rw [ej7]; exact inb_lt hi6
          obtain ⟨r8, hr8, h⟩ := bd_some h
          refine kq_v (va_runV (As := [.ref (aa 9 j7)]) (rest := []) S (c_K_doTurn l D aa q hJ r5 j7 hj7 r8 hr8) (cwV 1 ht (gv_in tw_2_89 tw_2_91 ts_K_doTurn tw_1_1 tc_K_doTurn) rfl rfl rfl bh_K_doTurn ⟨Nat.le_of_ble_eq_true rfl, Nat.le_of_ble_eq_true rfl⟩) (kpreV hK hP (kr_0 hK hP (by decide))) rfl rfl hl.1 rfl (lv_room (Nat.le_of_ble_eq_true rfl)) de_K_run_84 ⟨Nat.zero_le _, Nat.zero_le _⟩) hS (fun H locs hP hS => ?_)
          refine lv_aload_n hx hb de_K_run_87 rfl (lv_at hl 0 rfl) ?_
          obtain ⟨r9, hr9, h⟩ := bd_some h
          refine kq_v (va_runV (As := []) (rest := []) S (c_K_goOverConditions l D aa q hJ r8  r9 hr9) (cwV 0 ht (gv_in tw_2_152 tw_2_154 ts_K_goOverConditions tw_1_1 tc_K_goOverConditions) rfl rfl rfl bh_K_goOverConditions ⟨Nat.le_of_ble_eq_true rfl, Nat.le_of_ble_eq_true rfl⟩) (kpreV hK hP (kr_0 hK hP (by decide))) rfl rfl hl.1 rfl (lv_room (Nat.le_of_ble_eq_true rfl)) de_K_run_88 ⟨Nat.zero_le _, Nat.zero_le _⟩) hS (fun H locs hP hS => ?_)
          refine lv_iinc (k := 3) (v := x4 + 1) (lv' := [(4, .int (x4 + 1)), (0, .ref (aa 0 0)), (1, .int x1), (2, .long x2), (5, .int x5)]) hx hb de_K_run_91 hl rfl (ii_p1 _) (by decide) rfl (fun ls hl => ?_)
          refine lv_aload_n hx hb de_K_run_94 rfl (lv_at hl 1 rfl) ?_
          obtain ⟨r10, hr10, h⟩ := bd_some h
          refine kq_i (va_runV (As := []) (rest := []) S (c_K_firstEntry l D aa q hJ r9  r10 hr10) (cwV 0 ht (gv_in tw_2_68 tw_2_70 ts_K_firstEntry tw_1_1 tc_K_firstEntry) rfl rfl rfl bh_K_firstEntry ⟨Nat.le_of_ble_eq_true rfl, Nat.le_of_ble_eq_true rfl⟩) (kpreV hK hP (kr_0 hK hP (by decide))) rfl rfl hl.1 rfl (lv_room (Nat.le_of_ble_eq_true rfl)) de_K_run_95 ⟨Nat.zero_le _, Nat.zero_le _⟩) hS (fun H locs hP hS => ?_)
          refine lv_istore (lv' := [(5, .int r10), (4, .int (x4 + 1)), (0, .ref (aa 0 0)), (1, .int x1), (2, .long x2)]) hx hb de_K_run_98 hl (by decide) rfl (fun ls hl => ?_)
          refine lv_goto (tgt := 38) hx hb de_K_run_100 (by decide) ?_
          exact ih r9 x1 x2 (x4 + 1) r10 ex _ _ _ (lv_sub hl [2, 3, 4, 1, 0] rfl) hP hS h k
set_option maxHeartbeats 4000000 in
set_option maxRecDepth 100000 in
theorem c_K_run (l : Launch) (D : va_G) (aa : Nat → Nat → Nat) (q : Nat → ClassId) (hJ : wJ kC aa) (σ : kS) (x1 : Int32) (x2 : Int64) (res : Int32 × kS) (h : F_K_run σ x1 x2 = some res) : Met l by_K_run (.code by_K_run bc_K_run 6 (some .int) :: lw_g) brm_K_run (va_Pc [.ref (aa 0 0), .int x1, .long x2] (kPre D aa q σ)) (va_Qi (fun (r : Int32) (u : kS) => r = res.1 ∧ u = res.2) (kB D aa q) (wA kC aa)) 0 0 (wA kC aa) := by
  refine Met.ofW (cc := bc_K_run) (maxL := 6) (ret := (some .int)) (by decide) rfl ?_
  intro p e s m args below meth c s₁ B hml hv
  obtain ⟨rfl, hP, hK⟩ := hv
  have hx := B.exec
  have hb := B.bytes
  have hr := B.returns
  have ht : ∀ w ∈ lw_g, w.before ([.ref (aa 0 0), .int x1, .long x2] : List Value).toArray s = true := fun w h => atoms_spec (ws := .code by_K_run bc_K_run 6 (some .int) :: lw_g) B.pre w (List.mem_cons_of_mem _ h)
  have hown : s.vm.findClass bR_K = some m.cls := findClass_of_methodNamed B.named
  have hlocks := B.notSynchronized
  have S : CallFix p m c bc_K_run 6 s ([.ref (aa 0 0), .int x1, .long x2] : List Value).toArray lw_g bR_K := ⟨hx, hb, hml, hown, ht⟩
  have hS : va_S (wA kC aa) s.heap s.heap [] := va_S.rf
  have hl := lv_entry ([.ref (aa 0 0), .int x1, .long x2]) (n := 6) (Nat.le_of_ble_eq_true rfl)
  rw [lg_entry_eq]
  generalize (lg_sl ([.ref (aa 0 0), .int x1, .long x2]) ++ List.replicate (6 - (lg_sl ([.ref (aa 0 0), .int x1, .long x2])).length) Slot.unset).toArray = ls at hl ⊢
  have hl : lv_has ls 6 [(0, .ref (aa 0 0)), (1, .int x1), (2, .long x2)] := hl
  unfold F_K_run at h
  refine lv_iload_n hx hb de_K_run_0 rfl (lv_at hl 1 rfl) ?_
  refine lv_iconst (v := 0) hx hb de_K_run_1 (by decide) ?_
  refine lv_bipush (v := 100) hx hb de_K_run_2 (by decide) ?_
  obtain ⟨r1, hr1, h⟩ := bd_some h
  refine kq_i (va_runS (As := [.int x1, .int 0, .int 100]) (rest := []) S (c_K_isWithin l D aa q hJ σ x1 0 100 r1 hr1) (cwS 3 ht (gs_in tw_1_203 tw_1_204 tw_1_1 tc_K_isWithin) rfl rfl rfl bh_K_isWithin ⟨Nat.le_of_ble_eq_true rfl, Nat.le_of_ble_eq_true rfl⟩) (kpreS hK hP) rfl rfl hl.1 rfl (lv_room (Nat.le_of_ble_eq_true rfl)) de_K_run_4 ⟨Nat.zero_le _, Nat.zero_le _⟩) hS (fun H locs hP hS => ?_)
  refine lv_if_eq (tgt := 27) hx hb de_K_run_7 (by decide) (fun hc => ?_) (fun hc => ?_)
  · have h := ie_t h hc
    refine lv_iconst (v := (-1)) hx hb de_K_run_27 (by decide) ?_
    have h := Option.some.inj h
    subst h
    exact W.iret (v := (-1)) hx hb hr (fun t ht hW => ⟨⟨_, _, rfl, ⟨rfl, rfl⟩, by rw [ht]; exact hP, va_K.moved hW.alike hK⟩, hS.F ht⟩) hS.2.2 de_K_run_28 hlocks
  · have h := ie_f h hc
    refine lv_lload_n hx hb de_K_run_10 rfl (lv_at hl 2 rfl) ?_
    refine lv_aload_n hx hb de_K_run_11 rfl (lv_at hl 0 rfl) ?_
    refine kg_0 (v := .long (gL σ 0 0 0)) hx hb ht hown hK hP (by decide) 7 (by decide) tw_1_178 rfl de_K_run_12 ?_
    refine W.lcmp hx hb de_K_run_15 ?_
    refine lv_if_lt (tgt := 27) hx hb de_K_run_16 (by decide) (fun hc => ?_) (fun hc => ?_)
    · have h := ie_t h hc
      refine lv_iconst (v := (-1)) hx hb de_K_run_27 (by decide) ?_
      have h := Option.some.inj h
      subst h
      exact W.iret (v := (-1)) hx hb hr (fun t ht hW => ⟨⟨_, _, rfl, ⟨rfl, rfl⟩, by rw [ht]; exact hP, va_K.moved hW.alike hK⟩, hS.F ht⟩) hS.2.2 de_K_run_28 hlocks
    · have h := ie_f h hc
      refine lv_lload_n hx hb de_K_run_19 rfl (lv_at hl 2 rfl) ?_
      refine lv_ldc2 (v := 1000000000000) hx hb hown (ht _ tw_2_67) de_K_run_20 ?_
      refine W.lcmp hx hb de_K_run_23 ?_
      refine lv_if_le (tgt := 29) hx hb de_K_run_24 (by decide) (fun hc => ?_) (fun hc => ?_)
      · have h := ie_t h hc
        refine lv_iconst (v := 0) hx hb de_K_run_29 (by decide) ?_
        refine lv_istore (lv' := [(4, .int 0), (0, .ref (aa 0 0)), (1, .int x1), (2, .long x2)]) hx hb de_K_run_30 hl (by decide) rfl (fun ls hl => ?_)
        refine lv_aload_n hx hb de_K_run_32 rfl (lv_at hl 1 rfl) ?_
        obtain ⟨r2, hr2, h⟩ := bd_some h
        refine kq_i (va_runV (As := []) (rest := []) S (c_K_firstEntry l D aa q hJ σ  r2 hr2) (cwV 0 ht (gv_in tw_2_68 tw_2_70 ts_K_firstEntry tw_1_1 tc_K_firstEntry) rfl rfl rfl bh_K_firstEntry ⟨Nat.le_of_ble_eq_true rfl, Nat.le_of_ble_eq_true rfl⟩) (kpreV hK hP (kr_0 hK hP (by decide))) rfl rfl hl.1 rfl (lv_room (Nat.le_of_ble_eq_true rfl)) de_K_run_33 ⟨Nat.zero_le _, Nat.zero_le _⟩) hS (fun H locs hP hS => ?_)
        refine lv_istore (lv' := [(5, .int r2), (4, .int 0), (0, .ref (aa 0 0)), (1, .int x1), (2, .long x2)]) hx hb de_K_run_36 hl (by decide) rfl (fun ls hl => ?_)
        obtain ⟨ex3, hex3, h⟩ := bd_some h
        refine w_K_run_38 hJ S hlocks hK 1000 σ x1 x2 0 r2 ex3 _ _ _ (lv_sub hl [2, 3, 4, 1, 0] rfl) hP hS hex3 (fun H locs ls hl hP hS => ?_)
        refine lv_iload hx hb de_K_run_103 (lv_at hl 3 rfl) ?_
        refine lv_iload_n hx hb de_K_run_105 rfl (lv_at hl 1 rfl) ?_
        refine lv_icmp_ge (tgt := 114) hx hb de_K_run_106 (by decide) (fun hc => ?_) (fun hc => ?_)
        · have h := ie_t h hc
          refine lv_iload hx hb de_K_run_114 (lv_at hl 3 rfl) ?_
          have h := Option.some.inj h
          subst h
          exact W.iret (v := ex3.2.1) hx hb hr (fun t ht hW => ⟨⟨_, _, rfl, ⟨rfl, rfl⟩, by rw [ht]; exact hP, va_K.moved hW.alike hK⟩, hS.F ht⟩) hS.2.2 de_K_run_116 hlocks
        · have h := ie_f h hc
          refine lv_aload_n hx hb de_K_run_109 rfl (lv_at hl 0 rfl) ?_
          refine lv_lload_n hx hb de_K_run_110 rfl (lv_at hl 2 rfl) ?_
          obtain ⟨r4, hr4, h⟩ := bd_some h
          refine kq_v (va_runV (As := [.long x2]) (rest := []) S (c_K_moveClock l D aa q hJ ex3.1 x2 r4 hr4) (cwV 1 ht (gv_in tw_2_80 tw_2_82 ts_K_moveClock tw_1_1 tc_K_moveClock) rfl rfl rfl bh_K_moveClock ⟨Nat.le_of_ble_eq_true rfl, Nat.le_of_ble_eq_true rfl⟩) (kpreV hK hP (kr_0 hK hP (by decide))) rfl rfl hl.1 rfl (lv_room (Nat.le_of_ble_eq_true rfl)) de_K_run_111 ⟨Nat.zero_le _, Nat.zero_le _⟩) hS (fun H locs hP hS => ?_)
          refine lv_iload hx hb de_K_run_114 (lv_at hl 3 rfl) ?_
          have h := Option.some.inj h
          subst h
          exact W.iret (v := ex3.2.1) hx hb hr (fun t ht hW => ⟨⟨_, _, rfl, ⟨rfl, rfl⟩, by rw [ht]; exact hP, va_K.moved hW.alike hK⟩, hS.F ht⟩) hS.2.2 de_K_run_116 hlocks
      · have h := ie_f h hc
        refine lv_iconst (v := (-1)) hx hb de_K_run_27 (by decide) ?_
        have h := Option.some.inj h
        subst h
        exact W.iret (v := (-1)) hx hb hr (fun t ht hW => ⟨⟨_, _, rfl, ⟨rfl, rfl⟩, by rw [ht]; exact hP, va_K.moved hW.alike hK⟩, hS.F ht⟩) hS.2.2 de_K_run_28 hlocks
set_option maxHeartbeats 4000000 in
set_option maxRecDepth 100000 in
theorem c_K_now (l : Launch) (D : va_G) (aa : Nat → Nat → Nat) (q : Nat → ClassId) (hJ : wJ kC aa) (σ : kS) (res : Int64) (h : F_K_now σ = some res) : Met l by_K_now (.code by_K_now bc_K_now 1 (some .long) :: lw_g) brm_K_now (va_Pc [.ref (aa 0 0)] (kPre D aa q σ)) (va_Ql (fun (r : Int64) (u : kS) => r = res ∧ u = σ) (kB D aa q) (wA kC aa)) 0 0 (wA kC aa) := by
  refine Met.ofW (cc := bc_K_now) (maxL := 1) (ret := (some .long)) (by decide) rfl ?_
  intro p e s m args below meth c s₁ B hml hv
  obtain ⟨rfl, hP, hK⟩ := hv
  have hx := B.exec
  have hb := B.bytes
  have hr := B.returns
  have ht : ∀ w ∈ lw_g, w.before ([.ref (aa 0 0)] : List Value).toArray s = true := fun w h => atoms_spec (ws := .code by_K_now bc_K_now 1 (some .long) :: lw_g) B.pre w (List.mem_cons_of_mem _ h)
  have hown : s.vm.findClass bR_K = some m.cls := findClass_of_methodNamed B.named
  have hlocks := B.notSynchronized
  have S : CallFix p m c bc_K_now 1 s ([.ref (aa 0 0)] : List Value).toArray lw_g bR_K := ⟨hx, hb, hml, hown, ht⟩
  have hS : va_S (wA kC aa) s.heap s.heap [] := va_S.rf
  have hl := lv_entry ([.ref (aa 0 0)]) (n := 1) (Nat.le_of_ble_eq_true rfl)
  rw [lg_entry_eq]
  generalize (lg_sl ([.ref (aa 0 0)]) ++ List.replicate (1 - (lg_sl ([.ref (aa 0 0)])).length) Slot.unset).toArray = ls at hl ⊢
  have hl : lv_has ls 1 [(0, .ref (aa 0 0))] := hl
  unfold F_K_now at h
  refine lv_aload_n hx hb de_K_now_0 rfl (lv_at hl 0 rfl) ?_
  refine kg_0 (v := .long (gL σ 0 0 0)) hx hb ht hown hK hP (by decide) 7 (by decide) tw_1_178 rfl de_K_now_1 ?_
  have h := Option.some.inj h
  subst h
  exact W.lret (v := gL σ 0 0 0) hx hb hr (fun t ht hW => ⟨⟨_, _, rfl, ⟨rfl, rfl⟩, by rw [ht]; exact hP, va_K.moved hW.alike hK⟩, hS.F ht⟩) hS.2.2 de_K_now_4 hlocks
set_option maxHeartbeats 4000000 in
set_option maxRecDepth 100000 in
theorem c_K_next (l : Launch) (D : va_G) (aa : Nat → Nat → Nat) (q : Nat → ClassId) (hJ : wJ kC aa) (σ : kS) (res : Int64) (h : F_K_next σ = some res) : Met l by_K_next (.code by_K_next bc_K_next 2 (some .long) :: lw_g) brm_K_next (va_Pc [.ref (aa 0 0)] (kPre D aa q σ)) (va_Ql (fun (r : Int64) (u : kS) => r = res ∧ u = σ) (kB D aa q) (wA kC aa)) 0 0 (wA kC aa) := by
  refine Met.ofW (cc := bc_K_next) (maxL := 2) (ret := (some .long)) (by decide) rfl ?_
  intro p e s m args below meth c s₁ B hml hv
  obtain ⟨rfl, hP, hK⟩ := hv
  have hx := B.exec
  have hb := B.bytes
  have hr := B.returns
  have ht : ∀ w ∈ lw_g, w.before ([.ref (aa 0 0)] : List Value).toArray s = true := fun w h => atoms_spec (ws := .code by_K_next bc_K_next 2 (some .long) :: lw_g) B.pre w (List.mem_cons_of_mem _ h)
  have hown : s.vm.findClass bR_K = some m.cls := findClass_of_methodNamed B.named
  have hlocks := B.notSynchronized
  have S : CallFix p m c bc_K_next 2 s ([.ref (aa 0 0)] : List Value).toArray lw_g bR_K := ⟨hx, hb, hml, hown, ht⟩
  have hS : va_S (wA kC aa) s.heap s.heap [] := va_S.rf
  have hl := lv_entry ([.ref (aa 0 0)]) (n := 2) (Nat.le_of_ble_eq_true rfl)
  rw [lg_entry_eq]
  generalize (lg_sl ([.ref (aa 0 0)]) ++ List.replicate (2 - (lg_sl ([.ref (aa 0 0)])).length) Slot.unset).toArray = ls at hl ⊢
  have hl : lv_has ls 2 [(0, .ref (aa 0 0))] := hl
  unfold F_K_next at h
  refine lv_aload_n hx hb de_K_next_0 rfl (lv_at hl 0 rfl) ?_
  obtain ⟨r1, hr1, h⟩ := bd_some h
  refine kq_i (va_runV (As := []) (rest := []) S (c_K_firstEntry l D aa q hJ σ  r1 hr1) (cwV 0 ht (gv_in tw_2_68 tw_2_70 ts_K_firstEntry tw_1_1 tc_K_firstEntry) rfl rfl rfl bh_K_firstEntry ⟨Nat.le_of_ble_eq_true rfl, Nat.le_of_ble_eq_true rfl⟩) (kpreV hK hP (kr_0 hK hP (by decide))) rfl rfl hl.1 rfl (lv_room (Nat.le_of_ble_eq_true rfl)) de_K_next_1 ⟨Nat.zero_le _, Nat.zero_le _⟩) hS (fun H locs hP hS => ?_)
  refine lv_istore_n (lv' := [(1, .int r1), (0, .ref (aa 0 0))]) hx hb de_K_next_4 rfl hl (by decide) rfl (fun ls hl => ?_)
  refine lv_iload_n hx hb de_K_next_5 rfl (lv_at hl 0 rfl) ?_
  refine lv_iconst (v := (-1)) hx hb de_K_next_6 (by decide) ?_
  refine lv_icmp_ne (tgt := 16) hx hb de_K_next_7 (by decide) (fun hc => ?_) (fun hc => ?_)
  · have h := ie_f h hc
    refine lv_aload_n hx hb de_K_next_16 rfl (lv_at hl 1 rfl) ?_
    refine kg_0 (v := .ref (aa 1 0)) hx hb ht hown hK hP (by decide) 0 (by decide) tw_1_171 rfl de_K_next_17 ?_
    refine lv_iload_n hx hb de_K_next_20 rfl (lv_at hl 0 rfl) ?_
    obtain ⟨hi2, h⟩ := gd_some h
    refine kl_1 hx hb hK hP (by decide) (inb_in hi2) de_K_next_21 (fun j3 ej3 => ?_)
    have h := lx_at h j3 ej3
    have hj3 : j3 < 12 := by rw [ej3]; exact inb_lt hi2
    refine kg_9 (v := .long (gL σ 2 j3 0)) hx hb ht hown hK hP hj3 13 (by decide) tw_1_87 rfl de_K_next_22 ?_
    have h := Option.some.inj h
    subst h
    exact W.lret (v := gL σ 2 j3 0) hx hb hr (fun t ht hW => ⟨⟨_, _, rfl, ⟨rfl, rfl⟩, by rw [ht]; exact hP, va_K.moved hW.alike hK⟩, hS.F ht⟩) hS.2.2 de_K_next_25 hlocks
  · have h := ie_t h hc
    refine lv_ldc2 (v := (-1)) hx hb hown (ht _ tw_2_164) de_K_next_10 ?_
    refine lv_goto (tgt := 25) hx hb de_K_next_13 (by decide) ?_
    have h := Option.some.inj h
    subst h
    exact W.lret (v := (-1)) hx hb hr (fun t ht hW => ⟨⟨_, _, rfl, ⟨rfl, rfl⟩, by rw [ht]; exact hP, va_K.moved hW.alike hK⟩, hS.F ht⟩) hS.2.2 de_K_next_25 hlocks
set_option maxHeartbeats 4000000 in
set_option maxRecDepth 100000 in
theorem c_K_state (l : Launch) (D : va_G) (aa : Nat → Nat → Nat) (q : Nat → ClassId) (hJ : wJ kC aa) (σ : kS) (x1 : Int32) (res : Int32) (h : F_K_state σ x1 = some res) : Met l by_K_state (.code by_K_state bc_K_state 2 (some .int) :: lw_g) brm_K_state (va_Pc [.ref (aa 0 0), .int x1] (kPre D aa q σ)) (va_Qi (fun (r : Int32) (u : kS) => r = res ∧ u = σ) (kB D aa q) (wA kC aa)) 0 0 (wA kC aa) := by
  refine Met.ofW (cc := bc_K_state) (maxL := 2) (ret := (some .int)) (by decide) rfl ?_
  intro p e s m args below meth c s₁ B hml hv
  obtain ⟨rfl, hP, hK⟩ := hv
  have hx := B.exec
  have hb := B.bytes
  have hr := B.returns
  have ht : ∀ w ∈ lw_g, w.before ([.ref (aa 0 0), .int x1] : List Value).toArray s = true := fun w h => atoms_spec (ws := .code by_K_state bc_K_state 2 (some .int) :: lw_g) B.pre w (List.mem_cons_of_mem _ h)
  have hown : s.vm.findClass bR_K = some m.cls := findClass_of_methodNamed B.named
  have hlocks := B.notSynchronized
  have S : CallFix p m c bc_K_state 2 s ([.ref (aa 0 0), .int x1] : List Value).toArray lw_g bR_K := ⟨hx, hb, hml, hown, ht⟩
  have hS : va_S (wA kC aa) s.heap s.heap [] := va_S.rf
  have hl := lv_entry ([.ref (aa 0 0), .int x1]) (n := 2) (Nat.le_of_ble_eq_true rfl)
  rw [lg_entry_eq]
  generalize (lg_sl ([.ref (aa 0 0), .int x1]) ++ List.replicate (2 - (lg_sl ([.ref (aa 0 0), .int x1])).length) Slot.unset).toArray = ls at hl ⊢
  have hl : lv_has ls 2 [(0, .ref (aa 0 0)), (1, .int x1)] := hl
  unfold F_K_state at h
  refine lv_aload_n hx hb de_K_state_0 rfl (lv_at hl 0 rfl) ?_
  refine lv_iload_n hx hb de_K_state_1 rfl (lv_at hl 1 rfl) ?_
  obtain ⟨r1, hr1, h⟩ := bd_some h
  refine kq_i (va_runV (As := [.int x1]) (rest := []) S (c_K_isProcess l D aa q hJ σ x1 r1 hr1) (cwV 1 ht (gv_in tw_1_210 tw_1_212 ts_K_isProcess tw_1_1 tc_K_isProcess) rfl rfl rfl bh_K_isProcess ⟨Nat.le_of_ble_eq_true rfl, Nat.le_of_ble_eq_true rfl⟩) (kpreV hK hP (kr_0 hK hP (by decide))) rfl rfl hl.1 rfl (lv_room (Nat.le_of_ble_eq_true rfl)) de_K_state_2 ⟨Nat.zero_le _, Nat.zero_le _⟩) hS (fun H locs hP hS => ?_)
  refine lv_if_eq (tgt := 20) hx hb de_K_state_5 (by decide) (fun hc => ?_) (fun hc => ?_)
  · have h := ie_t h hc
    refine lv_iconst (v := (-1)) hx hb de_K_state_20 (by decide) ?_
    have h := Option.some.inj h
    subst h
    exact W.iret (v := (-1)) hx hb hr (fun t ht hW => ⟨⟨_, _, rfl, ⟨rfl, rfl⟩, by rw [ht]; exact hP, va_K.moved hW.alike hK⟩, hS.F ht⟩) hS.2.2 de_K_state_21 hlocks
  · have h := ie_f h hc
    refine lv_aload_n hx hb de_K_state_8 rfl (lv_at hl 0 rfl) ?_
    refine kg_0 (v := .ref (aa 1 0)) hx hb ht hown hK hP (by decide) 0 (by decide) tw_1_171 rfl de_K_state_9 ?_
    refine lv_iload_n hx hb de_K_state_12 rfl (lv_at hl 1 rfl) ?_
    obtain ⟨hi2, h⟩ := gd_some h
    refine kl_1 hx hb hK hP (by decide) (inb_in hi2) de_K_state_13 (fun j3 ej3 => ?_)
    have h := lx_at h j3 ej3
    have hj3 : j3 < 12 := by rw [ej3]; exact inb_lt hi2
    refine kg_9 (v := .int (gI σ 7 j3 0)) hx hb ht hown hK hP hj3 9 (by decide) tw_1_79 rfl de_K_state_14 ?_
    refine lv_goto (tgt := 21) hx hb de_K_state_17 (by decide) ?_
    have h := Option.some.inj h
    subst h
    exact W.iret (v := gI σ 7 j3 0) hx hb hr (fun t ht hW => ⟨⟨_, _, rfl, ⟨rfl, rfl⟩, by rw [ht]; exact hP, va_K.moved hW.alike hK⟩, hS.F ht⟩) hS.2.2 de_K_state_21 hlocks
set_option maxHeartbeats 4000000 in
set_option maxRecDepth 100000 in
theorem c_K_place (l : Launch) (D : va_G) (aa : Nat → Nat → Nat) (q : Nat → ClassId) (hJ : wJ kC aa) (σ : kS) (x1 : Int32) (res : Int32) (h : F_K_place σ x1 = some res) : Met l by_K_place (.code by_K_place bc_K_place 2 (some .int) :: lw_g) brm_K_place (va_Pc [.ref (aa 0 0), .int x1] (kPre D aa q σ)) (va_Qi (fun (r : Int32) (u : kS) => r = res ∧ u = σ) (kB D aa q) (wA kC aa)) 0 0 (wA kC aa) := by
  refine Met.ofW (cc := bc_K_place) (maxL := 2) (ret := (some .int)) (by decide) rfl ?_
  intro p e s m args below meth c s₁ B hml hv
  obtain ⟨rfl, hP, hK⟩ := hv
  have hx := B.exec
  have hb := B.bytes
  have hr := B.returns
  have ht : ∀ w ∈ lw_g, w.before ([.ref (aa 0 0), .int x1] : List Value).toArray s = true := fun w h => atoms_spec (ws := .code by_K_place bc_K_place 2 (some .int) :: lw_g) B.pre w (List.mem_cons_of_mem _ h)
  have hown : s.vm.findClass bR_K = some m.cls := findClass_of_methodNamed B.named
  have hlocks := B.notSynchronized
  have S : CallFix p m c bc_K_place 2 s ([.ref (aa 0 0), .int x1] : List Value).toArray lw_g bR_K := ⟨hx, hb, hml, hown, ht⟩
  have hS : va_S (wA kC aa) s.heap s.heap [] := va_S.rf
  have hl := lv_entry ([.ref (aa 0 0), .int x1]) (n := 2) (Nat.le_of_ble_eq_true rfl)
  rw [lg_entry_eq]
  generalize (lg_sl ([.ref (aa 0 0), .int x1]) ++ List.replicate (2 - (lg_sl ([.ref (aa 0 0), .int x1])).length) Slot.unset).toArray = ls at hl ⊢
  have hl : lv_has ls 2 [(0, .ref (aa 0 0)), (1, .int x1)] := hl
  unfold F_K_place at h
  refine lv_aload_n hx hb de_K_place_0 rfl (lv_at hl 0 rfl) ?_
  refine lv_iload_n hx hb de_K_place_1 rfl (lv_at hl 1 rfl) ?_
  obtain ⟨r1, hr1, h⟩ := bd_some h
  refine kq_i (va_runV (As := [.int x1]) (rest := []) S (c_K_isProcess l D aa q hJ σ x1 r1 hr1) (cwV 1 ht (gv_in tw_1_210 tw_1_212 ts_K_isProcess tw_1_1 tc_K_isProcess) rfl rfl rfl bh_K_isProcess ⟨Nat.le_of_ble_eq_true rfl, Nat.le_of_ble_eq_true rfl⟩) (kpreV hK hP (kr_0 hK hP (by decide))) rfl rfl hl.1 rfl (lv_room (Nat.le_of_ble_eq_true rfl)) de_K_place_2 ⟨Nat.zero_le _, Nat.zero_le _⟩) hS (fun H locs hP hS => ?_)
  refine lv_if_eq (tgt := 20) hx hb de_K_place_5 (by decide) (fun hc => ?_) (fun hc => ?_)
  · have h := ie_t h hc
    refine lv_iconst (v := (-1)) hx hb de_K_place_20 (by decide) ?_
    have h := Option.some.inj h
    subst h
    exact W.iret (v := (-1)) hx hb hr (fun t ht hW => ⟨⟨_, _, rfl, ⟨rfl, rfl⟩, by rw [ht]; exact hP, va_K.moved hW.alike hK⟩, hS.F ht⟩) hS.2.2 de_K_place_21 hlocks
  · have h := ie_f h hc
    refine lv_aload_n hx hb de_K_place_8 rfl (lv_at hl 0 rfl) ?_
    refine kg_0 (v := .ref (aa 1 0)) hx hb ht hown hK hP (by decide) 0 (by decide) tw_1_171 rfl de_K_place_9 ?_
    refine lv_iload_n hx hb de_K_place_12 rfl (lv_at hl 1 rfl) ?_
    obtain ⟨hi2, h⟩ := gd_some h
    refine kl_1 hx hb hK hP (by decide) (inb_in hi2) de_K_place_13 (fun j3 ej3 => ?_)
    have h := lx_at h j3 ej3
    have hj3 : j3 < 12 := by rw [ej3]; exact inb_lt hi2
    refine kg_9 (v := .int (gI σ 8 j3 0)) hx hb ht hown hK hP hj3 10 (by decide) tw_1_81 rfl de_K_place_14 ?_
    refine lv_goto (tgt := 21) hx hb de_K_place_17 (by decide) ?_
    have h := Option.some.inj h
    subst h
    exact W.iret (v := gI σ 8 j3 0) hx hb hr (fun t ht hW => ⟨⟨_, _, rfl, ⟨rfl, rfl⟩, by rw [ht]; exact hP, va_K.moved hW.alike hK⟩, hS.F ht⟩) hS.2.2 de_K_place_21 hlocks
set_option maxHeartbeats 4000000 in
set_option maxRecDepth 100000 in
theorem c_K_held (l : Launch) (D : va_G) (aa : Nat → Nat → Nat) (q : Nat → ClassId) (hJ : wJ kC aa) (σ : kS) (x1 : Int32) (x2 : Int32) (res : Int32) (h : F_K_held σ x1 x2 = some res) : Met l by_K_held (.code by_K_held bc_K_held 3 (some .int) :: lw_g) brm_K_held (va_Pc [.ref (aa 0 0), .int x1, .int x2] (kPre D aa q σ)) (va_Qi (fun (r : Int32) (u : kS) => r = res ∧ u = σ) (kB D aa q) (wA kC aa)) 0 0 (wA kC aa) := by
  refine Met.ofW (cc := bc_K_held) (maxL := 3) (ret := (some .int)) (by decide) rfl ?_
  intro p e s m args below meth c s₁ B hml hv
  obtain ⟨rfl, hP, hK⟩ := hv
  have hx := B.exec
  have hb := B.bytes
  have hr := B.returns
  have ht : ∀ w ∈ lw_g, w.before ([.ref (aa 0 0), .int x1, .int x2] : List Value).toArray s = true := fun w h => atoms_spec (ws := .code by_K_held bc_K_held 3 (some .int) :: lw_g) B.pre w (List.mem_cons_of_mem _ h)
  have hown : s.vm.findClass bR_K = some m.cls := findClass_of_methodNamed B.named
  have hlocks := B.notSynchronized
  have S : CallFix p m c bc_K_held 3 s ([.ref (aa 0 0), .int x1, .int x2] : List Value).toArray lw_g bR_K := ⟨hx, hb, hml, hown, ht⟩
  have hS : va_S (wA kC aa) s.heap s.heap [] := va_S.rf
  have hl := lv_entry ([.ref (aa 0 0), .int x1, .int x2]) (n := 3) (Nat.le_of_ble_eq_true rfl)
  rw [lg_entry_eq]
  generalize (lg_sl ([.ref (aa 0 0), .int x1, .int x2]) ++ List.replicate (3 - (lg_sl ([.ref (aa 0 0), .int x1, .int x2])).length) Slot.unset).toArray = ls at hl ⊢
  have hl : lv_has ls 3 [(0, .ref (aa 0 0)), (1, .int x1), (2, .int x2)] := hl
  unfold F_K_held at h
  refine lv_aload_n hx hb de_K_held_0 rfl (lv_at hl 0 rfl) ?_
  refine lv_iload_n hx hb de_K_held_1 rfl (lv_at hl 1 rfl) ?_
  obtain ⟨r1, hr1, h⟩ := bd_some h
  refine kq_i (va_runV (As := [.int x1]) (rest := []) S (c_K_isProcess l D aa q hJ σ x1 r1 hr1) (cwV 1 ht (gv_in tw_1_210 tw_1_212 ts_K_isProcess tw_1_1 tc_K_isProcess) rfl rfl rfl bh_K_isProcess ⟨Nat.le_of_ble_eq_true rfl, Nat.le_of_ble_eq_true rfl⟩) (kpreV hK hP (kr_0 hK hP (by decide))) rfl rfl hl.1 rfl (lv_room (Nat.le_of_ble_eq_true rfl)) de_K_held_2 ⟨Nat.zero_le _, Nat.zero_le _⟩) hS (fun H locs hP hS => ?_)
  refine lv_if_eq (tgt := 29) hx hb de_K_held_5 (by decide) (fun hc => ?_) (fun hc => ?_)
  · have h := ie_t h hc
    refine lv_iconst (v := (-1)) hx hb de_K_held_29 (by decide) ?_
    have h := Option.some.inj h
    subst h
    exact W.iret (v := (-1)) hx hb hr (fun t ht hW => ⟨⟨_, _, rfl, ⟨rfl, rfl⟩, by rw [ht]; exact hP, va_K.moved hW.alike hK⟩, hS.F ht⟩) hS.2.2 de_K_held_30 hlocks
  · have h := ie_f h hc
    refine lv_iload_n hx hb de_K_held_8 rfl (lv_at hl 2 rfl) ?_
    obtain ⟨r2, hr2, h⟩ := bd_some h
    refine kq_i (va_runS (As := [.int x2]) (rest := []) S (c_K_isResource l D aa q hJ σ x2 r2 hr2) (cwS 1 ht (gs_in tw_1_218 tw_1_219 tw_1_1 tc_K_isResource) rfl rfl rfl bh_K_isResource ⟨Nat.le_of_ble_eq_true rfl, Nat.le_of_ble_eq_true rfl⟩) (kpreS hK hP) rfl rfl hl.1 rfl (lv_room (Nat.le_of_ble_eq_true rfl)) de_K_held_9 ⟨Nat.zero_le _, Nat.zero_le _⟩) hS (fun H locs hP hS => ?_)
    refine lv_if_eq (tgt := 29) hx hb de_K_held_12 (by decide) (fun hc => ?_) (fun hc => ?_)
    · have h := ie_t h hc
      refine lv_iconst (v := (-1)) hx hb de_K_held_29 (by decide) ?_
      have h := Option.some.inj h
      subst h
      exact W.iret (v := (-1)) hx hb hr (fun t ht hW => ⟨⟨_, _, rfl, ⟨rfl, rfl⟩, by rw [ht]; exact hP, va_K.moved hW.alike hK⟩, hS.F ht⟩) hS.2.2 de_K_held_30 hlocks
    · have h := ie_f h hc
      refine lv_aload_n hx hb de_K_held_15 rfl (lv_at hl 0 rfl) ?_
      refine kg_0 (v := .ref (aa 1 0)) hx hb ht hown hK hP (by decide) 0 (by decide) tw_1_171 rfl de_K_held_16 ?_
      refine lv_iload_n hx hb de_K_held_19 rfl (lv_at hl 1 rfl) ?_
      obtain ⟨hi3, h⟩ := gd_some h
      refine kl_1 hx hb hK hP (by decide) (inb_in hi3) de_K_held_20 (fun j4 ej4 => ?_)
      have h := lx_at h j4 ej4
      have hj4 : j4 < 12 := by rw [ej4]; exact inb_lt hi3
      refine kg_9 (v := .ref (aa 13 j4)) hx hb ht hown hK hP hj4 4 (by decide) tw_1_69 rfl de_K_held_21 ?_
      refine lv_iload_n hx hb de_K_held_24 rfl (lv_at hl 2 rfl) ?_
      obtain ⟨hi5, h⟩ := gd_some h
      refine kl_13 hx hb hK hP hj4 (inb_in hi5) de_K_held_25 ?_
      refine lv_goto (tgt := 30) hx hb de_K_held_26 (by decide) ?_
      have h := Option.some.inj h
      subst h
      exact W.iret (v := gI σ 14 j4 x2.toNatClampNeg) hx hb hr (fun t ht hW => ⟨⟨_, _, rfl, ⟨rfl, rfl⟩, by rw [ht]; exact hP, va_K.moved hW.alike hK⟩, hS.F ht⟩) hS.2.2 de_K_held_30 hlocks
set_option maxHeartbeats 4000000 in
set_option maxRecDepth 100000 in
theorem c_K_free (l : Launch) (D : va_G) (aa : Nat → Nat → Nat) (q : Nat → ClassId) (hJ : wJ kC aa) (σ : kS) (x1 : Int32) (res : Int32) (h : F_K_free σ x1 = some res) : Met l by_K_free (.code by_K_free bc_K_free 2 (some .int) :: lw_g) brm_K_free (va_Pc [.ref (aa 0 0), .int x1] (kPre D aa q σ)) (va_Qi (fun (r : Int32) (u : kS) => r = res ∧ u = σ) (kB D aa q) (wA kC aa)) 0 0 (wA kC aa) := by
  refine Met.ofW (cc := bc_K_free) (maxL := 2) (ret := (some .int)) (by decide) rfl ?_
  intro p e s m args below meth c s₁ B hml hv
  obtain ⟨rfl, hP, hK⟩ := hv
  have hx := B.exec
  have hb := B.bytes
  have hr := B.returns
  have ht : ∀ w ∈ lw_g, w.before ([.ref (aa 0 0), .int x1] : List Value).toArray s = true := fun w h => atoms_spec (ws := .code by_K_free bc_K_free 2 (some .int) :: lw_g) B.pre w (List.mem_cons_of_mem _ h)
  have hown : s.vm.findClass bR_K = some m.cls := findClass_of_methodNamed B.named
  have hlocks := B.notSynchronized
  have S : CallFix p m c bc_K_free 2 s ([.ref (aa 0 0), .int x1] : List Value).toArray lw_g bR_K := ⟨hx, hb, hml, hown, ht⟩
  have hS : va_S (wA kC aa) s.heap s.heap [] := va_S.rf
  have hl := lv_entry ([.ref (aa 0 0), .int x1]) (n := 2) (Nat.le_of_ble_eq_true rfl)
  rw [lg_entry_eq]
  generalize (lg_sl ([.ref (aa 0 0), .int x1]) ++ List.replicate (2 - (lg_sl ([.ref (aa 0 0), .int x1])).length) Slot.unset).toArray = ls at hl ⊢
  have hl : lv_has ls 2 [(0, .ref (aa 0 0)), (1, .int x1)] := hl
  unfold F_K_free at h
  refine lv_iload_n hx hb de_K_free_0 rfl (lv_at hl 1 rfl) ?_
  obtain ⟨r1, hr1, h⟩ := bd_some h
  refine kq_i (va_runS (As := [.int x1]) (rest := []) S (c_K_isResource l D aa q hJ σ x1 r1 hr1) (cwS 1 ht (gs_in tw_1_218 tw_1_219 tw_1_1 tc_K_isResource) rfl rfl rfl bh_K_isResource ⟨Nat.le_of_ble_eq_true rfl, Nat.le_of_ble_eq_true rfl⟩) (kpreS hK hP) rfl rfl hl.1 rfl (lv_room (Nat.le_of_ble_eq_true rfl)) de_K_free_1 ⟨Nat.zero_le _, Nat.zero_le _⟩) hS (fun H locs hP hS => ?_)
  refine lv_if_eq (tgt := 19) hx hb de_K_free_4 (by decide) (fun hc => ?_) (fun hc => ?_)
  · have h := ie_t h hc
    refine lv_iconst (v := (-1)) hx hb de_K_free_19 (by decide) ?_
    have h := Option.some.inj h
    subst h
    exact W.iret (v := (-1)) hx hb hr (fun t ht hW => ⟨⟨_, _, rfl, ⟨rfl, rfl⟩, by rw [ht]; exact hP, va_K.moved hW.alike hK⟩, hS.F ht⟩) hS.2.2 de_K_free_20 hlocks
  · have h := ie_f h hc
    refine lv_aload_n hx hb de_K_free_7 rfl (lv_at hl 0 rfl) ?_
    refine kg_0 (v := .ref (aa 2 0)) hx hb ht hown hK hP (by decide) 1 (by decide) tw_1_172 rfl de_K_free_8 ?_
    refine lv_iload_n hx hb de_K_free_11 rfl (lv_at hl 1 rfl) ?_
    obtain ⟨hi2, h⟩ := gd_some h
    refine kl_2 hx hb hK hP (by decide) (inb_in hi2) de_K_free_12 (fun j3 ej3 => ?_)
    have h := lx_at h j3 ej3
    have hj3 : j3 < 4 := by rw [ej3]; exact inb_lt hi2
    obtain ⟨r4, hr4, h⟩ := bd_some h
    refine kq_i (va_runV (As := []) (rest := []) S (c_E_unseized l D aa q hJ σ j3 hj3 r4 hr4) (cwV 0 ht (gv_in tw_2_0 tw_2_1 tw_2_2 tw_1_5 tc_E_unseized) rfl rfl rfl bh_E_unseized ⟨Nat.le_of_ble_eq_true rfl, Nat.le_of_ble_eq_true rfl⟩) (kpreV hK hP (kr_14 hK hP hj3)) rfl rfl hl.1 rfl (lv_room (Nat.le_of_ble_eq_true rfl)) de_K_free_13 ⟨Nat.zero_le _, Nat.zero_le _⟩) hS (fun H locs hP hS => ?_)
    refine lv_goto (tgt := 20) hx hb de_K_free_16 (by decide) ?_
    have h := Option.some.inj h
    subst h
    exact W.iret (v := r4) hx hb hr (fun t ht hW => ⟨⟨_, _, rfl, ⟨rfl, rfl⟩, by rw [ht]; exact hP, va_K.moved hW.alike hK⟩, hS.F ht⟩) hS.2.2 de_K_free_20 hlocks
