set_option maxHeartbeats 4000000 in
set_option maxRecDepth 100000 in
theorem c_M_level (l : Launch) (D : va_G) (aa : Nat → Nat → Nat) (q : Nat → ClassId) (hJ : wJ mC aa) (σ : kS) (x1 : Int32) (res : Int32) (h : F_M_level σ x1 = some res) : Met l by_M_level (.code by_M_level bc_M_level 2 (some .int) :: lw_g) brm_M_level (va_Pc [.ref (aa 0 0), .int x1] (mPre D aa q σ)) (va_Qi (fun (r : Int32) (u : kS) => r = res ∧ u = σ) (mB D aa q) (wA mC aa)) 0 0 (wA mC aa) := by
  refine Met.ofW (cc := bc_M_level) (maxL := 2) (ret := (some .int)) (by decide) rfl ?_
  intro p e s m args below meth c s₁ B hml hv
  obtain ⟨rfl, hP, hK⟩ := hv
  have hx := B.exec
  have hb := B.bytes
  have hr := B.returns
  have ht : ∀ w ∈ lw_g, w.before ([.ref (aa 0 0), .int x1] : List Value).toArray s = true := fun w h => atoms_spec (ws := .code by_M_level bc_M_level 2 (some .int) :: lw_g) B.pre w (List.mem_cons_of_mem _ h)
  have hown : s.vm.findClass bR_M = some m.cls := findClass_of_methodNamed B.named
  have hlocks := B.notSynchronized
  have S : CallFix p m c bc_M_level 2 s ([.ref (aa 0 0), .int x1] : List Value).toArray lw_g bR_M := ⟨hx, hb, hml, hown, ht⟩
  have hS : va_S (wA mC aa) s.heap s.heap [] := va_S.rf
  have hl := lv_entry ([.ref (aa 0 0), .int x1]) (n := 2) (Nat.le_of_ble_eq_true rfl)
  rw [lg_entry_eq]
  generalize (lg_sl ([.ref (aa 0 0), .int x1]) ++ List.replicate (2 - (lg_sl ([.ref (aa 0 0), .int x1])).length) Slot.unset).toArray = ls at hl ⊢
  have hl : lv_has ls 2 [(0, .ref (aa 0 0)), (1, .int x1)] := hl
  unfold F_M_level at h
  refine lv_aload_n hx hb de_M_level_0 rfl (lv_at hl 0 rfl) ?_
  refine lv_iload_n hx hb de_M_level_1 rfl (lv_at hl 1 rfl) ?_
  refine lv_iconst (v := 0) hx hb de_M_level_2 (by decide) ?_
  refine lv_iconst (v := 3) hx hb de_M_level_3 (by decide) ?_
  obtain ⟨r1, hr1, h⟩ := bd_some h
  refine mq_i (va_runV (As := [.int x1, .int 0, .int 3]) (rest := []) S (c_M_within l D aa q hJ σ x1 0 3 r1 hr1) (cwV 3 ht (gv_in tw_3_71 tw_3_73 ts_M_within tw_1_7 tc_M_within) rfl rfl rfl bh_M_within ⟨Nat.le_of_ble_eq_true rfl, Nat.le_of_ble_eq_true rfl⟩) (mpreV hK hP (mr_0 hK hP (by decide))) rfl rfl hl.1 rfl (lv_room (Nat.le_of_ble_eq_true rfl)) de_M_level_4 ⟨Nat.zero_le _, Nat.zero_le _⟩) hS (fun H locs hP hS => ?_)
  refine lv_if_eq (tgt := 19) hx hb de_M_level_7 (by decide) (fun hc => ?_) (fun hc => ?_)
  · have h := ie_t h hc
    refine lv_iconst (v := (-1)) hx hb de_M_level_19 (by decide) ?_
    have h := Option.some.inj h
    subst h
    exact W.iret (v := (-1)) hx hb hr (fun t ht hW => ⟨⟨_, _, rfl, ⟨rfl, rfl⟩, by rw [ht]; exact hP, va_K.moved hW.alike hK⟩, hS.F ht⟩) hS.2.2 de_M_level_20 hlocks
  · have h := ie_f h hc
    refine lv_aload_n hx hb de_M_level_10 rfl (lv_at hl 0 rfl) ?_
    refine mg_0 (v := .ref (aa 20 0)) hx hb ht hown hK hP (by decide) 24 (by decide) tw_2_239 rfl de_M_level_11 ?_
    refine lv_iload_n hx hb de_M_level_14 rfl (lv_at hl 1 rfl) ?_
    obtain ⟨hi2, h⟩ := gd_some h
    refine ml_20 hx hb hK hP (by decide) (inb_in hi2) de_M_level_15 ?_
    refine lv_goto (tgt := 20) hx hb de_M_level_16 (by decide) ?_
    have h := Option.some.inj h
    subst h
    exact W.iret (v := gI σ 20 0 x1.toNatClampNeg) hx hb hr (fun t ht hW => ⟨⟨_, _, rfl, ⟨rfl, rfl⟩, by rw [ht]; exact hP, va_K.moved hW.alike hK⟩, hS.F ht⟩) hS.2.2 de_M_level_20 hlocks
set_option maxHeartbeats 4000000 in
set_option maxRecDepth 100000 in
theorem w_M_stuck_4 {p : Program} {l : Launch} {e : Env} {s : State} {m : MethodId} {args : Array Value} {below : List Frame} {meth : Method} {c : Code} {Q : State → Prop} {D : va_G} {aa : Nat → Nat → Nat} {q : Nat → ClassId} (hJ : wJ mC aa) (S : CallFix p m c bc_M_stuck 3 s args lw_g bR_M) (hlocks : meth.locks = false) (hK : va_K D mCl (mT q) s) : ∀ (n : Nat) (σ : kS) (x1 : Int32) (x2 : Int32) (ex : Int32 × Int32) (H : Heap) (locs : List Loc) (ls : Array Slot), lv_has ls 3 [(0, .ref (aa 0 0)), (1, .int x1), (2, .int x2)] → va_P D mCl (mW aa q σ) H → va_S (wA mC aa) s.heap H locs → F_M_stuck_4 n σ x1 x2 = some ex → (∀ (H1 : Heap) (locs1 : List Loc) (ls1 : Array Slot), lv_has ls1 3 [(0, .ref (aa 0 0)), (1, .int ex.1), (2, .int ex.2)] → va_P D mCl (mW aa q σ) H1 → va_S (wA mC aa) s.heap H1 locs1 → W p l e brm_M_stuck s m args below meth c H1 locs1 0 0 Q (F0 m 48 ls1 [])) → W p l e brm_M_stuck s m args below meth c H locs 0 0 Q (F0 m 4 ls []) := by
  obtain ⟨hx, hb, hml, hown, hts⟩ := id S
  have ht := hts
  intro n
  induction n with
  | zero => intro σ x1 x2 ex H locs ls hl hP hS h k; cases (show (none : Option (Int32 × Int32)) = some ex from h)
  | succ n ih =>
    intro σ x1 x2 ex H locs ls hl hP hS h k
    unfold F_M_stuck_4 at h
    refine lv_iload_n hx hb de_M_stuck_4 rfl (lv_at hl 2 rfl) ?_
    refine lv_aload_n hx hb de_M_stuck_5 rfl (lv_at hl 0 rfl) ?_
    refine mg_0 (v := .int (gI σ 30 0 0)) hx hb ht hown hK hP (by decide) 0 (by decide) tw_2_215 rfl de_M_stuck_6 ?_
    refine lv_icmp_ge (tgt := 48) hx hb de_M_stuck_9 (by decide) (fun hc => ?_) (fun hc => ?_)
    · have h := ie_t h hc
      have h := Option.some.inj h
      subst h
      exact k _ _ _ (lv_sub hl [0, 1, 2] rfl) hP hS
    · have h := ie_f h hc
      refine lv_iload_n hx hb de_M_stuck_12 rfl (lv_at hl 1 rfl) ?_
      refine lv_if_ne (tgt := 36) hx hb de_M_stuck_13 (by decide) (fun hc => ?_) (fun hc => ?_)
      · have h := ie_f h hc
        refine lv_iconst (v := 1) hx hb de_M_stuck_36 (by decide) ?_
        refine lv_goto (tgt := 41) hx hb de_M_stuck_37 (by decide) ?_
        refine lv_istore_n (lv' := [(1, .int 1), (0, .ref (aa 0 0)), (2, .int x2)]) hx hb de_M_stuck_41 rfl hl (by decide) rfl (fun ls hl => ?_)
        refine lv_iinc (k := 2) (v := x2 + 1) (lv' := [(2, .int (x2 + 1)), (1, .int 1), (0, .ref (aa 0 0))]) hx hb de_M_stuck_42 hl rfl (ii_p1 _) (by decide) rfl (fun ls hl => ?_)
        refine lv_goto (tgt := 4) hx hb de_M_stuck_45 (by decide) ?_
        exact ih σ 1 (x2 + 1) ex _ _ _ (lv_sub hl [2, 1, 0] rfl) hP hS h k
      · have h := ie_t h hc
        refine lv_aload_n hx hb de_M_stuck_16 rfl (lv_at hl 0 rfl) ?_
        refine mg_0 (v := .ref (aa 6 0)) hx hb ht hown hK hP (by decide) 10 (by decide) tw_2_225 rfl de_M_stuck_17 ?_
        refine lv_iload_n hx hb de_M_stuck_20 rfl (lv_at hl 2 rfl) ?_
        obtain ⟨hi1, h⟩ := gd_some h
        refine ml_6 hx hb hK hP (by decide) (inb_in hi1) de_M_stuck_21 ?_
        refine lv_iconst (v := 4) hx hb de_M_stuck_22 (by decide) ?_
        refine lv_icmp_eq (tgt := 36) hx hb de_M_stuck_23 (by decide) (fun hc => ?_) (fun hc => ?_)
        · have h := ie_t h hc
          refine lv_iconst (v := 1) hx hb de_M_stuck_36 (by decide) ?_
          refine lv_goto (tgt := 41) hx hb de_M_stuck_37 (by decide) ?_
          refine lv_istore_n (lv' := [(1, .int 1), (0, .ref (aa 0 0)), (2, .int x2)]) hx hb de_M_stuck_41 rfl hl (by decide) rfl (fun ls hl => ?_)
          refine lv_iinc (k := 2) (v := x2 + 1) (lv' := [(2, .int (x2 + 1)), (1, .int 1), (0, .ref (aa 0 0))]) hx hb de_M_stuck_42 hl rfl (ii_p1 _) (by decide) rfl (fun ls hl => ?_)
          refine lv_goto (tgt := 4) hx hb de_M_stuck_45 (by decide) ?_
          exact ih σ 1 (x2 + 1) ex _ _ _ (lv_sub hl [2, 1, 0] rfl) hP hS h k
        · have h := ie_f h hc
          refine lv_aload_n hx hb de_M_stuck_26 rfl (lv_at hl 0 rfl) ?_
          refine mg_0 (v := .ref (aa 6 0)) hx hb ht hown hK hP (by decide) 10 (by decide) tw_2_225 rfl de_M_stuck_27 ?_
          refine lv_iload_n hx hb de_M_stuck_30 rfl (lv_at hl 2 rfl) ?_
          obtain ⟨hi2, h⟩ := gd_some h
          refine ml_6 hx hb hK hP (by decide) (inb_in hi2) de_M_stuck_31 ?_
          refine lv_iconst (v := 5) hx hb de_M_stuck_32 (by decide) ?_
          refine lv_icmp_ne (tgt := 40) hx hb de_M_stuck_33 (by decide) (fun hc => ?_) (fun hc => ?_)
          · have h := ie_f h hc
            refine lv_iconst (v := 0) hx hb de_M_stuck_40 (by decide) ?_
            refine lv_istore_n (lv' := [(1, .int 0), (0, .ref (aa 0 0)), (2, .int x2)]) hx hb de_M_stuck_41 rfl hl (by decide) rfl (fun ls hl => ?_)
            refine lv_iinc (k := 2) (v := x2 + 1) (lv' := [(2, .int (x2 + 1)), (1, .int 0), (0, .ref (aa 0 0))]) hx hb de_M_stuck_42 hl rfl (ii_p1 _) (by decide) rfl (fun ls hl => ?_)
            refine lv_goto (tgt := 4) hx hb de_M_stuck_45 (by decide) ?_
            exact ih σ 0 (x2 + 1) ex _ _ _ (lv_sub hl [2, 1, 0] rfl) hP hS h k
          · have h := ie_t h hc
            refine lv_iconst (v := 1) hx hb de_M_stuck_36 (by decide) ?_
            refine lv_goto (tgt := 41) hx hb de_M_stuck_37 (by decide) ?_
            refine lv_istore_n (lv' := [(1, .int 1), (0, .ref (aa 0 0)), (2, .int x2)]) hx hb de_M_stuck_41 rfl hl (by decide) rfl (fun ls hl => ?_)
            refine lv_iinc (k := 2) (v := x2 + 1) (lv' := [(2, .int (x2 + 1)), (1, .int 1), (0, .ref (aa 0 0))]) hx hb de_M_stuck_42 hl rfl (ii_p1 _) (by decide) rfl (fun ls hl => ?_)
            refine lv_goto (tgt := 4) hx hb de_M_stuck_45 (by decide) ?_
            exact ih σ 1 (x2 + 1) ex _ _ _ (lv_sub hl [2, 1, 0] rfl) hP hS h k
set_option maxHeartbeats 4000000 in
set_option maxRecDepth 100000 in
theorem c_M_stuck (l : Launch) (D : va_G) (aa : Nat → Nat → Nat) (q : Nat → ClassId) (hJ : wJ mC aa) (σ : kS) (res : Int32) (h : F_M_stuck σ = some res) : Met l by_M_stuck (.code by_M_stuck bc_M_stuck 3 (some .boolean) :: lw_g) brm_M_stuck (va_Pc [.ref (aa 0 0)] (mPre D aa q σ)) (va_Qi (fun (r : Int32) (u : kS) => r = res ∧ u = σ) (mB D aa q) (wA mC aa)) 0 0 (wA mC aa) := by
  refine Met.ofW (cc := bc_M_stuck) (maxL := 3) (ret := (some .boolean)) (by decide) rfl ?_
  intro p e s m args below meth c s₁ B hml hv
  obtain ⟨rfl, hP, hK⟩ := hv
  have hx := B.exec
  have hb := B.bytes
  have hr := B.returns
  have ht : ∀ w ∈ lw_g, w.before ([.ref (aa 0 0)] : List Value).toArray s = true := fun w h => atoms_spec (ws := .code by_M_stuck bc_M_stuck 3 (some .boolean) :: lw_g) B.pre w (List.mem_cons_of_mem _ h)
  have hown : s.vm.findClass bR_M = some m.cls := findClass_of_methodNamed B.named
  have hlocks := B.notSynchronized
  have S : CallFix p m c bc_M_stuck 3 s ([.ref (aa 0 0)] : List Value).toArray lw_g bR_M := ⟨hx, hb, hml, hown, ht⟩
  have hS : va_S (wA mC aa) s.heap s.heap [] := va_S.rf
  have hl := lv_entry ([.ref (aa 0 0)]) (n := 3) (Nat.le_of_ble_eq_true rfl)
  rw [lg_entry_eq]
  generalize (lg_sl ([.ref (aa 0 0)]) ++ List.replicate (3 - (lg_sl ([.ref (aa 0 0)])).length) Slot.unset).toArray = ls at hl ⊢
  have hl : lv_has ls 3 [(0, .ref (aa 0 0))] := hl
  unfold F_M_stuck at h
  refine lv_iconst (v := 0) hx hb de_M_stuck_0 (by decide) ?_
  refine lv_istore_n (lv' := [(1, .int 0), (0, .ref (aa 0 0))]) hx hb de_M_stuck_1 rfl hl (by decide) rfl (fun ls hl => ?_)
  refine lv_iconst (v := 0) hx hb de_M_stuck_2 (by decide) ?_
  refine lv_istore_n (lv' := [(2, .int 0), (1, .int 0), (0, .ref (aa 0 0))]) hx hb de_M_stuck_3 rfl hl (by decide) rfl (fun ls hl => ?_)
  obtain ⟨ex1, hex1, h⟩ := bd_some h
  refine w_M_stuck_4 hJ S hlocks hK 1000 σ 0 0 ex1 _ _ _ (lv_sub hl [2, 1, 0] rfl) hP hS hex1 (fun H locs ls hl hP hS => ?_)
  refine lv_iload_n hx hb de_M_stuck_48 rfl (lv_at hl 1 rfl) ?_
  refine lv_if_eq (tgt := 63) hx hb de_M_stuck_49 (by decide) (fun hc => ?_) (fun hc => ?_)
  · have h := ie_t h hc
    refine lv_iconst (v := 0) hx hb de_M_stuck_63 (by decide) ?_
    have h := Option.some.inj h
    subst h
    exact W.zret (v := 0) hx hb hr rfl (fun t ht hW => ⟨⟨_, _, rfl, ⟨rfl, rfl⟩, by rw [ht]; exact hP, va_K.moved hW.alike hK⟩, hS.F ht⟩) hS.2.2 de_M_stuck_64 hlocks
  · have h := ie_f h hc
    refine lv_aload_n hx hb de_M_stuck_52 rfl (lv_at hl 0 rfl) ?_
    obtain ⟨r2, hr2, h⟩ := bd_some h
    refine mq_i (va_runV (As := []) (rest := []) S (c_M_first l D aa q hJ σ  r2 hr2) (cwV 0 ht (gv_in tw_3_117 tw_3_119 ts_M_first tw_1_7 tc_M_first) rfl rfl rfl bh_M_first ⟨Nat.le_of_ble_eq_true rfl, Nat.le_of_ble_eq_true rfl⟩) (mpreV hK hP (mr_0 hK hP (by decide))) rfl rfl hl.1 rfl (lv_room (Nat.le_of_ble_eq_true rfl)) de_M_stuck_53 ⟨Nat.zero_le _, Nat.zero_le _⟩) hS (fun H locs hP hS => ?_)
    refine lv_if_ge (tgt := 63) hx hb de_M_stuck_56 (by decide) (fun hc => ?_) (fun hc => ?_)
    · have h := ie_t h hc
      refine lv_iconst (v := 0) hx hb de_M_stuck_63 (by decide) ?_
      have h := Option.some.inj h
      subst h
      exact W.zret (v := 0) hx hb hr rfl (fun t ht hW => ⟨⟨_, _, rfl, ⟨rfl, rfl⟩, by rw [ht]; exact hP, va_K.moved hW.alike hK⟩, hS.F ht⟩) hS.2.2 de_M_stuck_64 hlocks
    · have h := ie_f h hc
      refine lv_iconst (v := 1) hx hb de_M_stuck_59 (by decide) ?_
      refine lv_goto (tgt := 64) hx hb de_M_stuck_60 (by decide) ?_
      have h := Option.some.inj h
      subst h
      exact W.zret (v := 1) hx hb hr rfl (fun t ht hW => ⟨⟨_, _, rfl, ⟨rfl, rfl⟩, by rw [ht]; exact hP, va_K.moved hW.alike hK⟩, hS.F ht⟩) hS.2.2 de_M_stuck_64 hlocks
set_option maxHeartbeats 4000000 in
set_option maxRecDepth 100000 in
theorem c_M_traced (l : Launch) (D : va_G) (aa : Nat → Nat → Nat) (q : Nat → ClassId) (hJ : wJ mC aa) (σ : kS) (x1 : Int32) (res : Int32) (h : F_M_traced σ x1 = some res) : Met l by_M_traced (.code by_M_traced bc_M_traced 2 (some .int) :: lw_g) brm_M_traced (va_Pc [.ref (aa 0 0), .int x1] (mPre D aa q σ)) (va_Qi (fun (r : Int32) (u : kS) => r = res ∧ u = σ) (mB D aa q) (wA mC aa)) 0 0 (wA mC aa) := by
  refine Met.ofW (cc := bc_M_traced) (maxL := 2) (ret := (some .int)) (by decide) rfl ?_
  intro p e s m args below meth c s₁ B hml hv
  obtain ⟨rfl, hP, hK⟩ := hv
  have hx := B.exec
  have hb := B.bytes
  have hr := B.returns
  have ht : ∀ w ∈ lw_g, w.before ([.ref (aa 0 0), .int x1] : List Value).toArray s = true := fun w h => atoms_spec (ws := .code by_M_traced bc_M_traced 2 (some .int) :: lw_g) B.pre w (List.mem_cons_of_mem _ h)
  have hown : s.vm.findClass bR_M = some m.cls := findClass_of_methodNamed B.named
  have hlocks := B.notSynchronized
  have S : CallFix p m c bc_M_traced 2 s ([.ref (aa 0 0), .int x1] : List Value).toArray lw_g bR_M := ⟨hx, hb, hml, hown, ht⟩
  have hS : va_S (wA mC aa) s.heap s.heap [] := va_S.rf
  have hl := lv_entry ([.ref (aa 0 0), .int x1]) (n := 2) (Nat.le_of_ble_eq_true rfl)
  rw [lg_entry_eq]
  generalize (lg_sl ([.ref (aa 0 0), .int x1]) ++ List.replicate (2 - (lg_sl ([.ref (aa 0 0), .int x1])).length) Slot.unset).toArray = ls at hl ⊢
  have hl : lv_has ls 2 [(0, .ref (aa 0 0)), (1, .int x1)] := hl
  unfold F_M_traced at h
  refine lv_aload_n hx hb de_M_traced_0 rfl (lv_at hl 0 rfl) ?_
  refine lv_iload_n hx hb de_M_traced_1 rfl (lv_at hl 1 rfl) ?_
  refine lv_iconst (v := 0) hx hb de_M_traced_2 (by decide) ?_
  refine lv_bipush (v := 63) hx hb de_M_traced_3 (by decide) ?_
  obtain ⟨r1, hr1, h⟩ := bd_some h
  refine mq_i (va_runV (As := [.int x1, .int 0, .int 63]) (rest := []) S (c_M_within l D aa q hJ σ x1 0 63 r1 hr1) (cwV 3 ht (gv_in tw_3_71 tw_3_73 ts_M_within tw_1_7 tc_M_within) rfl rfl rfl bh_M_within ⟨Nat.le_of_ble_eq_true rfl, Nat.le_of_ble_eq_true rfl⟩) (mpreV hK hP (mr_0 hK hP (by decide))) rfl rfl hl.1 rfl (lv_room (Nat.le_of_ble_eq_true rfl)) de_M_traced_5 ⟨Nat.zero_le _, Nat.zero_le _⟩) hS (fun H locs hP hS => ?_)
  refine lv_if_eq (tgt := 28) hx hb de_M_traced_8 (by decide) (fun hc => ?_) (fun hc => ?_)
  · have h := ie_t h hc
    refine lv_iconst (v := (-1)) hx hb de_M_traced_28 (by decide) ?_
    have h := Option.some.inj h
    subst h
    exact W.iret (v := (-1)) hx hb hr (fun t ht hW => ⟨⟨_, _, rfl, ⟨rfl, rfl⟩, by rw [ht]; exact hP, va_K.moved hW.alike hK⟩, hS.F ht⟩) hS.2.2 de_M_traced_29 hlocks
  · have h := ie_f h hc
    refine lv_iload_n hx hb de_M_traced_11 rfl (lv_at hl 1 rfl) ?_
    refine lv_aload_n hx hb de_M_traced_12 rfl (lv_at hl 0 rfl) ?_
    refine mg_0 (v := .int (gI σ 33 0 0)) hx hb ht hown hK hP (by decide) 3 (by decide) tw_2_218 rfl de_M_traced_13 ?_
    refine lv_icmp_ge (tgt := 28) hx hb de_M_traced_16 (by decide) (fun hc => ?_) (fun hc => ?_)
    · have h := ie_t h hc
      refine lv_iconst (v := (-1)) hx hb de_M_traced_28 (by decide) ?_
      have h := Option.some.inj h
      subst h
      exact W.iret (v := (-1)) hx hb hr (fun t ht hW => ⟨⟨_, _, rfl, ⟨rfl, rfl⟩, by rw [ht]; exact hP, va_K.moved hW.alike hK⟩, hS.F ht⟩) hS.2.2 de_M_traced_29 hlocks
    · have h := ie_f h hc
      refine lv_aload_n hx hb de_M_traced_19 rfl (lv_at hl 0 rfl) ?_
      refine mg_0 (v := .ref (aa 22 0)) hx hb ht hown hK hP (by decide) 26 (by decide) tw_3_1 rfl de_M_traced_20 ?_
      refine lv_iload_n hx hb de_M_traced_23 rfl (lv_at hl 1 rfl) ?_
      obtain ⟨hi2, h⟩ := gd_some h
      refine ml_22 hx hb hK hP (by decide) (inb_in hi2) de_M_traced_24 ?_
      refine lv_goto (tgt := 29) hx hb de_M_traced_25 (by decide) ?_
      have h := Option.some.inj h
      subst h
      exact W.iret (v := gI σ 22 0 x1.toNatClampNeg) hx hb hr (fun t ht hW => ⟨⟨_, _, rfl, ⟨rfl, rfl⟩, by rw [ht]; exact hP, va_K.moved hW.alike hK⟩, hS.F ht⟩) hS.2.2 de_M_traced_29 hlocks
