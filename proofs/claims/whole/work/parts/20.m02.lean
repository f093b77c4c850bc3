set_option maxHeartbeats 4000000 in
set_option maxRecDepth 100000 in
theorem w_M_victim_5 {p : Program} {l : Launch} {e : Env} {s : State} {m : MethodId} {args : Array Value} {below : List Frame} {meth : Method} {c : Code} {Q : State → Prop} {D : va_G} {aa : Nat → Nat → Nat} {q : Nat → ClassId} (hJ : wJ mC aa) (S : CallFix p m c bc_M_victim 5 s args lw_g bR_M) (hlocks : meth.locks = false) (hK : va_K D mCl (mT q) s) : ∀ (n : Nat) (σ : kS) (x1 : Int32) (x2 : Int32) (x3 : Int32) (x4 : Int32) (ex : Int32 × Int32) (H : Heap) (locs : List Loc) (ls : Array Slot), lv_has ls 5 [(0, .ref (aa 0 0)), (1, .int x1), (2, .int x2), (3, .int x3), (4, .int x4)] → va_P D mCl (mW aa q σ) H → va_S (wA mC aa) s.heap H locs → F_M_victim_5 n σ x1 x2 x3 x4 = some ex → (∀ (H1 : Heap) (locs1 : List Loc) (ls1 : Array Slot), lv_has ls1 5 [(0, .ref (aa 0 0)), (1, .int x1), (2, .int x2), (3, .int ex.1), (4, .int ex.2)] → va_P D mCl (mW aa q σ) H1 → va_S (wA mC aa) s.heap H1 locs1 → W p l e brm_M_victim s m args below meth c H1 locs1 0 0 Q (F0 m 73 ls1 [])) → W p l e brm_M_victim s m args below meth c H locs 0 0 Q (F0 m 5 ls []) := by
  obtain ⟨hx, hb, hml, hown, hts⟩ := id S
  have ht := hts
  intro n
  induction n with
  | zero => intro σ x1 x2 x3 x4 ex H locs ls hl hP hS h k; cases (show (none : Option (Int32 × Int32)) = some ex from h)
  | succ n ih =>
    intro σ x1 x2 x3 x4 ex H locs ls hl hP hS h k
    unfold F_M_victim_5 at h
    refine lv_iload hx hb de_M_victim_5 (lv_at hl 4 rfl) ?_
    refine lv_aload_n hx hb de_M_victim_7 rfl (lv_at hl 0 rfl) ?_
    refine mg_0 (v := .int (gI σ 30 0 0)) hx hb ht hown hK hP (by decide) 0 (by decide) tw_2_215 rfl de_M_victim_8 ?_
    refine lv_icmp_ge (tgt := 73) hx hb de_M_victim_11 (by decide) (fun hc => ?_) (fun hc => ?_)
    · have h := ie_t h hc
      have h := Option.some.inj h
      subst h
      exact k _ _ _ (lv_sub hl [0, 1, 2, 3, 4] rfl) hP hS
    · have h := ie_f h hc
      refine lv_aload_n hx hb de_M_victim_14 rfl (lv_at hl 0 rfl) ?_
      refine mg_0 (v := .ref (aa 1 0)) hx hb ht hown hK hP (by decide) 5 (by decide) tw_2_220 rfl de_M_victim_15 ?_
      refine lv_iload hx hb de_M_victim_18 (lv_at hl 4 rfl) ?_
      obtain ⟨hi1, h⟩ := gd_some h
      refine ml_1 hx hb hK hP (by decide) (inb_in hi1) de_M_victim_20 ?_
      refine lv_aload_n hx hb de_M_victim_21 rfl (lv_at hl 0 rfl) ?_
      refine mg_0 (v := .ref (aa 1 0)) hx hb ht hown hK hP (by decide) 5 (by decide) tw_2_220 rfl de_M_victim_22 ?_
      refine lv_iload_n hx hb de_M_victim_25 rfl (lv_at hl 1 rfl) ?_
      obtain ⟨hi2, h⟩ := gd_some h
      refine ml_1 hx hb hK hP (by decide) (inb_in hi2) de_M_victim_26 ?_
      refine lv_icmp_le (tgt := 67) hx hb de_M_victim_27 (by decide) (fun hc => ?_) (fun hc => ?_)
      · have h := ie_t h hc
        refine lv_iinc (k := 4) (v := x4 + 1) (lv' := [(4, .int (x4 + 1)), (0, .ref (aa 0 0)), (1, .int x1), (2, .int x2), (3, .int x3)]) hx hb de_M_victim_67 hl rfl (ii_p1 _) (by decide) rfl (fun ls hl => ?_)
        refine lv_goto (tgt := 5) hx hb de_M_victim_70 (by decide) ?_
        exact ih σ x1 x2 x3 (x4 + 1) ex _ _ _ (lv_sub hl [1, 2, 3, 4, 0] rfl) hP hS h k
      · have h := ie_f h hc
        refine lv_aload_n hx hb de_M_victim_30 rfl (lv_at hl 0 rfl) ?_
        refine mg_0 (v := .ref (aa 14 0)) hx hb ht hown hK hP (by decide) 18 (by decide) tw_2_233 rfl de_M_victim_31 ?_
        refine lv_iconst (v := 4) hx hb de_M_victim_34 (by decide) ?_
        refine lv_iload hx hb de_M_victim_35 (lv_at hl 4 rfl) ?_
        refine lv_imul hx hb de_M_victim_37 ?_
        refine lv_iload_n hx hb de_M_victim_38 rfl (lv_at hl 2 rfl) ?_
        refine lv_iadd hx hb de_M_victim_39 ?_
        obtain ⟨hi3, h⟩ := gd_some h
        refine ml_14 hx hb hK hP (by decide) (inb_in hi3) de_M_victim_40 ?_
        refine lv_if_le (tgt := 67) hx hb de_M_victim_41 (by decide) (fun hc => ?_) (fun hc => ?_)
        · have h := ie_t h hc
          refine lv_iinc (k := 4) (v := x4 + 1) (lv' := [(4, .int (x4 + 1)), (0, .ref (aa 0 0)), (1, .int x1), (2, .int x2), (3, .int x3)]) hx hb de_M_victim_67 hl rfl (ii_p1 _) (by decide) rfl (fun ls hl => ?_)
          refine lv_goto (tgt := 5) hx hb de_M_victim_70 (by decide) ?_
          exact ih σ x1 x2 x3 (x4 + 1) ex _ _ _ (lv_sub hl [1, 2, 3, 4, 0] rfl) hP hS h k
        · have h := ie_f h hc
          refine lv_iload_n hx hb de_M_victim_44 rfl (lv_at hl 3 rfl) ?_
          refine lv_if_lt (tgt := 64) hx hb de_M_victim_45 (by decide) (fun hc => ?_) (fun hc => ?_)
          · have h := ie_t h hc
            refine lv_iload hx hb de_M_victim_64 (lv_at hl 4 rfl) ?_
            refine lv_istore_n (lv' := [(3, .int x4), (0, .ref (aa 0 0)), (1, .int x1), (2, .int x2), (4, .int x4)]) hx hb de_M_victim_66 rfl hl (by decide) rfl (fun ls hl => ?_)
            refine lv_iinc (k := 4) (v := x4 + 1) (lv' := [(4, .int (x4 + 1)), (3, .int x4), (0, .ref (aa 0 0)), (1, .int x1), (2, .int x2)]) hx hb de_M_victim_67 hl rfl (ii_p1 _) (by decide) rfl (fun ls hl => ?_)
            refine lv_goto (tgt := 5) hx hb de_M_victim_70 (by decide) ?_
            exact ih σ x1 x2 x4 (x4 + 1) ex _ _ _ (lv_sub hl [2, 3, 4, 1, 0] rfl) hP hS h k
          · have h := ie_f h hc
            refine lv_aload_n hx hb de_M_victim_48 rfl (lv_at hl 0 rfl) ?_
            refine mg_0 (v := .ref (aa 1 0)) hx hb ht hown hK hP (by decide) 5 (by decide) tw_2_220 rfl de_M_victim_49 ?_
            refine lv_iload hx hb de_M_victim_52 (lv_at hl 4 rfl) ?_
            obtain ⟨hi4, h⟩ := gd_some h
            refine ml_1 hx hb hK hP (by decide) (inb_in hi4) de_M_victim_54 ?_
            refine lv_aload_n hx hb de_M_victim_55 rfl (lv_at hl 0 rfl) ?_
            refine mg_0 (v := .ref (aa 1 0)) hx hb ht hown hK hP (by decide) 5 (by decide) tw_2_220 rfl de_M_victim_56 ?_
            refine lv_iload_n hx hb de_M_victim_59 rfl (lv_at hl 3 rfl) ?_
            obtain ⟨hi5, h⟩ := gd_some h
            refine ml_1 hx hb hK hP (by decide) (inb_in hi5) de_M_victim_60 ?_
            refine lv_icmp_lt (tgt := 67) hx hb de_M_victim_61 (by decide) (fun hc => ?_) (fun hc => ?_)
            · have h := ie_t h hc
              refine lv_iinc (k := 4) (v := x4 + 1) (lv' := [(4, .int (x4 + 1)), (0, .ref (aa 0 0)), (1, .int x1), (2, .int x2), (3, .int x3)]) hx hb de_M_victim_67 hl rfl (ii_p1 _) (by decide) rfl (fun ls hl => ?_)
              refine lv_goto (tgt := 5) hx hb de_M_victim_70 (by decide) ?_
              exact ih σ x1 x2 x3 (x4 + 1) ex _ _ _ (lv_sub hl [1, 2, 3, 4, 0] rfl) hP hS h k
            · have h := ie_f h hc
              refine lv_iload hx hb de_M_victim_64 (lv_at hl 4 rfl) ?_
              refine lv_istore_n (lv' := [(3, .int x4), (0, .ref (aa 0 0)), (1, .int x1), (2, .int x2), (4, .int x4)]) hx hb de_M_victim_66 rfl hl (by decide) rfl (fun ls hl => ?_)
              refine lv_iinc (k := 4) (v := x4 + 1) (lv' := [(4, .int (x4 + 1)), (3, .int x4), (0, .ref (aa 0 0)), (1, .int x1), (2, .int x2)]) hx hb de_M_victim_67 hl rfl (ii_p1 _) (by decide) rfl (fun ls hl => ?_)
              refine lv_goto (tgt := 5) hx hb de_M_victim_70 (by decide) ?_
              exact ih σ x1 x2 x4 (x4 + 1) ex _ _ _ (lv_sub hl [2, 3, 4, 1, 0] rfl) hP hS h k
set_option maxHeartbeats 4000000 in
set_option maxRecDepth 100000 in
theorem c_M_victim (l : Launch) (D : va_G) (aa : Nat → Nat → Nat) (q : Nat → ClassId) (hJ : wJ mC aa) (σ : kS) (x1 : Int32) (x2 : Int32) (res : Int32) (h : F_M_victim σ x1 x2 = some res) : Met l by_M_victim (.code by_M_victim bc_M_victim 5 (some .int) :: lw_g) brm_M_victim (va_Pc [.ref (aa 0 0), .int x1, .int x2] (mPre D aa q σ)) (va_Qi (fun (r : Int32) (u : kS) => r = res ∧ u = σ) (mB D aa q) (wA mC aa)) 0 0 (wA mC aa) := by
  refine Met.ofW (cc := bc_M_victim) (maxL := 5) (ret := (some .int)) (by decide) rfl ?_
  intro p e s m args below meth c s₁ B hml hv
  obtain ⟨rfl, hP, hK⟩ := hv
  have hx := B.exec
  have hb := B.bytes
  have hr := B.returns
  have ht : ∀ w ∈ lw_g, w.before ([.ref (aa 0 0), .int x1, .int x2] : List Value).toArray s = true := fun w h => atoms_spec (ws := .code by_M_victim bc_M_victim 5 (some .int) :: lw_g) B.pre w (List.mem_cons_of_mem _ h)
  have hown : s.vm.findClass bR_M = some m.cls := findClass_of_methodNamed B.named
  have hlocks := B.notSynchronized
  have S : CallFix p m c bc_M_victim 5 s ([.ref (aa 0 0), .int x1, .int x2] : List Value).toArray lw_g bR_M := ⟨hx, hb, hml, hown, ht⟩
  have hS : va_S (wA mC aa) s.heap s.heap [] := va_S.rf
  have hl := lv_entry ([.ref (aa 0 0), .int x1, .int x2]) (n := 5) (Nat.le_of_ble_eq_true rfl)
  rw [lg_entry_eq]
  generalize (lg_sl ([.ref (aa 0 0), .int x1, .int x2]) ++ List.replicate (5 - (lg_sl ([.ref (aa 0 0), .int x1, .int x2])).length) Slot.unset).toArray = ls at hl ⊢
  have hl : lv_has ls 5 [(0, .ref (aa 0 0)), (1, .int x1), (2, .int x2)] := hl
  unfold F_M_victim at h
  refine lv_iconst (v := (-1)) hx hb de_M_victim_0 (by decide) ?_
  refine lv_istore_n (lv' := [(3, .int (-1)), (0, .ref (aa 0 0)), (1, .int x1), (2, .int x2)]) hx hb de_M_victim_1 rfl hl (by decide) rfl (fun ls hl => ?_)
  refine lv_iconst (v := 0) hx hb de_M_victim_2 (by decide) ?_
  refine lv_istore (lv' := [(4, .int 0), (3, .int (-1)), (0, .ref (aa 0 0)), (1, .int x1), (2, .int x2)]) hx hb de_M_victim_3 hl (by decide) rfl (fun ls hl => ?_)
  obtain ⟨ex1, hex1, h⟩ := bd_some h
  refine w_M_victim_5 hJ S hlocks hK 1000 σ x1 x2 (-1) 0 ex1 _ _ _ (lv_sub hl [2, 3, 4, 1, 0] rfl) hP hS hex1 (fun H locs ls hl hP hS => ?_)
  refine lv_iload_n hx hb de_M_victim_73 rfl (lv_at hl 3 rfl) ?_
  have h := Option.some.inj h
  subst h
  exact W.iret (v := ex1.1) hx hb hr (fun t ht hW => ⟨⟨_, _, rfl, ⟨rfl, rfl⟩, by rw [ht]; exact hP, va_K.moved hW.alike hK⟩, hS.F ht⟩) hS.2.2 de_M_victim_74 hlocks
set_option maxHeartbeats 4000000 in
set_option maxRecDepth 100000 in
theorem c_M_interrupt (l : Launch) (D : va_G) (aa : Nat → Nat → Nat) (q : Nat → ClassId) (hJ : wJ mC aa) (σ : kS) (x1 : Int32) (res : Int32 × kS) (h : F_M_interrupt σ x1 = some res) : Met l by_M_interrupt (.code by_M_interrupt bc_M_interrupt 3 (some .boolean) :: lw_g) brm_M_interrupt (va_Pc [.ref (aa 0 0), .int x1] (mPre D aa q σ)) (va_Qi (fun (r : Int32) (u : kS) => r = res.1 ∧ u = res.2) (mB D aa q) (wA mC aa)) 0 0 (wA mC aa) := by
  refine Met.ofW (cc := bc_M_interrupt) (maxL := 3) (ret := (some .boolean)) (by decide) rfl ?_
  intro p e s m args below meth c s₁ B hml hv
  obtain ⟨rfl, hP, hK⟩ := hv
  have hx := B.exec
  have hb := B.bytes
  have hr := B.returns
  have ht : ∀ w ∈ lw_g, w.before ([.ref (aa 0 0), .int x1] : List Value).toArray s = true := fun w h => atoms_spec (ws := .code by_M_interrupt bc_M_interrupt 3 (some .boolean) :: lw_g) B.pre w (List.mem_cons_of_mem _ h)
  have hown : s.vm.findClass bR_M = some m.cls := findClass_of_methodNamed B.named
  have hlocks := B.notSynchronized
  have S : CallFix p m c bc_M_interrupt 3 s ([.ref (aa 0 0), .int x1] : List Value).toArray lw_g bR_M := ⟨hx, hb, hml, hown, ht⟩
  have hS : va_S (wA mC aa) s.heap s.heap [] := va_S.rf
  have hl := lv_entry ([.ref (aa 0 0), .int x1]) (n := 3) (Nat.le_of_ble_eq_true rfl)
  rw [lg_entry_eq]
  generalize (lg_sl ([.ref (aa 0 0), .int x1]) ++ List.replicate (3 - (lg_sl ([.ref (aa 0 0), .int x1])).length) Slot.unset).toArray = ls at hl ⊢
  have hl : lv_has ls 3 [(0, .ref (aa 0 0)), (1, .int x1)] := hl
  unfold F_M_interrupt at h
  refine lv_aload_n hx hb de_M_interrupt_0 rfl (lv_at hl 0 rfl) ?_
  refine lv_iload_n hx hb de_M_interrupt_1 rfl (lv_at hl 1 rfl) ?_
  obtain ⟨r1, hr1, h⟩ := bd_some h
  refine mq_i (va_runV (As := [.int x1]) (rest := []) S (c_M_none l D aa q hJ σ x1 r1 hr1) (cwV 1 ht (gv_in tw_3_67 tw_3_69 ts_M_none tw_1_7 tc_M_none) rfl rfl rfl bh_M_none ⟨Nat.le_of_ble_eq_true rfl, Nat.le_of_ble_eq_true rfl⟩) (mpreV hK hP (mr_0 hK hP (by decide))) rfl rfl hl.1 rfl (lv_room (Nat.le_of_ble_eq_true rfl)) de_M_interrupt_2 ⟨Nat.zero_le _, Nat.zero_le _⟩) hS (fun H locs hP hS => ?_)
  refine lv_if_ne (tgt := 28) hx hb de_M_interrupt_5 (by decide) (fun hc => ?_) (fun hc => ?_)
  · have h := ie_f h hc
    refine lv_iconst (v := 0) hx hb de_M_interrupt_28 (by decide) ?_
    have h := Option.some.inj h
    subst h
    exact W.zret (v := 0) hx hb hr rfl (fun t ht hW => ⟨⟨_, _, rfl, ⟨rfl, rfl⟩, by rw [ht]; exact hP, va_K.moved hW.alike hK⟩, hS.F ht⟩) hS.2.2 de_M_interrupt_29 hlocks
  · have h := ie_t h hc
    refine lv_aload_n hx hb de_M_interrupt_8 rfl (lv_at hl 0 rfl) ?_
    refine mg_0 (v := .ref (aa 6 0)) hx hb ht hown hK hP (by decide) 10 (by decide) tw_2_225 rfl de_M_interrupt_9 ?_
    refine lv_iload_n hx hb de_M_interrupt_12 rfl (lv_at hl 1 rfl) ?_
    obtain ⟨hi2, h⟩ := gd_some h
    refine ml_6 hx hb hK hP (by decide) (inb_in hi2) de_M_interrupt_13 ?_
    refine lv_iconst (v := 2) hx hb de_M_interrupt_14 (by decide) ?_
    refine lv_icmp_lt (tgt := 28) hx hb de_M_interrupt_15 (by decide) (fun hc => ?_) (fun hc => ?_)
    · have h := ie_t h hc
      refine lv_iconst (v := 0) hx hb de_M_interrupt_28 (by decide) ?_
      have h := Option.some.inj h
      subst h
      exact W.zret (v := 0) hx hb hr rfl (fun t ht hW => ⟨⟨_, _, rfl, ⟨rfl, rfl⟩, by rw [ht]; exact hP, va_K.moved hW.alike hK⟩, hS.F ht⟩) hS.2.2 de_M_interrupt_29 hlocks
    · have h := ie_f h hc
      refine lv_aload_n hx hb de_M_interrupt_18 rfl (lv_at hl 0 rfl) ?_
      refine mg_0 (v := .ref (aa 6 0)) hx hb ht hown hK hP (by decide) 10 (by decide) tw_2_225 rfl de_M_interrupt_19 ?_
      refine lv_iload_n hx hb de_M_interrupt_22 rfl (lv_at hl 1 rfl) ?_
      obtain ⟨hi3, h⟩ := gd_some h
      refine ml_6 hx hb hK hP (by decide) (inb_in hi3) de_M_interrupt_23 ?_
      refine lv_iconst (v := 5) hx hb de_M_interrupt_24 (by decide) ?_
      refine lv_icmp_le (tgt := 30) hx hb de_M_interrupt_25 (by decide) (fun hc => ?_) (fun hc => ?_)
      · have h := ie_t h hc
        refine lv_aload_n hx hb de_M_interrupt_30 rfl (lv_at hl 0 rfl) ?_
        refine mg_0 (v := .ref (aa 6 0)) hx hb ht hown hK hP (by decide) 10 (by decide) tw_2_225 rfl de_M_interrupt_31 ?_
        refine lv_iload_n hx hb de_M_interrupt_34 rfl (lv_at hl 1 rfl) ?_
        obtain ⟨hi4, h⟩ := gd_some h
        refine ml_6 hx hb hK hP (by decide) (inb_in hi4) de_M_interrupt_35 ?_
        refine lv_iconst (v := 4) hx hb de_M_interrupt_36 (by decide) ?_
        refine lv_icmp_ne (tgt := 53) hx hb de_M_interrupt_37 (by decide) (fun hc => ?_) (fun hc => ?_)
        · have h := ie_f h hc
          refine lv_iconst (v := (-1)) hx hb de_M_interrupt_53 (by decide) ?_
          refine lv_istore_n (lv' := [(2, .int (-1)), (0, .ref (aa 0 0)), (1, .int x1)]) hx hb de_M_interrupt_54 rfl hl (by decide) rfl (fun ls hl => ?_)
          refine lv_aload_n hx hb de_M_interrupt_55 rfl (lv_at hl 1 rfl) ?_
          refine mg_0 (v := .ref (aa 5 0)) hx hb ht hown hK hP (by decide) 9 (by decide) tw_2_224 rfl de_M_interrupt_56 ?_
          refine lv_iload_n hx hb de_M_interrupt_59 rfl (lv_at hl 2 rfl) ?_
          refine lv_aload_n hx hb de_M_interrupt_60 rfl (lv_at hl 1 rfl) ?_
          refine mg_0 (v := .ref (aa 3 0)) hx hb ht hown hK hP (by decide) 7 (by decide) tw_2_222 rfl de_M_interrupt_61 ?_
          refine lv_iload_n hx hb de_M_interrupt_64 rfl (lv_at hl 2 rfl) ?_
          obtain ⟨hi5, h⟩ := gd_some h
          refine ml_3 hx hb hK hP (by decide) (inb_in hi5) de_M_interrupt_65 ?_
          obtain ⟨hi6, h⟩ := gd_some h
          refine mt_5 hx hb hK hP hJ hS (by decide) (inb_in hi6) de_M_interrupt_66 (fun H locs hP hS => ?_)
          obtain ⟨σ7, eσ7, h⟩ := lx_ex h
          rw [← eσ7] at hP
          refine lv_aload_n hx hb de_M_interrupt_67 rfl (lv_at hl 1 rfl) ?_
          refine lv_iload_n hx hb de_M_interrupt_68 rfl (lv_at hl 2 rfl) ?_
          refine lv_iconst (v := 1) hx hb de_M_interrupt_69 (by decide) ?_
          refine lv_aload_n hx hb de_M_interrupt_70 rfl (lv_at hl 1 rfl) ?_
          refine mg_0 (v := .long (gL σ7 0 0 0)) hx hb ht hown hK hP (by decide) 4 (by decide) tw_2_219 rfl de_M_interrupt_71 ?_
          obtain ⟨r8, hr8, h⟩ := bd_some h
          refine mq_v (va_runV (As := [.int x1, .int 1, .long (gL σ7 0 0 0)]) (rest := []) S (c_M_enter l D aa q hJ σ7 x1 1 (gL σ7 0 0 0) r8 hr8) (cwV 3 ht (gv_in tw_3_104 tw_3_106 ts_M_enter tw_1_7 tc_M_enter) rfl rfl rfl bh_M_enter ⟨Nat.le_of_ble_eq_true rfl, Nat.le_of_ble_eq_true rfl⟩) (mpreV hK hP (mr_0 hK hP (by decide))) rfl rfl hl.1 rfl (lv_room (Nat.le_of_ble_eq_true rfl)) de_M_interrupt_74 ⟨Nat.zero_le _, Nat.zero_le _⟩) hS (fun H locs hP hS => ?_)
          refine lv_iload_n hx hb de_M_interrupt_77 rfl (lv_at hl 0 rfl) ?_
          refine lv_if_lt (tgt := 86) hx hb de_M_interrupt_78 (by decide) (fun hc => ?_) (fun hc => ?_)
          · refine lv_iconst (v := 1) hx hb de_M_interrupt_86 (by decide) ?_
            have h := Option.some.inj h
            subst h
            exact W.zret (v := 1) hx hb hr rfl (fun t ht hW => ⟨⟨_, _, rfl, ⟨rfl, rfl⟩, by rw [ht]; exact hP, va_K.moved hW.alike hK⟩, hS.F ht⟩) hS.2.2 de_M_interrupt_87 hlocks
          · exact absurd (by decide) hc
        · have h := ie_t h hc
          refine lv_aload_n hx hb de_M_interrupt_40 rfl (lv_at hl 0 rfl) ?_
          refine mg_0 (v := .ref (aa 12 0)) hx hb ht hown hK hP (by decide) 16 (by decide) tw_2_231 rfl de_M_interrupt_41 ?_
          refine lv_aload_n hx hb de_M_interrupt_44 rfl (lv_at hl 0 rfl) ?_
          refine lv_iload_n hx hb de_M_interrupt_45 rfl (lv_at hl 1 rfl) ?_
          obtain ⟨r9, hr9, h⟩ := bd_some h
          refine mq_i (va_runV (As := [.int x1]) (rest := [.ref (aa 12 0)]) S (c_M_done l D aa q hJ σ x1 r9 hr9) (cwV 1 ht (gv_in tw_3_96 tw_3_98 ts_M_done tw_1_7 tc_M_done) rfl rfl rfl bh_M_done ⟨Nat.le_of_ble_eq_true rfl, Nat.le_of_ble_eq_true rfl⟩) (mpreV hK hP (mr_0 hK hP (by decide))) rfl rfl hl.1 rfl (lv_room (Nat.le_of_ble_eq_true rfl)) de_M_interrupt_46 ⟨Nat.zero_le _, Nat.zero_le _⟩) hS (fun H locs hP hS => ?_)
          obtain ⟨hi10, h⟩ := gd_some h
          refine ml_12 hx hb hK hP (by decide) (inb_in hi10) de_M_interrupt_49 ?_
          refine lv_goto (tgt := 54) hx hb de_M_interrupt_50 (by decide) ?_
          refine lv_topi (fun v11 ev11 => ?_)
          have h := lx_at h v11 ev11
          refine lv_istore_n (lv' := [(2, .int v11), (0, .ref (aa 0 0)), (1, .int x1)]) hx hb de_M_interrupt_54 rfl hl (by decide) rfl (fun ls hl => ?_)
          refine lv_aload_n hx hb de_M_interrupt_55 rfl (lv_at hl 1 rfl) ?_
          refine mg_0 (v := .ref (aa 5 0)) hx hb ht hown hK hP (by decide) 9 (by decide) tw_2_224 rfl de_M_interrupt_56 ?_
          refine lv_iload_n hx hb de_M_interrupt_59 rfl (lv_at hl 2 rfl) ?_
          refine lv_aload_n hx hb de_M_interrupt_60 rfl (lv_at hl 1 rfl) ?_
          refine mg_0 (v := .ref (aa 3 0)) hx hb ht hown hK hP (by decide) 7 (by decide) tw_2_222 rfl de_M_interrupt_61 ?_
          refine lv_iload_n hx hb de_M_interrupt_64 rfl (lv_at hl 2 rfl) ?_
          obtain ⟨hi12, h⟩ := gd_some h
          refine ml_3 hx hb hK hP (by decide) (inb_in hi12) de_M_interrupt_65 ?_
          obtain ⟨hi13, h⟩ := gd_some h
          refine mt_5 hx hb hK hP hJ hS (by decide) (inb_in hi13) de_M_interrupt_66 (fun H locs hP hS => ?_)
          obtain ⟨σ14, eσ14, h⟩ := lx_ex h
          rw [← eσ14] at hP
          refine lv_aload_n hx hb de_M_interrupt_67 rfl (lv_at hl 1 rfl) ?_
          refine lv_iload_n hx hb de_M_interrupt_68 rfl (lv_at hl 2 rfl) ?_
          refine lv_iconst (v := 1) hx hb de_M_interrupt_69 (by decide) ?_
          refine lv_aload_n hx hb de_M_interrupt_70 rfl (lv_at hl 1 rfl) ?_
          refine mg_0 (v := .long (gL σ14 0 0 0)) hx hb ht hown hK hP (by decide) 4 (by decide) tw_2_219 rfl de_M_interrupt_71 ?_
          obtain ⟨r15, hr15, h⟩ := bd_some h
          refine mq_v (va_runV (As := [.int x1, .int 1, .long (gL σ14 0 0 0)]) (rest := []) S (c_M_enter l D aa q hJ σ14 x1 1 (gL σ14 0 0 0) r15 hr15) (cwV 3 ht (gv_in tw_3_104 tw_3_106 ts_M_enter tw_1_7 tc_M_enter) rfl rfl rfl bh_M_enter ⟨Nat.le_of_ble_eq_true rfl, Nat.le_of_ble_eq_true rfl⟩) (mpreV hK hP (mr_0 hK hP (by decide))) rfl rfl hl.1 rfl (lv_room (Nat.le_of_ble_eq_true rfl)) de_M_interrupt_74 ⟨Nat.zero_le _, Nat.zero_le _⟩) hS (fun H locs hP hS => ?_)
          refine lv_iload_n hx hb de_M_interrupt_77 rfl (lv_at hl 0 rfl) ?_
          refine lv_if_lt (tgt := 86) hx hb de_M_interrupt_78 (by decide) (fun hc => ?_) (fun hc => ?_)
          · have h := ie_t h hc
            refine lv_iconst (v := 1) hx hb de_M_interrupt_86 (by decide) ?_
            have h := Option.some.inj h
            subst h
            exact W.zret (v := 1) hx hb hr rfl (fun t ht hW => ⟨⟨_, _, rfl, ⟨rfl, rfl⟩, by rw [ht]; exact hP, va_K.moved hW.alike hK⟩, hS.F ht⟩) hS.2.2 de_M_interrupt_87 hlocks
          · have h := ie_f h hc
            refine lv_aload_n hx hb de_M_interrupt_81 rfl (lv_at hl 1 rfl) ?_
            refine lv_iload_n hx hb de_M_interrupt_82 rfl (lv_at hl 0 rfl) ?_
            obtain ⟨r16, hr16, h⟩ := bd_some h
            refine mq_v (va_runV (As := [.int v11]) (rest := []) S (c_M_serve l D aa q hJ r15 v11 r16 hr16) (cwV 1 ht (gv_in tw_3_88 tw_3_90 ts_M_serve tw_1_7 tc_M_serve) rfl rfl rfl bh_M_serve ⟨Nat.le_of_ble_eq_true rfl, Nat.le_of_ble_eq_true rfl⟩) (mpreV hK hP (mr_0 hK hP (by decide))) rfl rfl hl.1 rfl (lv_room (Nat.le_of_ble_eq_true rfl)) de_M_interrupt_83 ⟨Nat.zero_le _, Nat.zero_le _⟩) hS (fun H locs hP hS => ?_)
            refine lv_iconst (v := 1) hx hb de_M_interrupt_86 (by decide) ?_
            have h := Option.some.inj h
            subst h
            exact W.zret (v := 1) hx hb hr rfl (fun t ht hW => ⟨⟨_, _, rfl, ⟨rfl, rfl⟩, by rw [ht]; exact hP, va_K.moved hW.alike hK⟩, hS.F ht⟩) hS.2.2 de_M_interrupt_87 hlocks
      · have h := ie_f h hc
        refine lv_iconst (v := 0) hx hb de_M_interrupt_28 (by decide) ?_
        have h := Option.some.inj h
        subst h
        exact W.zret (v := 0) hx hb hr rfl (fun t ht hW => ⟨⟨_, _, rfl, ⟨rfl, rfl⟩, by rw [ht]; exact hP, va_K.moved hW.alike hK⟩, hS.F ht⟩) hS.2.2 de_M_interrupt_29 hlocks
set_option maxHeartbeats 4000000 in
set_option maxRecDepth 100000 in
theorem w_M_preempt_6 {p : Program} {l : Launch} {e : Env} {s : State} {m : MethodId} {args : Array Value} {below : List Frame} {meth : Method} {c : Code} {Q : State → Prop} {D : va_G} {aa : Nat → Nat → Nat} {q : Nat → ClassId} (hJ : wJ mC aa) (S : CallFix p m c bc_M_preempt 7 s args lw_g bR_M) (hlocks : meth.locks = false) (hK : va_K D mCl (mT q) s) : ∀ (n : Nat) (σ : kS) (x1 : Int32) (x2 : Int32) (x3 : Int32) (x4 : Int32) (x5 : Int32) (ex : kS × Int32 × Int32) (H : Heap) (locs : List Loc) (ls : Array Slot), lv_has ls 7 [(0, .ref (aa 0 0)), (1, .int x1), (2, .int x2), (3, .int x3), (4, .int x4), (5, .int x5)] → va_P D mCl (mW aa q σ) H → va_S (wA mC aa) s.heap H locs → F_M_preempt_6 n σ x1 x2 x3 x4 x5 = some ex → (∀ (H1 : Heap) (locs1 : List Loc) (ls1 : Array Slot), lv_has ls1 7 [(0, .ref (aa 0 0)), (1, .int x1), (2, .int x2), (3, .int x3), (4, .int ex.2.1), (5, .int ex.2.2)] → va_P D mCl (mW aa q ex.1) H1 → va_S (wA mC aa) s.heap H1 locs1 → W p l e brm_M_preempt s m args below meth c H1 locs1 0 0 Q (F0 m 65 ls1 [])) → W p l e brm_M_preempt s m args below meth c H locs 0 0 Q (F0 m 6 ls []) := by
  obtain ⟨hx, hb, hml, hown, hts⟩ := id S
  have ht := hts
  intro n
  induction n with
  | zero => intro σ x1 x2 x3 x4 x5 ex H locs ls hl hP hS h k; cases (show (none : Option (kS × Int32 × Int32)) = some ex from h)
  | succ n ih =>
    intro σ x1 x2 x3 x4 x5 ex H locs ls hl hP hS h k
    unfold F_M_preempt_6 at h
    refine lv_iload hx hb de_M_preempt_6 (lv_at hl 5 rfl) ?_
    refine lv_bipush (v := 12) hx hb de_M_preempt_8 (by decide) ?_
    refine lv_icmp_ge (tgt := 65) hx hb de_M_preempt_10 (by decide) (fun hc => ?_) (fun hc => ?_)
    · have h := ie_t h hc
      have h := Option.some.inj h
      subst h
      exact k _ _ _ (lv_sub hl [0, 1, 2, 3, 4, 5] rfl) hP hS
    · have h := ie_f h hc
      refine lv_aload_n hx hb de_M_preempt_13 rfl (lv_at hl 0 rfl) ?_
      refine lv_iload_n hx hb de_M_preempt_14 rfl (lv_at hl 2 rfl) ?_
      obtain ⟨r1, hr1, h⟩ := bd_some h
      refine mq_i (va_runV (As := [.int x2]) (rest := []) S (c_M_rest l D aa q hJ σ x2 r1 hr1) (cwV 1 ht (gv_in tw_3_100 tw_3_102 ts_M_rest tw_1_7 tc_M_rest) rfl rfl rfl bh_M_rest ⟨Nat.le_of_ble_eq_true rfl, Nat.le_of_ble_eq_true rfl⟩) (mpreV hK hP (mr_0 hK hP (by decide))) rfl rfl hl.1 rfl (lv_room (Nat.le_of_ble_eq_true rfl)) de_M_preempt_15 ⟨Nat.zero_le _, Nat.zero_le _⟩) hS (fun H locs hP hS => ?_)
      refine lv_iload_n hx hb de_M_preempt_18 rfl (lv_at hl 3 rfl) ?_
      refine lv_icmp_ge (tgt := 65) hx hb de_M_preempt_19 (by decide) (fun hc => ?_) (fun hc => ?_)
      · have h := ie_t h hc
        have h := Option.some.inj h
        subst h
        exact k _ _ _ (lv_sub hl [0, 1, 2, 3, 4, 5] rfl) hP hS
      · have h := ie_f h hc
        refine lv_aload_n hx hb de_M_preempt_22 rfl (lv_at hl 0 rfl) ?_
        refine lv_iload_n hx hb de_M_preempt_23 rfl (lv_at hl 1 rfl) ?_
        refine lv_iload_n hx hb de_M_preempt_24 rfl (lv_at hl 2 rfl) ?_
        obtain ⟨r2, hr2, h⟩ := bd_some h
        refine mq_i (va_runV (As := [.int x1, .int x2]) (rest := []) S (c_M_victim l D aa q hJ σ x1 x2 r2 hr2) (cwV 2 ht (gv_in tw_3_153 tw_3_155 ts_M_victim tw_1_7 tc_M_victim) rfl rfl rfl bh_M_victim ⟨Nat.le_of_ble_eq_true rfl, Nat.le_of_ble_eq_true rfl⟩) (mpreV hK hP (mr_0 hK hP (by decide))) rfl rfl hl.1 rfl (lv_room (Nat.le_of_ble_eq_true rfl)) de_M_preempt_25 ⟨Nat.zero_le _, Nat.zero_le _⟩) hS (fun H locs hP hS => ?_)
        refine lv_istore (lv' := [(6, .int r2), (0, .ref (aa 0 0)), (1, .int x1), (2, .int x2), (3, .int x3), (4, .int x4), (5, .int x5)]) hx hb de_M_preempt_28 hl (by decide) rfl (fun ls hl => ?_)
        refine lv_iload hx hb de_M_preempt_30 (lv_at hl 0 rfl) ?_
        refine lv_if_lt (tgt := 59) hx hb de_M_preempt_32 (by decide) (fun hc => ?_) (fun hc => ?_)
        · have h := ie_t h hc
          refine lv_iinc (k := 6) (v := x5 + 1) (lv' := [(5, .int (x5 + 1)), (6, .int r2), (0, .ref (aa 0 0)), (1, .int x1), (2, .int x2), (3, .int x3), (4, .int x4)]) hx hb de_M_preempt_59 hl rfl (ii_p1 _) (by decide) rfl (fun ls hl => ?_)
          refine lv_goto (tgt := 6) hx hb de_M_preempt_62 (by decide) ?_
          exact ih σ x1 x2 x3 x4 (x5 + 1) ex _ _ _ (lv_sub hl [2, 3, 4, 5, 6, 0] rfl) hP hS h k
        · have h := ie_f h hc
          refine lv_aload_n hx hb de_M_preempt_35 rfl (lv_at hl 1 rfl) ?_
          refine mg_0 (v := .ref (aa 14 0)) hx hb ht hown hK hP (by decide) 18 (by decide) tw_2_233 rfl de_M_preempt_36 ?_
          refine lv_iconst (v := 4) hx hb de_M_preempt_39 (by decide) ?_
          refine lv_iload hx hb de_M_preempt_40 (lv_at hl 0 rfl) ?_
          refine lv_imul hx hb de_M_preempt_42 ?_
          refine lv_iload_n hx hb de_M_preempt_43 rfl (lv_at hl 3 rfl) ?_
          refine lv_iadd hx hb de_M_preempt_44 ?_
          refine lv_iconst (v := 0) hx hb de_M_preempt_45 (by decide) ?_
          obtain ⟨hi3, h⟩ := gd_some h
          refine mt_14 hx hb hK hP hJ hS (by decide) (inb_in hi3) de_M_preempt_46 (fun H locs hP hS => ?_)
          obtain ⟨σ4, eσ4, h⟩ := lx_ex h
          rw [← eσ4] at hP
          refine lv_aload_n hx hb de_M_preempt_47 rfl (lv_at hl 1 rfl) ?_
          refine mg_0 (v := .ref (aa 21 0)) hx hb ht hown hK hP (by decide) 25 (by decide) tw_3_0 rfl de_M_preempt_48 ?_
          refine lv_iload hx hb de_M_preempt_51 (lv_at hl 5 rfl) ?_
          refine lv_iload hx hb de_M_preempt_53 (lv_at hl 0 rfl) ?_
          obtain ⟨hi5, h⟩ := gd_some h
          refine mt_21 hx hb hK hP hJ hS (by decide) (inb_in hi5) de_M_preempt_55 (fun H locs hP hS => ?_)
          obtain ⟨σ6, eσ6, h⟩ := lx_ex h
          rw [← eσ6] at hP
          refine lv_iinc (k := 5) (v := x4 + 1) (lv' := [(4, .int (x4 + 1)), (6, .int r2), (0, .ref (aa 0 0)), (1, .int x1), (2, .int x2), (3, .int x3), (5, .int x5)]) hx hb de_M_preempt_56 hl rfl (ii_p1 _) (by decide) rfl (fun ls hl => ?_)
          refine lv_iinc (k := 6) (v := x5 + 1) (lv' := [(5, .int (x5 + 1)), (4, .int (x4 + 1)), (6, .int r2), (0, .ref (aa 0 0)), (1, .int x1), (2, .int x2), (3, .int x3)]) hx hb de_M_preempt_59 hl rfl (ii_p1 _) (by decide) rfl (fun ls hl => ?_)
          refine lv_goto (tgt := 6) hx hb de_M_preempt_62 (by decide) ?_
          exact ih σ6 x1 x2 x3 (x4 + 1) (x5 + 1) ex _ _ _ (lv_sub hl [3, 4, 5, 6, 1, 0] rfl) hP hS h k
set_option maxHeartbeats 4000000 in
set_option maxRecDepth 100000 in
theorem w_M_preempt_82 {p : Program} {l : Launch} {e : Env} {s : State} {m : MethodId} {args : Array Value} {below : List Frame} {meth : Method} {c : Code} {Q : State → Prop} {D : va_G} {aa : Nat → Nat → Nat} {q : Nat → ClassId} (hJ : wJ mC aa) (S : CallFix p m c bc_M_preempt 7 s args lw_g bR_M) (hlocks : meth.locks = false) (hK : va_K D mCl (mT q) s) : ∀ (n : Nat) (σ : kS) (x2 : Int32) (x4 : Int32) (x5 : Int32) (ex : kS × Int32) (H : Heap) (locs : List Loc) (ls : Array Slot), lv_has ls 7 [(0, .ref (aa 0 0)), (2, .int x2), (4, .int x4), (5, .int x5)] → va_P D mCl (mW aa q σ) H → va_S (wA mC aa) s.heap H locs → F_M_preempt_82 n σ x2 x4 x5 = some ex → (∀ (H1 : Heap) (locs1 : List Loc) (ls1 : Array Slot), lv_has ls1 7 [(0, .ref (aa 0 0)), (2, .int x2), (4, .int x4), (5, .int ex.2)] → va_P D mCl (mW aa q ex.1) H1 → va_S (wA mC aa) s.heap H1 locs1 → W p l e brm_M_preempt s m args below meth c H1 locs1 0 0 Q (F0 m 107 ls1 [])) → W p l e brm_M_preempt s m args below meth c H locs 0 0 Q (F0 m 82 ls []) := by
  obtain ⟨hx, hb, hml, hown, hts⟩ := id S
  have ht := hts
  intro n
  induction n with
  | zero => intro σ x2 x4 x5 ex H locs ls hl hP hS h k; cases (show (none : Option (kS × Int32)) = some ex from h)
  | succ n ih =>
    intro σ x2 x4 x5 ex H locs ls hl hP hS h k
    unfold F_M_preempt_82 at h
    refine lv_iload hx hb de_M_preempt_82 (lv_at hl 3 rfl) ?_
    refine lv_iload hx hb de_M_preempt_84 (lv_at hl 2 rfl) ?_
    refine lv_icmp_ge (tgt := 107) hx hb de_M_preempt_86 (by decide) (fun hc => ?_) (fun hc => ?_)
    · have h := ie_t h hc
      have h := Option.some.inj h
      subst h
      exact k _ _ _ (lv_sub hl [0, 1, 2, 3] rfl) hP hS
    · have h := ie_f h hc
      refine lv_aload_n hx hb de_M_preempt_89 rfl (lv_at hl 0 rfl) ?_
      refine lv_aload_n hx hb de_M_preempt_90 rfl (lv_at hl 0 rfl) ?_
      refine mg_0 (v := .ref (aa 21 0)) hx hb ht hown hK hP (by decide) 25 (by decide) tw_3_0 rfl de_M_preempt_91 ?_
      refine lv_iload hx hb de_M_preempt_94 (lv_at hl 3 rfl) ?_
      obtain ⟨hi1, h⟩ := gd_some h
      refine ml_21 hx hb hK hP (by decide) (inb_in hi1) de_M_preempt_96 ?_
      obtain ⟨r2, hr2, h⟩ := bd_some h
      refine mq_i (va_runV (As := [.int (gI σ 21 0 x5.toNatClampNeg)]) (rest := []) S (c_M_interrupt l D aa q hJ σ (gI σ 21 0 x5.toNatClampNeg) r2 hr2) (cwV 1 ht (gv_in tw_3_157 tw_3_158 tw_3_159 tw_1_7 tc_M_interrupt) rfl rfl rfl bh_M_interrupt ⟨Nat.le_of_ble_eq_true rfl, Nat.le_of_ble_eq_true rfl⟩) (mpreV hK hP (mr_0 hK hP (by decide))) rfl rfl hl.1 rfl (lv_room (Nat.le_of_ble_eq_true rfl)) de_M_preempt_97 ⟨Nat.zero_le _, Nat.zero_le _⟩) hS (fun H locs hP hS => ?_)
      refine lv_pop hx hb de_M_preempt_100 rfl ?_
      refine lv_iinc (k := 3) (v := x5 + 1) (lv' := [(5, .int (x5 + 1)), (0, .ref (aa 0 0)), (2, .int x2), (4, .int x4)]) hx hb de_M_preempt_101 hl rfl (ii_p1 _) (by decide) rfl (fun ls hl => ?_)
      refine lv_goto (tgt := 82) hx hb de_M_preempt_104 (by decide) ?_
      exact ih r2.2 x2 x4 (x5 + 1) ex _ _ _ (lv_sub hl [1, 2, 3, 0] rfl) hP hS h k
set_option maxHeartbeats 4000000 in
set_option maxRecDepth 100000 in
theorem c_M_preempt (l : Launch) (D : va_G) (aa : Nat → Nat → Nat) (q : Nat → ClassId) (hJ : wJ mC aa) (σ : kS) (x1 : Int32) (x2 : Int32) (x3 : Int32) (res : kS) (h : F_M_preempt σ x1 x2 x3 = some res) : Met l by_M_preempt (.code by_M_preempt bc_M_preempt 7 none :: lw_g) brm_M_preempt (va_Pc [.ref (aa 0 0), .int x1, .int x2, .int x3] (mPre D aa q σ)) (va_Qv (fun u : kS => u = res) (mB D aa q) (wA mC aa)) 0 0 (wA mC aa) := by
  refine Met.ofW (cc := bc_M_preempt) (maxL := 7) (ret := none) (by decide) rfl ?_
  intro p e s m args below meth c s₁ B hml hv
  obtain ⟨rfl, hP, hK⟩ := hv
  have hx := B.exec
  have hb := B.bytes
  have hr := B.returns
  have ht : ∀ w ∈ lw_g, w.before ([.ref (aa 0 0), .int x1, .int x2, .int x3] : List Value).toArray s = true := fun w h => atoms_spec (ws := .code by_M_preempt bc_M_preempt 7 none :: lw_g) B.pre w (List.mem_cons_of_mem _ h)
  have hown : s.vm.findClass bR_M = some m.cls := findClass_of_methodNamed B.named
  have hlocks := B.notSynchronized
  have S : CallFix p m c bc_M_preempt 7 s ([.ref (aa 0 0), .int x1, .int x2, .int x3] : List Value).toArray lw_g bR_M := ⟨hx, hb, hml, hown, ht⟩
  have hS : va_S (wA mC aa) s.heap s.heap [] := va_S.rf
  have hl := lv_entry ([.ref (aa 0 0), .int x1, .int x2, .int x3]) (n := 7) (Nat.le_of_ble_eq_true rfl)
  rw [lg_entry_eq]
  generalize (lg_sl ([.ref (aa 0 0), .int x1, .int x2, .int x3]) ++ List.replicate (7 - (lg_sl ([.ref (aa 0 0), .int x1, .int x2, .int x3])).length) Slot.unset).toArray = ls at hl ⊢
  have hl : lv_has ls 7 [(0, .ref (aa 0 0)), (1, .int x1), (2, .int x2), (3, .int x3)] := hl
  unfold F_M_preempt at h
  refine lv_iconst (v := 0) hx hb de_M_preempt_0 (by decide) ?_
  refine lv_istore (lv' := [(4, .int 0), (0, .ref (aa 0 0)), (1, .int x1), (2, .int x2), (3, .int x3)]) hx hb de_M_preempt_1 hl (by decide) rfl (fun ls hl => ?_)
  refine lv_iconst (v := 0) hx hb de_M_preempt_3 (by decide) ?_
  refine lv_istore (lv' := [(5, .int 0), (4, .int 0), (0, .ref (aa 0 0)), (1, .int x1), (2, .int x2), (3, .int x3)]) hx hb de_M_preempt_4 hl (by decide) rfl (fun ls hl => ?_)
  obtain ⟨ex1, hex1, h⟩ := bd_some h
  refine w_M_preempt_6 hJ S hlocks hK 1000 σ x1 x2 x3 0 0 ex1 _ _ _ (lv_sub hl [2, 3, 4, 5, 1, 0] rfl) hP hS hex1 (fun H locs ls hl hP hS => ?_)
  refine lv_aload_n hx hb de_M_preempt_65 rfl (lv_at hl 0 rfl) ?_
  refine mg_0 (v := .ref (aa 14 0)) hx hb ht hown hK hP (by decide) 18 (by decide) tw_2_233 rfl de_M_preempt_66 ?_
  refine lv_iconst (v := 4) hx hb de_M_preempt_69 (by decide) ?_
  refine lv_iload_n hx hb de_M_preempt_70 rfl (lv_at hl 1 rfl) ?_
  refine lv_imul hx hb de_M_preempt_71 ?_
  refine lv_iload_n hx hb de_M_preempt_72 rfl (lv_at hl 2 rfl) ?_
  refine lv_iadd hx hb de_M_preempt_73 ?_
  refine lv_dup2_11 hx hb de_M_preempt_74 rfl rfl ?_
  obtain ⟨hi2, h⟩ := gd_some h
  refine ml_14 hx hb hK hP (by decide) (inb_in hi2) de_M_preempt_75 ?_
  refine lv_iload_n hx hb de_M_preempt_76 rfl (lv_at hl 3 rfl) ?_
  refine lv_iadd hx hb de_M_preempt_77 ?_
  obtain ⟨hi3, h⟩ := gd_some h
  refine mt_14 hx hb hK hP hJ hS (by decide) (inb_in hi3) de_M_preempt_78 (fun H locs hP hS => ?_)
  obtain ⟨σ4, eσ4, h⟩ := lx_ex h
  rw [← eσ4] at hP
  refine lv_iconst (v := 0) hx hb de_M_preempt_79 (by decide) ?_
  refine lv_istore (lv' := [(5, .int 0), (0, .ref (aa 0 0)), (1, .int x1), (2, .int x2), (3, .int x3), (4, .int ex1.2.1)]) hx hb de_M_preempt_80 hl (by decide) rfl (fun ls hl => ?_)
  obtain ⟨ex5, hex5, h⟩ := bd_some h
  refine w_M_preempt_82 hJ S hlocks hK 1000 σ4 x2 ex1.2.1 0 ex5 _ _ _ (lv_sub hl [1, 3, 5, 0] rfl) hP hS hex5 (fun H locs ls hl hP hS => ?_)
  refine lv_aload_n hx hb de_M_preempt_107 rfl (lv_at hl 0 rfl) ?_
  refine lv_iload_n hx hb de_M_preempt_108 rfl (lv_at hl 1 rfl) ?_
  obtain ⟨r6, hr6, h⟩ := bd_some h
  refine mq_v (va_runV (As := [.int x2]) (rest := []) S (c_M_serve l D aa q hJ ex5.1 x2 r6 hr6) (cwV 1 ht (gv_in tw_3_88 tw_3_90 ts_M_serve tw_1_7 tc_M_serve) rfl rfl rfl bh_M_serve ⟨Nat.le_of_ble_eq_true rfl, Nat.le_of_ble_eq_true rfl⟩) (mpreV hK hP (mr_0 hK hP (by decide))) rfl rfl hl.1 rfl (lv_room (Nat.le_of_ble_eq_true rfl)) de_M_preempt_109 ⟨Nat.zero_le _, Nat.zero_le _⟩) hS (fun H locs hP hS => ?_)
  have h := Option.some.inj h
  subst h
  exact W.vret hx hb hr (fun t ht hW => ⟨⟨_, rfl, rfl, by rw [ht]; exact hP, va_K.moved hW.alike hK⟩, hS.F ht⟩) hS.2.2 de_M_preempt_112 hlocks
set_option maxHeartbeats 4000000 in
set_option maxRecDepth 100000 in
theorem c_M_seize (l : Launch) (D : va_G) (aa : Nat → Nat → Nat) (q : Nat → ClassId) (hJ : wJ mC aa) (σ : kS) (x1 : Int32) (x2 : Int32) (x3 : Int32) (res : Int32 × kS) (h : F_M_seize σ x1 x2 x3 = some res) : Met l by_M_seize (.code by_M_seize bc_M_seize 6 (some .boolean) :: lw_g) brm_M_seize (va_Pc [.ref (aa 0 0), .int x1, .int x2, .int x3] (mPre D aa q σ)) (va_Qi (fun (r : Int32) (u : kS) => r = res.1 ∧ u = res.2) (mB D aa q) (wA mC aa)) 0 0 (wA mC aa) := by
  refine Met.ofW (cc := bc_M_seize) (maxL := 6) (ret := (some .boolean)) (by decide) rfl ?_
  intro p e s m args below meth c s₁ B hml hv
  obtain ⟨rfl, hP, hK⟩ := hv
  have hx := B.exec
  have hb := B.bytes
  have hr := B.returns
  have ht : ∀ w ∈ lw_g, w.before ([.ref (aa 0 0), .int x1, .int x2, .int x3] : List Value).toArray s = true := fun w h => atoms_spec (ws := .code by_M_seize bc_M_seize 6 (some .boolean) :: lw_g) B.pre w (List.mem_cons_of_mem _ h)
  have hown : s.vm.findClass bR_M = some m.cls := findClass_of_methodNamed B.named
  have hlocks := B.notSynchronized
  have S : CallFix p m c bc_M_seize 6 s ([.ref (aa 0 0), .int x1, .int x2, .int x3] : List Value).toArray lw_g bR_M := ⟨hx, hb, hml, hown, ht⟩
  have hS : va_S (wA mC aa) s.heap s.heap [] := va_S.rf
  have hl := lv_entry ([.ref (aa 0 0), .int x1, .int x2, .int x3]) (n := 6) (Nat.le_of_ble_eq_true rfl)
  rw [lg_entry_eq]
  generalize (lg_sl ([.ref (aa 0 0), .int x1, .int x2, .int x3]) ++ List.replicate (6 - (lg_sl ([.ref (aa 0 0), .int x1, .int x2, .int x3])).length) Slot.unset).toArray = ls at hl ⊢
  have hl : lv_has ls 6 [(0, .ref (aa 0 0)), (1, .int x1), (2, .int x2), (3, .int x3)] := hl
  unfold F_M_seize at h
  refine lv_aload_n hx hb de_M_seize_0 rfl (lv_at hl 0 rfl) ?_
  refine lv_iload_n hx hb de_M_seize_1 rfl (lv_at hl 2 rfl) ?_
  obtain ⟨r1, hr1, h⟩ := bd_some h
  refine mq_i (va_runV (As := [.int x2]) (rest := []) S (c_M_head l D aa q hJ σ x2 r1 hr1) (cwV 1 ht (gv_in tw_3_92 tw_3_94 ts_M_head tw_1_7 tc_M_head) rfl rfl rfl bh_M_head ⟨Nat.le_of_ble_eq_true rfl, Nat.le_of_ble_eq_true rfl⟩) (mpreV hK hP (mr_0 hK hP (by decide))) rfl rfl hl.1 rfl (lv_room (Nat.le_of_ble_eq_true rfl)) de_M_seize_2 ⟨Nat.zero_le _, Nat.zero_le _⟩) hS (fun H locs hP hS => ?_)
  refine lv_istore (lv' := [(4, .int r1), (0, .ref (aa 0 0)), (1, .int x1), (2, .int x2), (3, .int x3)]) hx hb de_M_seize_5 hl (by decide) rfl (fun ls hl => ?_)
  refine lv_iload hx hb de_M_seize_7 (lv_at hl 0 rfl) ?_
  refine lv_if_lt (tgt := 28) hx hb de_M_seize_9 (by decide) (fun hc => ?_) (fun hc => ?_)
  · have h := ie_t h hc
    refine lv_iconst (v := 1) hx hb de_M_seize_28 (by decide) ?_
    refine lv_goto (tgt := 33) hx hb de_M_seize_29 (by decide) ?_
    refine lv_istore (lv' := [(5, .int 1), (4, .int r1), (0, .ref (aa 0 0)), (1, .int x1), (2, .int x2), (3, .int x3)]) hx hb de_M_seize_33 hl (by decide) rfl (fun ls hl => ?_)
    refine lv_iload hx hb de_M_seize_35 (lv_at hl 0 rfl) ?_
    refine lv_if_eq (tgt := 65) hx hb de_M_seize_37 (by decide) (fun hc => ?_) (fun hc => ?_)
    · exact absurd hc (by decide)
    · refine lv_aload_n hx hb de_M_seize_40 rfl (lv_at hl 2 rfl) ?_
      refine lv_iload_n hx hb de_M_seize_41 rfl (lv_at hl 4 rfl) ?_
      obtain ⟨r2, hr2, h⟩ := bd_some h
      refine mq_i (va_runV (As := [.int x2]) (rest := []) S (c_M_rest l D aa q hJ σ x2 r2 hr2) (cwV 1 ht (gv_in tw_3_100 tw_3_102 ts_M_rest tw_1_7 tc_M_rest) rfl rfl rfl bh_M_rest ⟨Nat.le_of_ble_eq_true rfl, Nat.le_of_ble_eq_true rfl⟩) (mpreV hK hP (mr_0 hK hP (by decide))) rfl rfl hl.1 rfl (lv_room (Nat.le_of_ble_eq_true rfl)) de_M_seize_42 ⟨Nat.zero_le _, Nat.zero_le _⟩) hS (fun H locs hP hS => ?_)
      refine lv_iload_n hx hb de_M_seize_45 rfl (lv_at hl 5 rfl) ?_
      refine lv_icmp_lt (tgt := 65) hx hb de_M_seize_46 (by decide) (fun hc => ?_) (fun hc => ?_)
      · have h := ie_t h hc
        refine lv_iload hx hb de_M_seize_65 (lv_at hl 0 rfl) ?_
        refine lv_if_eq (tgt := 98) hx hb de_M_seize_67 (by decide) (fun hc => ?_) (fun hc => ?_)
        · exact absurd hc (by decide)
        · refine lv_aload_n hx hb de_M_seize_70 rfl (lv_at hl 2 rfl) ?_
          refine mg_0 (v := .ref (aa 16 0)) hx hb ht hown hK hP (by decide) 20 (by decide) tw_2_235 rfl de_M_seize_71 ?_
          refine lv_iload_n hx hb de_M_seize_74 rfl (lv_at hl 4 rfl) ?_
          obtain ⟨hi3, h⟩ := gd_some h
          refine ml_16 hx hb hK hP (by decide) (inb_in hi3) de_M_seize_75 ?_
          refine lv_if_eq (tgt := 98) hx hb de_M_seize_76 (by decide) (fun hc => ?_) (fun hc => ?_)
          · have h := ie_t h hc
            refine lv_aload_n hx hb de_M_seize_98 rfl (lv_at hl 2 rfl) ?_
            refine mg_0 (v := .ref (aa 6 0)) hx hb ht hown hK hP (by decide) 10 (by decide) tw_2_225 rfl de_M_seize_99 ?_
            refine lv_iload_n hx hb de_M_seize_102 rfl (lv_at hl 3 rfl) ?_
            refine lv_iconst (v := 4) hx hb de_M_seize_103 (by decide) ?_
            obtain ⟨hi4, h⟩ := gd_some h
            refine mt_6 hx hb hK hP hJ hS (by decide) (inb_in hi4) de_M_seize_104 (fun H locs hP hS => ?_)
            obtain ⟨σ5, eσ5, h⟩ := lx_ex h
            rw [← eσ5] at hP
            refine lv_aload_n hx hb de_M_seize_105 rfl (lv_at hl 2 rfl) ?_
            refine mg_0 (v := .ref (aa 9 0)) hx hb ht hown hK hP (by decide) 13 (by decide) tw_2_228 rfl de_M_seize_106 ?_
            refine lv_iload_n hx hb de_M_seize_109 rfl (lv_at hl 3 rfl) ?_
            refine lv_aload_n hx hb de_M_seize_110 rfl (lv_at hl 2 rfl) ?_
            refine mg_0 (v := .int (gI σ5 32 0 0)) hx hb ht hown hK hP (by decide) 2 (by decide) tw_2_217 rfl de_M_seize_111 ?_
            obtain ⟨hi6, h⟩ := gd_some h
            refine mt_9 hx hb hK hP hJ hS (by decide) (inb_in hi6) de_M_seize_114 (fun H locs hP hS => ?_)
            obtain ⟨σ7, eσ7, h⟩ := lx_ex h
            rw [← eσ7] at hP
            refine lv_aload_n hx hb de_M_seize_115 rfl (lv_at hl 2 rfl) ?_
            refine lv_dup hx hb de_M_seize_116 rfl ?_
            refine mg_0 (v := .int (gI σ7 32 0 0)) hx hb ht hown hK hP (by decide) 2 (by decide) tw_2_217 rfl de_M_seize_117 ?_
            refine lv_iconst (v := 1) hx hb de_M_seize_120 (by decide) ?_
            refine lv_iadd hx hb de_M_seize_121 ?_
            refine mp_0_coming hx hb ht hown hK hP hJ hS (by decide) tw_2_217 de_M_seize_122 (fun H locs hP hS => ?_)
            obtain ⟨σ8, eσ8, h⟩ := lx_ex h
            rw [← eσ8] at hP
            refine lv_aload_n hx hb de_M_seize_125 rfl (lv_at hl 2 rfl) ?_
            refine mg_0 (v := .ref (aa 10 0)) hx hb ht hown hK hP (by decide) 14 (by decide) tw_2_229 rfl de_M_seize_126 ?_
            refine lv_iload_n hx hb de_M_seize_129 rfl (lv_at hl 3 rfl) ?_
            refine lv_aload_n hx hb de_M_seize_130 rfl (lv_at hl 2 rfl) ?_
            refine mg_0 (v := .long (gL σ8 0 0 0)) hx hb ht hown hK hP (by decide) 4 (by decide) tw_2_219 rfl de_M_seize_131 ?_
            obtain ⟨hi9, h⟩ := gd_some h
            refine mt_10 hx hb hK hP hJ hS (by decide) (inb_in hi9) de_M_seize_134 (fun H locs hP hS => ?_)
            obtain ⟨σ10, eσ10, h⟩ := lx_ex h
            rw [← eσ10] at hP
            refine lv_iconst (v := 0) hx hb de_M_seize_135 (by decide) ?_
            have h := Option.some.inj h
            subst h
            exact W.zret (v := 0) hx hb hr rfl (fun t ht hW => ⟨⟨_, _, rfl, ⟨rfl, rfl⟩, by rw [ht]; exact hP, va_K.moved hW.alike hK⟩, hS.F ht⟩) hS.2.2 de_M_seize_136 hlocks
          · have h := ie_f h hc
            refine lv_aload_n hx hb de_M_seize_79 rfl (lv_at hl 2 rfl) ?_
            refine lv_iload_n hx hb de_M_seize_80 rfl (lv_at hl 3 rfl) ?_
            refine lv_iload_n hx hb de_M_seize_81 rfl (lv_at hl 4 rfl) ?_
            obtain ⟨r11, hr11, h⟩ := bd_some h
            refine mq_i (va_runV (As := [.int x1, .int x2]) (rest := []) S (c_M_reach l D aa q hJ σ x1 x2 r11 hr11) (cwV 2 ht (gv_in tw_3_145 tw_3_147 ts_M_reach tw_1_7 tc_M_reach) rfl rfl rfl bh_M_reach ⟨Nat.le_of_ble_eq_true rfl, Nat.le_of_ble_eq_true rfl⟩) (mpreV hK hP (mr_0 hK hP (by decide))) rfl rfl hl.1 rfl (lv_room (Nat.le_of_ble_eq_true rfl)) de_M_seize_82 ⟨Nat.zero_le _, Nat.zero_le _⟩) hS (fun H locs hP hS => ?_)
            refine lv_iload_n hx hb de_M_seize_85 rfl (lv_at hl 5 rfl) ?_
            refine lv_icmp_lt (tgt := 98) hx hb de_M_seize_86 (by decide) (fun hc => ?_) (fun hc => ?_)
            · have h := ie_t h hc
              refine lv_aload_n hx hb de_M_seize_98 rfl (lv_at hl 2 rfl) ?_
              refine mg_0 (v := .ref (aa 6 0)) hx hb ht hown hK hP (by decide) 10 (by decide) tw_2_225 rfl de_M_seize_99 ?_
              refine lv_iload_n hx hb de_M_seize_102 rfl (lv_at hl 3 rfl) ?_
              refine lv_iconst (v := 4) hx hb de_M_seize_103 (by decide) ?_
              obtain ⟨hi12, h⟩ := gd_some h
              refine mt_6 hx hb hK hP hJ hS (by decide) (inb_in hi12) de_M_seize_104 (fun H locs hP hS => ?_)
              obtain ⟨σ13, eσ13, h⟩ := lx_ex h
              rw [← eσ13] at hP
              refine lv_aload_n hx hb de_M_seize_105 rfl (lv_at hl 2 rfl) ?_
              refine mg_0 (v := .ref (aa 9 0)) hx hb ht hown hK hP (by decide) 13 (by decide) tw_2_228 rfl de_M_seize_106 ?_
              refine lv_iload_n hx hb de_M_seize_109 rfl (lv_at hl 3 rfl) ?_
              refine lv_aload_n hx hb de_M_seize_110 rfl (lv_at hl 2 rfl) ?_
              refine mg_0 (v := .int (gI σ13 32 0 0)) hx hb ht hown hK hP (by decide) 2 (by decide) tw_2_217 rfl de_M_seize_111 ?_
              obtain ⟨hi14, h⟩ := gd_some h
              refine mt_9 hx hb hK hP hJ hS (by decide) (inb_in hi14) de_M_seize_114 (fun H locs hP hS => ?_)
              obtain ⟨σ15, eσ15, h⟩ := lx_ex h
              rw [← eσ15] at hP
              refine lv_aload_n hx hb de_M_seize_115 rfl (lv_at hl 2 rfl) ?_
              refine lv_dup hx hb de_M_seize_116 rfl ?_
              refine mg_0 (v := .int (gI σ15 32 0 0)) hx hb ht hown hK hP (by decide) 2 (by decide) tw_2_217 rfl de_M_seize_117 ?_
              refine lv_iconst (v := 1) hx hb de_M_seize_120 (by decide) ?_
              refine lv_iadd hx hb de_M_seize_121 ?_
              refine mp_0_coming hx hb ht hown hK hP hJ hS (by decide) tw_2_217 de_M_seize_122 (fun H locs hP hS => ?_)
              obtain ⟨σ16, eσ16, h⟩ := lx_ex h
              rw [← eσ16] at hP
              refine lv_aload_n hx hb de_M_seize_125 rfl (lv_at hl 2 rfl) ?_
              refine mg_0 (v := .ref (aa 10 0)) hx hb ht hown hK hP (by decide) 14 (by decide) tw_2_229 rfl de_M_seize_126 ?_
              refine lv_iload_n hx hb de_M_seize_129 rfl (lv_at hl 3 rfl) ?_
              refine lv_aload_n hx hb de_M_seize_130 rfl (lv_at hl 2 rfl) ?_
              refine mg_0 (v := .long (gL σ16 0 0 0)) hx hb ht hown hK hP (by decide) 4 (by decide) tw_2_219 rfl de_M_seize_131 ?_
              obtain ⟨hi17, h⟩ := gd_some h
              refine mt_10 hx hb hK hP hJ hS (by decide) (inb_in hi17) de_M_seize_134 (fun H locs hP hS => ?_)
              obtain ⟨σ18, eσ18, h⟩ := lx_ex h
              rw [← eσ18] at hP
              refine lv_iconst (v := 0) hx hb de_M_seize_135 (by decide) ?_
              have h := Option.some.inj h
              subst h
              exact W.zret (v := 0) hx hb hr rfl (fun t ht hW => ⟨⟨_, _, rfl, ⟨rfl, rfl⟩, by rw [ht]; exact hP, va_K.moved hW.alike hK⟩, hS.F ht⟩) hS.2.2 de_M_seize_136 hlocks
            · have h := ie_f h hc
              refine lv_aload_n hx hb de_M_seize_89 rfl (lv_at hl 2 rfl) ?_
              refine lv_iload_n hx hb de_M_seize_90 rfl (lv_at hl 3 rfl) ?_
              refine lv_iload_n hx hb de_M_seize_91 rfl (lv_at hl 4 rfl) ?_
              refine lv_iload_n hx hb de_M_seize_92 rfl (lv_at hl 5 rfl) ?_
              obtain ⟨r19, hr19, h⟩ := bd_some h
              refine mq_v (va_runV (As := [.int x1, .int x2, .int x3]) (rest := []) S (c_M_preempt l D aa q hJ σ x1 x2 x3 r19 hr19) (cwV 3 ht (gv_in tw_3_149 tw_3_151 ts_M_preempt tw_1_7 tc_M_preempt) rfl rfl rfl bh_M_preempt ⟨Nat.le_of_ble_eq_true rfl, Nat.le_of_ble_eq_true rfl⟩) (mpreV hK hP (mr_0 hK hP (by decide))) rfl rfl hl.1 rfl (lv_room (Nat.le_of_ble_eq_true rfl)) de_M_seize_93 ⟨Nat.zero_le _, Nat.zero_le _⟩) hS (fun H locs hP hS => ?_)
              refine lv_iconst (v := 1) hx hb de_M_seize_96 (by decide) ?_
              have h := Option.some.inj h
              subst h
              exact W.zret (v := 1) hx hb hr rfl (fun t ht hW => ⟨⟨_, _, rfl, ⟨rfl, rfl⟩, by rw [ht]; exact hP, va_K.moved hW.alike hK⟩, hS.F ht⟩) hS.2.2 de_M_seize_97 hlocks
      · have h := ie_f h hc
        refine lv_aload_n hx hb de_M_seize_49 rfl (lv_at hl 2 rfl) ?_
        refine mg_0 (v := .ref (aa 14 0)) hx hb ht hown hK hP (by decide) 18 (by decide) tw_2_233 rfl de_M_seize_50 ?_
        refine lv_iconst (v := 4) hx hb de_M_seize_53 (by decide) ?_
        refine lv_iload_n hx hb de_M_seize_54 rfl (lv_at hl 3 rfl) ?_
        refine lv_imul hx hb de_M_seize_55 ?_
        refine lv_iload_n hx hb de_M_seize_56 rfl (lv_at hl 4 rfl) ?_
        refine lv_iadd hx hb de_M_seize_57 ?_
        refine lv_dup2_11 hx hb de_M_seize_58 rfl rfl ?_
        obtain ⟨hi20, h⟩ := gd_some h
        refine ml_14 hx hb hK hP (by decide) (inb_in hi20) de_M_seize_59 ?_
        refine lv_iload_n hx hb de_M_seize_60 rfl (lv_at hl 5 rfl) ?_
        refine lv_iadd hx hb de_M_seize_61 ?_
        obtain ⟨hi21, h⟩ := gd_some h
        refine mt_14 hx hb hK hP hJ hS (by decide) (inb_in hi21) de_M_seize_62 (fun H locs hP hS => ?_)
        obtain ⟨σ22, eσ22, h⟩ := lx_ex h
        rw [← eσ22] at hP
        refine lv_iconst (v := 1) hx hb de_M_seize_63 (by decide) ?_
        have h := Option.some.inj h
        subst h
        exact W.zret (v := 1) hx hb hr rfl (fun t ht hW => ⟨⟨_, _, rfl, ⟨rfl, rfl⟩, by rw [ht]; exact hP, va_K.moved hW.alike hK⟩, hS.F ht⟩) hS.2.2 de_M_seize_64 hlocks
  · have h := ie_f h hc
    refine lv_aload_n hx hb de_M_seize_12 rfl (lv_at hl 1 rfl) ?_
    refine mg_0 (v := .ref (aa 1 0)) hx hb ht hown hK hP (by decide) 5 (by decide) tw_2_220 rfl de_M_seize_13 ?_
    refine lv_iload hx hb de_M_seize_16 (lv_at hl 0 rfl) ?_
    obtain ⟨hi23, h⟩ := gd_some h
    refine ml_1 hx hb hK hP (by decide) (inb_in hi23) de_M_seize_18 ?_
    refine lv_aload_n hx hb de_M_seize_19 rfl (lv_at hl 1 rfl) ?_
    refine mg_0 (v := .ref (aa 1 0)) hx hb ht hown hK hP (by decide) 5 (by decide) tw_2_220 rfl de_M_seize_20 ?_
    refine lv_iload_n hx hb de_M_seize_23 rfl (lv_at hl 2 rfl) ?_
    obtain ⟨hi24, h⟩ := gd_some h
    refine ml_1 hx hb hK hP (by decide) (inb_in hi24) de_M_seize_24 ?_
    refine lv_icmp_le (tgt := 32) hx hb de_M_seize_25 (by decide) (fun hc => ?_) (fun hc => ?_)
    · have h := ie_t h hc
      refine lv_iconst (v := 0) hx hb de_M_seize_32 (by decide) ?_
      refine lv_istore (lv' := [(5, .int 0), (4, .int r1), (0, .ref (aa 0 0)), (1, .int x1), (2, .int x2), (3, .int x3)]) hx hb de_M_seize_33 hl (by decide) rfl (fun ls hl => ?_)
      refine lv_iload hx hb de_M_seize_35 (lv_at hl 0 rfl) ?_
      refine lv_if_eq (tgt := 65) hx hb de_M_seize_37 (by decide) (fun hc => ?_) (fun hc => ?_)
      · refine lv_iload hx hb de_M_seize_65 (lv_at hl 0 rfl) ?_
        refine lv_if_eq (tgt := 98) hx hb de_M_seize_67 (by decide) (fun hc => ?_) (fun hc => ?_)
        · refine lv_aload_n hx hb de_M_seize_98 rfl (lv_at hl 2 rfl) ?_
          refine mg_0 (v := .ref (aa 6 0)) hx hb ht hown hK hP (by decide) 10 (by decide) tw_2_225 rfl de_M_seize_99 ?_
          refine lv_iload_n hx hb de_M_seize_102 rfl (lv_at hl 3 rfl) ?_
          refine lv_iconst (v := 4) hx hb de_M_seize_103 (by decide) ?_
          obtain ⟨hi25, h⟩ := gd_some h
          refine mt_6 hx hb hK hP hJ hS (by decide) (inb_in hi25) de_M_seize_104 (fun H locs hP hS => ?_)
          obtain ⟨σ26, eσ26, h⟩ := lx_ex h
          rw [← eσ26] at hP
          refine lv_aload_n hx hb de_M_seize_105 rfl (lv_at hl 2 rfl) ?_
          refine mg_0 (v := .ref (aa 9 0)) hx hb ht hown hK hP (by decide) 13 (by decide) tw_2_228 rfl de_M_seize_106 ?_
          refine lv_iload_n hx hb de_M_seize_109 rfl (lv_at hl 3 rfl) ?_
          refine lv_aload_n hx hb de_M_seize_110 rfl (lv_at hl 2 rfl) ?_
          refine mg_0 (v := .int (gI σ26 32 0 0)) hx hb ht hown hK hP (by decide) 2 (by decide) tw_2_217 rfl de_M_seize_111 ?_
          obtain ⟨hi27, h⟩ := gd_some h
          refine mt_9 hx hb hK hP hJ hS (by decide) (inb_in hi27) de_M_seize_114 (fun H locs hP hS => ?_)
          obtain ⟨σ28, eσ28, h⟩ := lx_ex h
          rw [← eσ28] at hP
          refine lv_aload_n hx hb de_M_seize_115 rfl (lv_at hl 2 rfl) ?_
          refine lv_dup hx hb de_M_seize_116 rfl ?_
          refine mg_0 (v := .int (gI σ28 32 0 0)) hx hb ht hown hK hP (by decide) 2 (by decide) tw_2_217 rfl de_M_seize_117 ?_
          refine lv_iconst (v := 1) hx hb de_M_seize_120 (by decide) ?_
          refine lv_iadd hx hb de_M_seize_121 ?_
          refine mp_0_coming hx hb ht hown hK hP hJ hS (by decide) tw_2_217 de_M_seize_122 (fun H locs hP hS => ?_)
          obtain ⟨σ29, eσ29, h⟩ := lx_ex h
          rw [← eσ29] at hP
          refine lv_aload_n hx hb de_M_seize_125 rfl (lv_at hl 2 rfl) ?_
          refine mg_0 (v := .ref (aa 10 0)) hx hb ht hown hK hP (by decide) 14 (by decide) tw_2_229 rfl de_M_seize_126 ?_
          refine lv_iload_n hx hb de_M_seize_129 rfl (lv_at hl 3 rfl) ?_
          refine lv_aload_n hx hb de_M_seize_130 rfl (lv_at hl 2 rfl) ?_
          refine mg_0 (v := .long (gL σ29 0 0 0)) hx hb ht hown hK hP (by decide) 4 (by decide) tw_2_219 rfl de_M_seize_131 ?_
          obtain ⟨hi30, h⟩ := gd_some h
          refine mt_10 hx hb hK hP hJ hS (by decide) (inb_in hi30) de_M_seize_134 (fun H locs hP hS => ?_)
          obtain ⟨σ31, eσ31, h⟩ := lx_ex h
          rw [← eσ31] at hP
          refine lv_iconst (v := 0) hx hb de_M_seize_135 (by decide) ?_
          have h := Option.some.inj h
          subst h
          exact W.zret (v := 0) hx hb hr rfl (fun t ht hW => ⟨⟨_, _, rfl, ⟨rfl, rfl⟩, by rw [ht]; exact hP, va_K.moved hW.alike hK⟩, hS.F ht⟩) hS.2.2 de_M_seize_136 hlocks
        · exact absurd (by decide) hc
      · exact absurd (by decide) hc
    · have h := ie_f h hc
      refine lv_iconst (v := 1) hx hb de_M_seize_28 (by decide) ?_
      refine lv_goto (tgt := 33) hx hb de_M_seize_29 (by decide) ?_
      refine lv_istore (lv' := [(5, .int 1), (4, .int r1), (0, .ref (aa 0 0)), (1, .int x1), (2, .int x2), (3, .int x3)]) hx hb de_M_seize_33 hl (by decide) rfl (fun ls hl => ?_)
      refine lv_iload hx hb de_M_seize_35 (lv_at hl 0 rfl) ?_
      refine lv_if_eq (tgt := 65) hx hb de_M_seize_37 (by decide) (fun hc => ?_) (fun hc => ?_)
      · exact absurd hc (by decide)
      · refine lv_aload_n hx hb de_M_seize_40 rfl (lv_at hl 2 rfl) ?_
        refine lv_iload_n hx hb de_M_seize_41 rfl (lv_at hl 4 rfl) ?_
        obtain ⟨r32, hr32, h⟩ := bd_some h
        refine mq_i (va_runV (As := [.int x2]) (rest := []) S (c_M_rest l D aa q hJ σ x2 r32 hr32) (cwV 1 ht (gv_in tw_3_100 tw_3_102 ts_M_rest tw_1_7 tc_M_rest) rfl rfl rfl bh_M_rest ⟨Nat.le_of_ble_eq_true rfl, Nat.le_of_ble_eq_true rfl⟩) (mpreV hK hP (mr_0 hK hP (by decide))) rfl rfl hl.1 rfl (lv_room (Nat.le_of_ble_eq_true rfl)) de_M_seize_42 ⟨Nat.zero_le _, Nat.zero_le _⟩) hS (fun H locs hP hS => ?_)
        refine lv_iload_n hx hb de_M_seize_45 rfl (lv_at hl 5 rfl) ?_
        refine lv_icmp_lt (tgt := 65) hx hb de_M_seize_46 (by decide) (fun hc => ?_) (fun hc => ?_)
        · have h := ie_t h hc
          refine lv_iload hx hb de_M_seize_65 (lv_at hl 0 rfl) ?_
          refine lv_if_eq (tgt := 98) hx hb de_M_seize_67 (by decide) (fun hc => ?_) (fun hc => ?_)
          · exact absurd hc (by decide)
          · refine lv_aload_n hx hb de_M_seize_70 rfl (lv_at hl 2 rfl) ?_
            refine mg_0 (v := .ref (aa 16 0)) hx hb ht hown hK hP (by decide) 20 (by decide) tw_2_235 rfl de_M_seize_71 ?_
            refine lv_iload_n hx hb de_M_seize_74 rfl (lv_at hl 4 rfl) ?_
            obtain ⟨hi33, h⟩ := gd_some h
            refine ml_16 hx hb hK hP (by decide) (inb_in hi33) de_M_seize_75 ?_
            refine lv_if_eq (tgt := 98) hx hb de_M_seize_76 (by decide) (fun hc => ?_) (fun hc => ?_)
            · have h := ie_t h hc
              refine lv_aload_n hx hb de_M_seize_98 rfl (lv_at hl 2 rfl) ?_
              refine mg_0 (v := .ref (aa 6 0)) hx hb ht hown hK hP (by decide) 10 (by decide) tw_2_225 rfl de_M_seize_99 ?_
              refine lv_iload_n hx hb de_M_seize_102 rfl (lv_at hl 3 rfl) ?_
              refine lv_iconst (v := 4) hx hb de_M_seize_103 (by decide) ?_
              obtain ⟨hi34, h⟩ := gd_some h
              refine mt_6 hx hb hK hP hJ hS (by decide) (inb_in hi34) de_M_seize_104 (fun H locs hP hS => ?_)
              obtain ⟨σ35, eσ35, h⟩ := lx_ex h
              rw [← eσ35] at hP
              refine lv_aload_n hx hb de_M_seize_105 rfl (lv_at hl 2 rfl) ?_
              refine mg_0 (v := .ref (aa 9 0)) hx hb ht hown hK hP (by decide) 13 (by decide) tw_2_228 rfl de_M_seize_106 ?_
              refine lv_iload_n hx hb de_M_seize_109 rfl (lv_at hl 3 rfl) ?_
              refine lv_aload_n hx hb de_M_seize_110 rfl (lv_at hl 2 rfl) ?_
              refine mg_0 (v := .int (gI σ35 32 0 0)) hx hb ht hown hK hP (by decide) 2 (by decide) tw_2_217 rfl de_M_seize_111 ?_
              obtain ⟨hi36, h⟩ := gd_some h
              refine mt_9 hx hb hK hP hJ hS (by decide) (inb_in hi36) de_M_seize_114 (fun H locs hP hS => ?_)
              obtain ⟨σ37, eσ37, h⟩ := lx_ex h
              rw [← eσ37] at hP
              refine lv_aload_n hx hb de_M_seize_115 rfl (lv_at hl 2 rfl) ?_
              refine lv_dup hx hb de_M_seize_116 rfl ?_
              refine mg_0 (v := .int (gI σ37 32 0 0)) hx hb ht hown hK hP (by decide) 2 (by decide) tw_2_217 rfl de_M_seize_117 ?_
              refine lv_iconst (v := 1) hx hb de_M_seize_120 (by decide) ?_
              refine lv_iadd hx hb de_M_seize_121 ?_
              refine mp_0_coming hx hb ht hown hK hP hJ hS (by decide) tw_2_217 de_M_seize_122 (fun H locs hP hS => ?_)
              obtain ⟨σ38, eσ38, h⟩ := lx_ex h
              rw [← eσ38] at hP
              refine lv_aload_n hx hb de_M_seize_125 rfl (lv_at hl 2 rfl) ?_
              refine mg_0 (v := .ref (aa 10 0)) hx hb ht hown hK hP (by decide) 14 (by decide) tw_2_229 rfl de_M_seize_126 ?_
              refine lv_iload_n hx hb de_M_seize_129 rfl (lv_at hl 3 rfl) ?_
              refine lv_aload_n hx hb de_M_seize_130 rfl (lv_at hl 2 rfl) ?_
              refine mg_0 (v := .long (gL σ38 0 0 0)) hx hb ht hown hK hP (by decide) 4 (by decide) tw_2_219 rfl de_M_seize_131 ?_
              obtain ⟨hi39, h⟩ := gd_some h
              refine mt_10 hx hb hK hP hJ hS (by decide) (inb_in hi39) de_M_seize_134 (fun H locs hP hS => ?_)
              obtain ⟨σ40, eσ40, h⟩ := lx_ex h
              rw [← eσ40] at hP
              refine lv_iconst (v := 0) hx hb de_M_seize_135 (by decide) ?_
              have h := Option.some.inj h
              subst h
              exact W.zret (v := 0) hx hb hr rfl (fun t ht hW => ⟨⟨_, _, rfl, ⟨rfl, rfl⟩, by rw [ht]; exact hP, va_K.moved hW.alike hK⟩, hS.F ht⟩) hS.2.2 de_M_seize_136 hlocks
            · have h := ie_f h hc
              refine lv_aload_n hx hb de_M_seize_79 rfl (lv_at hl 2 rfl) ?_
              refine lv_iload_n hx hb de_M_seize_80 rfl (lv_at hl 3 rfl) ?_
              refine lv_iload_n hx hb de_M_seize_81 rfl (lv_at hl 4 rfl) ?_
              obtain ⟨r41, hr41, h⟩ := bd_some h
              refine mq_i (va_runV (As := [.int x1, .int x2]) (rest := []) S (c_M_reach l D aa q hJ σ x1 x2 r41 hr41) (cwV 2 ht (gv_in tw_3_145 tw_3_147 ts_M_reach tw_1_7 tc_M_reach) rfl rfl rfl bh_M_reach ⟨Nat.le_of_ble_eq_true rfl, Nat.le_of_ble_eq_true rfl⟩) (mpreV hK hP (mr_0 hK hP (by decide))) rfl rfl hl.1 rfl (lv_room (Nat.le_of_ble_eq_true rfl)) de_M_seize_82 ⟨Nat.zero_le _, Nat.zero_le _⟩) hS (fun H locs hP hS => ?_)
              refine lv_iload_n hx hb de_M_seize_85 rfl (lv_at hl 5 rfl) ?_
              refine lv_icmp_lt (tgt := 98) hx hb de_M_seize_86 (by decide) (fun hc => ?_) (fun hc => ?_)
              · have h := ie_t h hc
                refine lv_aload_n hx hb de_M_seize_98 rfl (lv_at hl 2 rfl) ?_
                refine mg_0 (v := .ref (aa 6 0)) hx hb ht hown hK hP (by decide) 10 (by decide) tw_2_225 rfl de_M_seize_99 ?_
                refine lv_iload_n hx hb de_M_seize_102 rfl (lv_at hl 3 rfl) ?_
                refine lv_iconst (v := 4) hx hb de_M_seize_103 (by decide) ?_
                obtain ⟨hi42, h⟩ := gd_some h
                refine mt_6 hx hb hK hP hJ hS (by decide) (inb_in hi42) de_M_seize_104 (fun H locs hP hS => ?_)
                obtain ⟨σ43, eσ43, h⟩ := lx_ex h
                rw [← eσ43] at hP
                refine lv_aload_n hx hb de_M_seize_105 rfl (lv_at hl 2 rfl) ?_
                refine mg_0 (v := .ref (aa 9 0)) hx hb ht hown hK hP (by decide) 13 (by decide) tw_2_228 rfl de_M_seize_106 ?_
                refine lv_iload_n hx hb de_M_seize_109 rfl (lv_at hl 3 rfl) ?_
                refine lv_aload_n hx hb de_M_seize_110 rfl (lv_at hl 2 rfl) ?_
                refine mg_0 (v := .int (gI σ43 32 0 0)) hx hb ht hown hK hP (by decide) 2 (by decide) tw_2_217 rfl de_M_seize_111 ?_
                obtain ⟨hi44, h⟩ := gd_some h
                refine mt_9 hx hb hK hP hJ hS (by decide) (inb_in hi44) de_M_seize_114 (fun H locs hP hS => ?_)
                obtain ⟨σ45, eσ45, h⟩ := lx_ex h
                rw [← eσ45] at hP
                refine lv_aload_n hx hb de_M_seize_115 rfl (lv_at hl 2 rfl) ?_
                refine lv_dup hx hb de_M_seize_116 rfl ?_
                refine mg_0 (v := .int (gI σ45 32 0 0)) hx hb ht hown hK hP (by decide) 2 (by decide) tw_2_217 rfl de_M_seize_117 ?_
                refine lv_iconst (v := 1) hx hb de_M_seize_120 (by decide) ?_
                refine lv_iadd hx hb de_M_seize_121 ?_
                refine mp_0_coming hx hb ht hown hK hP hJ hS (by decide) tw_2_217 de_M_seize_122 (fun H locs hP hS => ?_)
                obtain ⟨σ46, eσ46, h⟩ := lx_ex h
                rw [← eσ46] at hP
                refine lv_aload_n hx hb de_M_seize_125 rfl (lv_at hl 2 rfl) ?_
                refine mg_0 (v := .ref (aa 10 0)) hx hb ht hown hK hP (by decide) 14 (by decide) tw_2_229 rfl de_M_seize_126 ?_
                refine lv_iload_n hx hb de_M_seize_129 rfl (lv_at hl 3 rfl) ?_
                refine lv_aload_n hx hb de_M_seize_130 rfl (lv_at hl 2 rfl) ?_
                refine mg_0 (v := .long (gL σ46 0 0 0)) hx hb ht hown hK hP (by decide) 4 (by decide) tw_2_219 rfl de_M_seize_131 ?_
                obtain ⟨hi47, h⟩ := gd_some h
                refine mt_10 hx hb hK hP hJ hS (by decide) (inb_in hi47) de_M_seize_134 (fun H locs hP hS => ?_)
                obtain ⟨σ48, eσ48, h⟩ := lx_ex h
                rw [← eσ48] at hP
                refine lv_iconst (v := 0) hx hb de_M_seize_135 (by decide) ?_
                have h := Option.some.inj h
                subst h
                exact W.zret (v := 0) hx hb hr rfl (fun t ht hW => ⟨⟨_, _, rfl, ⟨rfl, rfl⟩, by rw [ht]; exact hP, va_K.moved hW.alike hK⟩, hS.F ht⟩) hS.2.2 de_M_seize_136 hlocks
              · have h := ie_f h hc
                refine lv_aload_n hx hb de_M_seize_89 rfl (lv_at hl 2 rfl) ?_
                refine lv_iload_n hx hb de_M_seize_90 rfl (lv_at hl 3 rfl) ?_
                refine lv_iload_n hx hb de_M_seize_91 rfl (lv_at hl 4 rfl) ?_
                refine lv_iload_n hx hb de_M_seize_92 rfl (lv_at hl 5 rfl) ?_
                obtain ⟨r49, hr49, h⟩ := bd_some h
                refine mq_v (va_runV (As := [.int x1, .int x2, .int x3]) (rest := []) S (c_M_preempt l D aa q hJ σ x1 x2 x3 r49 hr49) (cwV 3 ht (gv_in tw_3_149 tw_3_151 ts_M_preempt tw_1_7 tc_M_preempt) rfl rfl rfl bh_M_preempt ⟨Nat.le_of_ble_eq_true rfl, Nat.le_of_ble_eq_true rfl⟩) (mpreV hK hP (mr_0 hK hP (by decide))) rfl rfl hl.1 rfl (lv_room (Nat.le_of_ble_eq_true rfl)) de_M_seize_93 ⟨Nat.zero_le _, Nat.zero_le _⟩) hS (fun H locs hP hS => ?_)
                refine lv_iconst (v := 1) hx hb de_M_seize_96 (by decide) ?_
                have h := Option.some.inj h
                subst h
                exact W.zret (v := 1) hx hb hr rfl (fun t ht hW => ⟨⟨_, _, rfl, ⟨rfl, rfl⟩, by rw [ht]; exact hP, va_K.moved hW.alike hK⟩, hS.F ht⟩) hS.2.2 de_M_seize_97 hlocks
        · have h := ie_f h hc
          refine lv_aload_n hx hb de_M_seize_49 rfl (lv_at hl 2 rfl) ?_
          refine mg_0 (v := .ref (aa 14 0)) hx hb ht hown hK hP (by decide) 18 (by decide) tw_2_233 rfl de_M_seize_50 ?_
          refine lv_iconst (v := 4) hx hb de_M_seize_53 (by decide) ?_
          refine lv_iload_n hx hb de_M_seize_54 rfl (lv_at hl 3 rfl) ?_
          refine lv_imul hx hb de_M_seize_55 ?_
          refine lv_iload_n hx hb de_M_seize_56 rfl (lv_at hl 4 rfl) ?_
          refine lv_iadd hx hb de_M_seize_57 ?_
          refine lv_dup2_11 hx hb de_M_seize_58 rfl rfl ?_
          obtain ⟨hi50, h⟩ := gd_some h
          refine ml_14 hx hb hK hP (by decide) (inb_in hi50) de_M_seize_59 ?_
          refine lv_iload_n hx hb de_M_seize_60 rfl (lv_at hl 5 rfl) ?_
          refine lv_iadd hx hb de_M_seize_61 ?_
          obtain ⟨hi51, h⟩ := gd_some h
          refine mt_14 hx hb hK hP hJ hS (by decide) (inb_in hi51) de_M_seize_62 (fun H locs hP hS => ?_)
          obtain ⟨σ52, eσ52, h⟩ := lx_ex h
          rw [← eσ52] at hP
          refine lv_iconst (v := 1) hx hb de_M_seize_63 (by decide) ?_
          have h := Option.some.inj h
          subst h
          exact W.zret (v := 1) hx hb hr rfl (fun t ht hW => ⟨⟨_, _, rfl, ⟨rfl, rfl⟩, by rw [ht]; exact hP, va_K.moved hW.alike hK⟩, hS.F ht⟩) hS.2.2 de_M_seize_64 hlocks
