set_option maxHeartbeats 4000000 in
set_option maxRecDepth 100000 in
theorem c_E_unseized (l : Launch) (D : va_G) (aa : Nat → Nat → Nat) (q : Nat → ClassId) (hJ : wJ kC aa) (σ : kS) (g0 : Nat) (hg0 : g0 < 4) (res : Int32) (h : F_E_unseized σ g0 = some res) : Met l by_E_unseized (.code by_E_unseized bc_E_unseized 1 (some .int) :: lw_g) brm_E_unseized (va_Pc [.ref (aa 14 g0)] (kPre D aa q σ)) (va_Qi (fun (r : Int32) (u : kS) => r = res ∧ u = σ) (kB D aa q) (wA kC aa)) 0 0 (wA kC aa) := by
  refine Met.ofW (cc := bc_E_unseized) (maxL := 1) (ret := (some .int)) (by decide) rfl ?_
  intro p e s m args below meth c s₁ B hml hv
  obtain ⟨rfl, hP, hK⟩ := hv
  have hx := B.exec
  have hb := B.bytes
  have hr := B.returns
  have ht : ∀ w ∈ lw_g, w.before ([.ref (aa 14 g0)] : List Value).toArray s = true := fun w h => atoms_spec (ws := .code by_E_unseized bc_E_unseized 1 (some .int) :: lw_g) B.pre w (List.mem_cons_of_mem _ h)
  have hown : s.vm.findClass bR_E = some m.cls := findClass_of_methodNamed B.named
  have hlocks := B.notSynchronized
  have S : CallFix p m c bc_E_unseized 1 s ([.ref (aa 14 g0)] : List Value).toArray lw_g bR_E := ⟨hx, hb, hml, hown, ht⟩
  have hS : va_S (wA kC aa) s.heap s.heap [] := va_S.rf
  have hl := lv_entry ([.ref (aa 14 g0)]) (n := 1) (Nat.le_of_ble_eq_true rfl)
  rw [lg_entry_eq]
  generalize (lg_sl ([.ref (aa 14 g0)]) ++ List.replicate (1 - (lg_sl ([.ref (aa 14 g0)])).length) Slot.unset).toArray = ls at hl ⊢
  have hl : lv_has ls 1 [(0, .ref (aa 14 g0))] := hl
  unfold F_E_unseized at h
  refine lv_aload_n hx hb de_E_unseized_0 rfl (lv_at hl 0 rfl) ?_
  refine kg_14 (v := .int (gI σ 15 g0 0)) hx hb ht hown hK hP hg0 1 (by decide) tw_1_134 rfl de_E_unseized_1 ?_
  refine lv_aload_n hx hb de_E_unseized_4 rfl (lv_at hl 0 rfl) ?_
  refine kg_14 (v := .int (gI σ 16 g0 0)) hx hb ht hown hK hP hg0 2 (by decide) tw_1_136 rfl de_E_unseized_5 ?_
  refine lv_isub hx hb de_E_unseized_8 ?_
  have h := Option.some.inj h
  subst h
  exact W.iret (v := (gI σ 15 g0 0) - (gI σ 16 g0 0)) hx hb hr (fun t ht hW => ⟨⟨_, _, rfl, ⟨rfl, rfl⟩, by rw [ht]; exact hP, va_K.moved hW.alike hK⟩, hS.F ht⟩) hS.2.2 de_E_unseized_9 hlocks
set_option maxHeartbeats 4000000 in
set_option maxRecDepth 100000 in
theorem c_K_give (l : Launch) (D : va_G) (aa : Nat → Nat → Nat) (q : Nat → ClassId) (hJ : wJ kC aa) (σ : kS) (g1 : Nat) (hg1 : g1 < 12) (x2 : Int32) (x3 : Int32) (res : kS) (h : F_K_give σ g1 x2 x3 = some res) : Met l by_K_give (.code by_K_give bc_K_give 4 none :: lw_g) brm_K_give (va_Pc [.ref (aa 0 0), .ref (aa 9 g1), .int x2, .int x3] (kPre D aa q σ)) (va_Qv (fun u : kS => u = res) (kB D aa q) (wA kC aa)) 0 0 (wA kC aa) := by
  refine Met.ofW (cc := bc_K_give) (maxL := 4) (ret := none) (by decide) rfl ?_
  intro p e s m args below meth c s₁ B hml hv
  obtain ⟨rfl, hP, hK⟩ := hv
  have hx := B.exec
  have hb := B.bytes
  have hr := B.returns
  have ht : ∀ w ∈ lw_g, w.before ([.ref (aa 0 0), .ref (aa 9 g1), .int x2, .int x3] : List Value).toArray s = true := fun w h => atoms_spec (ws := .code by_K_give bc_K_give 4 none :: lw_g) B.pre w (List.mem_cons_of_mem _ h)
  have hown : s.vm.findClass bR_K = some m.cls := findClass_of_methodNamed B.named
  have hlocks := B.notSynchronized
  have S : CallFix p m c bc_K_give 4 s ([.ref (aa 0 0), .ref (aa 9 g1), .int x2, .int x3] : List Value).toArray lw_g bR_K := ⟨hx, hb, hml, hown, ht⟩
  have hS : va_S (wA kC aa) s.heap s.heap [] := va_S.rf
  have hl := lv_entry ([.ref (aa 0 0), .ref (aa 9 g1), .int x2, .int x3]) (n := 4) (Nat.le_of_ble_eq_true rfl)
  rw [lg_entry_eq]
  generalize (lg_sl ([.ref (aa 0 0), .ref (aa 9 g1), .int x2, .int x3]) ++ List.replicate (4 - (lg_sl ([.ref (aa 0 0), .ref (aa 9 g1), .int x2, .int x3])).length) Slot.unset).toArray = ls at hl ⊢
  have hl : lv_has ls 4 [(0, .ref (aa 0 0)), (1, .ref (aa 9 g1)), (2, .int x2), (3, .int x3)] := hl
  unfold F_K_give at h
  refine lv_aload_n hx hb de_K_give_0 rfl (lv_at hl 1 rfl) ?_
  refine kg_9 (v := .ref (aa 13 g1)) hx hb ht hown hK hP hg1 4 (by decide) tw_1_69 rfl de_K_give_1 ?_
  refine lv_iload_n hx hb de_K_give_4 rfl (lv_at hl 2 rfl) ?_
  refine lv_dup2_11 hx hb de_K_give_5 rfl rfl ?_
  obtain ⟨hi1, h⟩ := gd_some h
  refine kl_13 hx hb hK hP hg1 (inb_in hi1) de_K_give_6 ?_
  refine lv_iload_n hx hb de_K_give_7 rfl (lv_at hl 3 rfl) ?_
  refine lv_iadd hx hb de_K_give_8 ?_
  obtain ⟨hi2, h⟩ := gd_some h
  refine kt_13 hx hb hK hP hJ hS hg1 (inb_in hi2) de_K_give_9 (fun H locs hP hS => ?_)
  obtain ⟨σ3, eσ3, h⟩ := lx_ex h
  rw [← eσ3] at hP
  refine lv_aload_n hx hb de_K_give_10 rfl (lv_at hl 0 rfl) ?_
  refine kg_0 (v := .ref (aa 2 0)) hx hb ht hown hK hP (by decide) 1 (by decide) tw_1_172 rfl de_K_give_11 ?_
  refine lv_iload_n hx hb de_K_give_14 rfl (lv_at hl 2 rfl) ?_
  obtain ⟨hi4, h⟩ := gd_some h
  refine kl_2 hx hb hK hP (by decide) (inb_in hi4) de_K_give_15 (fun j5 ej5 => ?_)
  have h := lx_at h j5 ej5
  have hj5 : j5 < 4 := by rw [ej5]; exact inb_lt hi4
  refine lv_dup hx hb de_K_give_16 rfl ?_
  refine kg_14 (v := .int (gI σ3 16 j5 0)) hx hb ht hown hK hP hj5 2 (by decide) tw_1_137 rfl de_K_give_17 ?_
  refine lv_iload_n hx hb de_K_give_20 rfl (lv_at hl 3 rfl) ?_
  refine lv_iadd hx hb de_K_give_21 ?_
  refine kp_14_seized hx hb ht hown hK hP hJ hS hj5 tw_1_137 de_K_give_22 (fun H locs hP hS => ?_)
  obtain ⟨σ6, eσ6, h⟩ := lx_ex h
  rw [← eσ6] at hP
  have h := Option.some.inj h
  subst h
  exact W.vret hx hb hr (fun t ht hW => ⟨⟨_, rfl, rfl, by rw [ht]; exact hP, va_K.moved hW.alike hK⟩, hS.F ht⟩) hS.2.2 de_K_give_25 hlocks
set_option maxHeartbeats 4000000 in
set_option maxRecDepth 100000 in
theorem w_L_drop_4 {p : Program} {l : Launch} {e : Env} {s : State} {m : MethodId} {args : Array Value} {below : List Frame} {meth : Method} {c : Code} {Q : State → Prop} {D : va_G} {aa : Nat → Nat → Nat} {q : Nat → ClassId} (hJ : wJ kC aa) (S : CallFix p m c bc_L_drop 4 s args lw_g bR_L) (hlocks : meth.locks = false) (hK : va_K D kCl (kT q) s) : ∀ (n : Nat) (σ : kS) (g0 : Nat) (hg0 : g0 < 5) (x1 : Int32) (x2 : Int32) (x3 : Int32) (ex : kS × Int32 × Int32) (H : Heap) (locs : List Loc) (ls : Array Slot), lv_has ls 4 [(0, .ref (aa 4 g0)), (1, .int x1), (2, .int x2), (3, .int x3)] → va_P D kCl (kW aa q σ) H → va_S (wA kC aa) s.heap H locs → F_L_drop_4 n σ g0 x1 x2 x3 = some ex → (∀ (H1 : Heap) (locs1 : List Loc) (ls1 : Array Slot), lv_has ls1 4 [(0, .ref (aa 4 g0)), (1, .int x1), (2, .int ex.2.1), (3, .int ex.2.2)] → va_P D kCl (kW aa q ex.1) H1 → va_S (wA kC aa) s.heap H1 locs1 → W p l e brm_L_drop s m args below meth c H1 locs1 0 0 Q (F0 m 43 ls1 [])) → W p l e brm_L_drop s m args below meth c H locs 0 0 Q (F0 m 4 ls []) := by
  obtain ⟨hx, hb, hml, hown, hts⟩ := id S
  have ht := hts
  intro n
  induction n with
  | zero => intro σ g0 hg0 x1 x2 x3 ex H locs ls hl hP hS h k; cases (show (none : Option (kS × Int32 × Int32)) = some ex from h)
  | succ n ih =>
    intro σ g0 hg0 x1 x2 x3 ex H locs ls hl hP hS h k
    unfold F_L_drop_4 at h
    refine lv_iload_n hx hb de_L_drop_4 rfl (lv_at hl 3 rfl) ?_
    refine lv_aload_n hx hb de_L_drop_5 rfl (lv_at hl 0 rfl) ?_
    refine kg_4 (v := .int (gI σ 19 g0 0)) hx hb ht hown hK hP hg0 1 (by decide) tw_1_31 rfl de_L_drop_6 ?_
    refine lv_icmp_ge (tgt := 43) hx hb de_L_drop_9 (by decide) (fun hc => ?_) (fun hc => ?_)
    · have h := ie_t h hc
      have h := Option.some.inj h
      subst h
      exact k _ _ _ (lv_sub hl [0, 1, 2, 3] rfl) hP hS
    · have h := ie_f h hc
      refine lv_aload_n hx hb de_L_drop_12 rfl (lv_at hl 0 rfl) ?_
      refine kg_4 (v := .ref (aa 5 g0)) hx hb ht hown hK hP hg0 0 (by decide) tw_1_29 rfl de_L_drop_13 ?_
      refine lv_iload_n hx hb de_L_drop_16 rfl (lv_at hl 3 rfl) ?_
      obtain ⟨hi1, h⟩ := gd_some h
      refine kl_5 hx hb hK hP hg0 (inb_in hi1) de_L_drop_17 ?_
      refine lv_iload_n hx hb de_L_drop_18 rfl (lv_at hl 1 rfl) ?_
      refine lv_icmp_eq (tgt := 37) hx hb de_L_drop_19 (by decide) (fun hc => ?_) (fun hc => ?_)
      · have h := ie_t h hc
        refine lv_iinc (k := 3) (v := x3 + 1) (lv' := [(3, .int (x3 + 1)), (0, .ref (aa 4 g0)), (1, .int x1), (2, .int x2)]) hx hb de_L_drop_37 hl rfl (ii_p1 _) (by decide) rfl (fun ls hl => ?_)
        refine lv_goto (tgt := 4) hx hb de_L_drop_40 (by decide) ?_
        exact ih σ g0 hg0 x1 x2 (x3 + 1) ex _ _ _ (lv_sub hl [1, 2, 3, 0] rfl) hP hS h k
      · have h := ie_f h hc
        refine lv_aload_n hx hb de_L_drop_22 rfl (lv_at hl 0 rfl) ?_
        refine kg_4 (v := .ref (aa 5 g0)) hx hb ht hown hK hP hg0 0 (by decide) tw_1_29 rfl de_L_drop_23 ?_
        refine lv_iload_n hx hb de_L_drop_26 rfl (lv_at hl 2 rfl) ?_
        refine lv_aload_n hx hb de_L_drop_27 rfl (lv_at hl 0 rfl) ?_
        refine kg_4 (v := .ref (aa 5 g0)) hx hb ht hown hK hP hg0 0 (by decide) tw_1_29 rfl de_L_drop_28 ?_
        refine lv_iload_n hx hb de_L_drop_31 rfl (lv_at hl 3 rfl) ?_
        obtain ⟨hi2, h⟩ := gd_some h
        refine kl_5 hx hb hK hP hg0 (inb_in hi2) de_L_drop_32 ?_
        obtain ⟨hi3, h⟩ := gd_some h
        refine kt_5 hx hb hK hP hJ hS hg0 (inb_in hi3) de_L_drop_33 (fun H locs hP hS => ?_)
        obtain ⟨σ4, eσ4, h⟩ := lx_ex h
        rw [← eσ4] at hP
        refine lv_iinc (k := 2) (v := x2 + 1) (lv' := [(2, .int (x2 + 1)), (0, .ref (aa 4 g0)), (1, .int x1), (3, .int x3)]) hx hb de_L_drop_34 hl rfl (ii_p1 _) (by decide) rfl (fun ls hl => ?_)
        refine lv_iinc (k := 3) (v := x3 + 1) (lv' := [(3, .int (x3 + 1)), (2, .int (x2 + 1)), (0, .ref (aa 4 g0)), (1, .int x1)]) hx hb de_L_drop_37 hl rfl (ii_p1 _) (by decide) rfl (fun ls hl => ?_)
        refine lv_goto (tgt := 4) hx hb de_L_drop_40 (by decide) ?_
        exact ih σ4 g0 hg0 x1 (x2 + 1) (x3 + 1) ex _ _ _ (lv_sub hl [2, 3, 1, 0] rfl) hP hS h k
set_option maxHeartbeats 4000000 in
set_option maxRecDepth 100000 in
theorem c_L_drop (l : Launch) (D : va_G) (aa : Nat → Nat → Nat) (q : Nat → ClassId) (hJ : wJ kC aa) (σ : kS) (g0 : Nat) (hg0 : g0 < 5) (x1 : Int32) (res : kS) (h : F_L_drop σ g0 x1 = some res) : Met l by_L_drop (.code by_L_drop bc_L_drop 4 none :: lw_g) brm_L_drop (va_Pc [.ref (aa 4 g0), .int x1] (kPre D aa q σ)) (va_Qv (fun u : kS => u = res) (kB D aa q) (wA kC aa)) 0 0 (wA kC aa) := by
  refine Met.ofW (cc := bc_L_drop) (maxL := 4) (ret := none) (by decide) rfl ?_
  intro p e s m args below meth c s₁ B hml hv
  obtain ⟨rfl, hP, hK⟩ := hv
  have hx := B.exec
  have hb := B.bytes
  have hr := B.returns
  have ht : ∀ w ∈ lw_g, w.before ([.ref (aa 4 g0), .int x1] : List Value).toArray s = true := fun w h => atoms_spec (ws := .code by_L_drop bc_L_drop 4 none :: lw_g) B.pre w (List.mem_cons_of_mem _ h)
  have hown : s.vm.findClass bR_L = some m.cls := findClass_of_methodNamed B.named
  have hlocks := B.notSynchronized
  have S : CallFix p m c bc_L_drop 4 s ([.ref (aa 4 g0), .int x1] : List Value).toArray lw_g bR_L := ⟨hx, hb, hml, hown, ht⟩
  have hS : va_S (wA kC aa) s.heap s.heap [] := va_S.rf
  have hl := lv_entry ([.ref (aa 4 g0), .int x1]) (n := 4) (Nat.le_of_ble_eq_true rfl)
  rw [lg_entry_eq]
  generalize (lg_sl ([.ref (aa 4 g0), .int x1]) ++ List.replicate (4 - (lg_sl ([.ref (aa 4 g0), .int x1])).length) Slot.unset).toArray = ls at hl ⊢
  have hl : lv_has ls 4 [(0, .ref (aa 4 g0)), (1, .int x1)] := hl
  unfold F_L_drop at h
  refine lv_iconst (v := 0) hx hb de_L_drop_0 (by decide) ?_
  refine lv_istore_n (lv' := [(2, .int 0), (0, .ref (aa 4 g0)), (1, .int x1)]) hx hb de_L_drop_1 rfl hl (by decide) rfl (fun ls hl => ?_)
  refine lv_iconst (v := 0) hx hb de_L_drop_2 (by decide) ?_
  refine lv_istore_n (lv' := [(3, .int 0), (2, .int 0), (0, .ref (aa 4 g0)), (1, .int x1)]) hx hb de_L_drop_3 rfl hl (by decide) rfl (fun ls hl => ?_)
  obtain ⟨ex1, hex1, h⟩ := bd_some h
  refine w_L_drop_4 hJ S hlocks hK 1000 σ g0 hg0 x1 0 0 ex1 _ _ _ (lv_sub hl [2, 3, 1, 0] rfl) hP hS hex1 (fun H locs ls hl hP hS => ?_)
  refine lv_aload_n hx hb de_L_drop_43 rfl (lv_at hl 0 rfl) ?_
  refine lv_iload_n hx hb de_L_drop_44 rfl (lv_at hl 2 rfl) ?_
  refine kp_4_size hx hb ht hown hK hP hJ hS hg0 tw_1_31 de_L_drop_45 (fun H locs hP hS => ?_)
  obtain ⟨σ2, eσ2, h⟩ := lx_ex h
  rw [← eσ2] at hP
  have h := Option.some.inj h
  subst h
  exact W.vret hx hb hr (fun t ht hW => ⟨⟨_, rfl, rfl, by rw [ht]; exact hP, va_K.moved hW.alike hK⟩, hS.F ht⟩) hS.2.2 de_L_drop_48 hlocks
set_option maxHeartbeats 4000000 in
set_option maxRecDepth 100000 in
theorem c_K_enter (l : Launch) (D : va_G) (aa : Nat → Nat → Nat) (q : Nat → ClassId) (hJ : wJ kC aa) (σ : kS) (g1 : Nat) (hg1 : g1 < 12) (x2 : Int32) (x3 : Int32) (res : kS) (h : F_K_enter σ g1 x2 x3 = some res) : Met l by_K_enter (.code by_K_enter bc_K_enter 4 none :: lw_g) brm_K_enter (va_Pc [.ref (aa 0 0), .ref (aa 9 g1), .int x2, .int x3] (kPre D aa q σ)) (va_Qv (fun u : kS => u = res) (kB D aa q) (wA kC aa)) 0 0 (wA kC aa) := by
  refine Met.ofW (cc := bc_K_enter) (maxL := 4) (ret := none) (by decide) rfl ?_
  intro p e s m args below meth c s₁ B hml hv
  obtain ⟨rfl, hP, hK⟩ := hv
  have hx := B.exec
  have hb := B.bytes
  have hr := B.returns
  have ht : ∀ w ∈ lw_g, w.before ([.ref (aa 0 0), .ref (aa 9 g1), .int x2, .int x3] : List Value).toArray s = true := fun w h => atoms_spec (ws := .code by_K_enter bc_K_enter 4 none :: lw_g) B.pre w (List.mem_cons_of_mem _ h)
  have hown : s.vm.findClass bR_K = some m.cls := findClass_of_methodNamed B.named
  have hlocks := B.notSynchronized
  have S : CallFix p m c bc_K_enter 4 s ([.ref (aa 0 0), .ref (aa 9 g1), .int x2, .int x3] : List Value).toArray lw_g bR_K := ⟨hx, hb, hml, hown, ht⟩
  have hS : va_S (wA kC aa) s.heap s.heap [] := va_S.rf
  have hl := lv_entry ([.ref (aa 0 0), .ref (aa 9 g1), .int x2, .int x3]) (n := 4) (Nat.le_of_ble_eq_true rfl)
  rw [lg_entry_eq]
  generalize (lg_sl ([.ref (aa 0 0), .ref (aa 9 g1), .int x2, .int x3]) ++ List.replicate (4 - (lg_sl ([.ref (aa 0 0), .ref (aa 9 g1), .int x2, .int x3])).length) Slot.unset).toArray = ls at hl ⊢
  have hl : lv_has ls 4 [(0, .ref (aa 0 0)), (1, .ref (aa 9 g1)), (2, .int x2), (3, .int x3)] := hl
  unfold F_K_enter at h
  refine lv_aload_n hx hb de_K_enter_0 rfl (lv_at hl 1 rfl) ?_
  refine lv_iload_n hx hb de_K_enter_1 rfl (lv_at hl 2 rfl) ?_
  refine kp_9_state hx hb ht hown hK hP hJ hS hg1 tw_1_79 de_K_enter_2 (fun H locs hP hS => ?_)
  obtain ⟨σ1, eσ1, h⟩ := lx_ex h
  rw [← eσ1] at hP
  refine lv_aload_n hx hb de_K_enter_5 rfl (lv_at hl 1 rfl) ?_
  refine lv_iconst (v := 1) hx hb de_K_enter_6 (by decide) ?_
  refine kp_9_listed hx hb ht hown hK hP hJ hS hg1 (by decide) tw_1_85 de_K_enter_7 (fun H locs hP hS => ?_)
  obtain ⟨σ2, eσ2, h⟩ := lx_ex h
  rw [← eσ2] at hP
  refine lv_aload_n hx hb de_K_enter_10 rfl (lv_at hl 1 rfl) ?_
  refine lv_aload_n hx hb de_K_enter_11 rfl (lv_at hl 0 rfl) ?_
  refine kg_0 (v := .long (gL σ2 0 0 0)) hx hb ht hown hK hP (by decide) 7 (by decide) tw_1_178 rfl de_K_enter_12 ?_
  refine lv_iload_n hx hb de_K_enter_15 rfl (lv_at hl 3 rfl) ?_
  refine lv_i2l (v := x3.toInt64) hx hb de_K_enter_16 rfl ?_
  refine lv_ladd hx hb de_K_enter_17 ?_
  refine kp_9_time hx hb ht hown hK hP hJ hS hg1 tw_1_87 de_K_enter_18 (fun H locs hP hS => ?_)
  obtain ⟨σ3, eσ3, h⟩ := lx_ex h
  rw [← eσ3] at hP
  refine lv_aload_n hx hb de_K_enter_21 rfl (lv_at hl 1 rfl) ?_
  refine lv_aload_n hx hb de_K_enter_22 rfl (lv_at hl 0 rfl) ?_
  refine kg_0 (v := .long (gL σ3 1 0 0)) hx hb ht hown hK hP (by decide) 8 (by decide) tw_1_179 rfl de_K_enter_23 ?_
  refine kp_9_entry hx hb ht hown hK hP hJ hS hg1 tw_1_89 de_K_enter_26 (fun H locs hP hS => ?_)
  obtain ⟨σ4, eσ4, h⟩ := lx_ex h
  rw [← eσ4] at hP
  refine lv_aload_n hx hb de_K_enter_29 rfl (lv_at hl 0 rfl) ?_
  refine lv_dup hx hb de_K_enter_30 rfl ?_
  refine kg_0 (v := .long (gL σ4 1 0 0)) hx hb ht hown hK hP (by decide) 8 (by decide) tw_1_179 rfl de_K_enter_31 ?_
  refine lv_lconst (v := 1) hx hb de_K_enter_34 (by decide) ?_
  refine lv_ladd hx hb de_K_enter_35 ?_
  refine kp_0_entries hx hb ht hown hK hP hJ hS (by decide) tw_1_179 de_K_enter_36 (fun H locs hP hS => ?_)
  obtain ⟨σ5, eσ5, h⟩ := lx_ex h
  rw [← eσ5] at hP
  have h := Option.some.inj h
  subst h
  exact W.vret hx hb hr (fun t ht hW => ⟨⟨_, rfl, rfl, by rw [ht]; exact hP, va_K.moved hW.alike hK⟩, hS.F ht⟩) hS.2.2 de_K_enter_39 hlocks
set_option maxHeartbeats 4000000 in
set_option maxRecDepth 100000 in
theorem w_K_serve_21 {p : Program} {l : Launch} {e : Env} {s : State} {m : MethodId} {args : Array Value} {below : List Frame} {meth : Method} {c : Code} {Q : State → Prop} {D : va_G} {aa : Nat → Nat → Nat} {q : Nat → ClassId} (hJ : wJ kC aa) (S : CallFix p m c bc_K_serve 5 s args lw_g bR_K) (hlocks : meth.locks = false) (hK : va_K D kCl (kT q) s) : ∀ (n : Nat) (σ : kS) (x1 : Int32) (g2 : Nat) (hg2 : g2 < 4) (x3 : Int32) (ex : Nat × kS × Int32) (H : Heap) (locs : List Loc) (ls : Array Slot), lv_has ls 5 [(0, .ref (aa 0 0)), (1, .int x1), (2, .ref (aa 14 g2)), (3, .int x3)] → va_P D kCl (kW aa q σ) H → va_S (wA kC aa) s.heap H locs → F_K_serve_21 n σ x1 g2 x3 = some ex → (∀ (H1 : Heap) (locs1 : List Loc) (ls1 : Array Slot), lv_has ls1 5 [(0, .ref (aa 0 0)), (1, .int x1), (2, .ref (aa 14 g2)), (3, .int ex.2.2)] → va_P D kCl (kW aa q ex.2.1) H1 → va_S (wA kC aa) s.heap H1 locs1 → (ex.1 = 0 → W p l e brm_K_serve s m args below meth c H1 locs1 0 0 Q (F0 m 53 ls1 [])) ∧ (ex.1 = 1 → W p l e brm_K_serve s m args below meth c H1 locs1 0 0 Q (F0 m 111 ls1 []))) → W p l e brm_K_serve s m args below meth c H locs 0 0 Q (F0 m 21 ls []) := by
  obtain ⟨hx, hb, hml, hown, hts⟩ := id S
  have ht := hts
  intro n
  induction n with
  | zero => intro σ x1 g2 hg2 x3 ex H locs ls hl hP hS h k; cases (show (none : Option (Nat × kS × Int32)) = some ex from h)
  | succ n ih =>
    intro σ x1 g2 hg2 x3 ex H locs ls hl hP hS h k
    unfold F_K_serve_21 at h
    refine lv_iload_n hx hb de_K_serve_21 rfl (lv_at hl 3 rfl) ?_
    refine lv_if_le (tgt := 111) hx hb de_K_serve_22 (by decide) (fun hc => ?_) (fun hc => ?_)
    · have h := ie_t h hc
      have h := Option.some.inj h
      subst h
      exact (k _ _ _ (lv_sub hl [0, 1, 2, 3] rfl) hP hS).2 rfl
    · have h := ie_f h hc
      refine lv_aload_n hx hb de_K_serve_25 rfl (lv_at hl 0 rfl) ?_
      refine kg_0 (v := .ref (aa 1 0)) hx hb ht hown hK hP (by decide) 0 (by decide) tw_1_171 rfl de_K_serve_26 ?_
      refine lv_aload_n hx hb de_K_serve_29 rfl (lv_at hl 2 rfl) ?_
      refine kg_14 (v := .ref (aa 4 g2)) hx hb ht hown hK hP hg2 0 (by decide) tw_1_133 rfl de_K_serve_30 ?_
      refine kg_4 (v := .ref (aa 5 g2)) hx hb ht hown hK hP (Nat.lt_succ_of_lt hg2) 0 (by decide) tw_1_30 rfl de_K_serve_33 ?_
      refine lv_iconst (v := 0) hx hb de_K_serve_36 (by decide) ?_
      obtain ⟨hi1, h⟩ := gd_some h
      refine kl_5 hx hb hK hP (Nat.lt_succ_of_lt hg2) (inb_in hi1) de_K_serve_37 ?_
      obtain ⟨hi2, h⟩ := gd_some h
      refine kl_1 hx hb hK hP (by decide) (inb_in hi2) de_K_serve_38 (fun j3 ej3 => ?_)
      have h := lx_at h j3 ej3
      have hj3 : j3 < 12 := by rw [ej3]; exact inb_lt hi2
      refine lv_astore (lv' := [(4, .ref (aa 9 j3)), (0, .ref (aa 0 0)), (1, .int x1), (2, .ref (aa 14 g2)), (3, .int x3)]) hx hb de_K_serve_39 hl (by decide) rfl (fun ls hl => ?_)
      refine lv_aload hx hb de_K_serve_41 (lv_at hl 0 rfl) ?_
      obtain ⟨r4, hr4, h⟩ := bd_some h
      refine kq_i (va_runV (As := []) (rest := []) S (c_P_secondOperand l D aa q hJ σ j3 hj3 r4 hr4) (cwV 0 ht (gv_in tw_1_236 tw_1_237 tw_1_238 tw_1_4 tc_P_secondOperand) rfl rfl rfl bh_P_secondOperand ⟨Nat.le_of_ble_eq_true rfl, Nat.le_of_ble_eq_true rfl⟩) (kpreV hK hP (kr_9 hK hP hj3)) rfl rfl hl.1 rfl (lv_room (Nat.le_of_ble_eq_true rfl)) de_K_serve_43 ⟨Nat.zero_le _, Nat.zero_le _⟩) hS (fun H locs hP hS => ?_)
      refine lv_aload_n hx hb de_K_serve_46 rfl (lv_at hl 3 rfl) ?_
      obtain ⟨r5, hr5, h⟩ := bd_some h
      refine kq_i (va_runV (As := []) (rest := [.int r4]) S (c_E_unseized l D aa q hJ σ g2 hg2 r5 hr5) (cwV 0 ht (gv_in tw_2_0 tw_2_1 tw_2_2 tw_1_5 tc_E_unseized) rfl rfl rfl bh_E_unseized ⟨Nat.le_of_ble_eq_true rfl, Nat.le_of_ble_eq_true rfl⟩) (kpreV hK hP (kr_14 hK hP hg2)) rfl rfl hl.1 rfl (lv_room (Nat.le_of_ble_eq_true rfl)) de_K_serve_47 ⟨Nat.zero_le _, Nat.zero_le _⟩) hS (fun H locs hP hS => ?_)
      refine lv_icmp_le (tgt := 54) hx hb de_K_serve_50 (by decide) (fun hc => ?_) (fun hc => ?_)
      · have h := ie_t h hc
        refine lv_aload_n hx hb de_K_serve_54 rfl (lv_at hl 1 rfl) ?_
        refine lv_aload hx hb de_K_serve_55 (lv_at hl 0 rfl) ?_
        refine lv_iload_n hx hb de_K_serve_57 rfl (lv_at hl 2 rfl) ?_
        refine lv_aload hx hb de_K_serve_58 (lv_at hl 0 rfl) ?_
        obtain ⟨r6, hr6, h⟩ := bd_some h
        refine kq_i (va_runV (As := []) (rest := [.int x1, .ref (aa 9 j3), .ref (aa 0 0)]) S (c_P_secondOperand l D aa q hJ σ j3 hj3 r6 hr6) (cwV 0 ht (gv_in tw_1_236 tw_1_237 tw_1_238 tw_1_4 tc_P_secondOperand) rfl rfl rfl bh_P_secondOperand ⟨Nat.le_of_ble_eq_true rfl, Nat.le_of_ble_eq_true rfl⟩) (kpreV hK hP (kr_9 hK hP hj3)) rfl rfl hl.1 rfl (lv_room (Nat.le_of_ble_eq_true rfl)) de_K_serve_60 ⟨Nat.zero_le _, Nat.zero_le _⟩) hS (fun H locs hP hS => ?_)
        obtain ⟨r7, hr7, h⟩ := bd_some h
        refine kq_v (va_runV (As := [.ref (aa 9 j3), .int x1, .int r6]) (rest := []) S (c_K_give l D aa q hJ σ j3 hj3 x1 r6 r7 hr7) (cwV 3 ht (gv_in tw_2_4 tw_2_6 ts_K_give tw_1_1 tc_K_give) rfl rfl rfl bh_K_give ⟨Nat.le_of_ble_eq_true rfl, Nat.le_of_ble_eq_true rfl⟩) (kpreV hK hP (kr_0 hK hP (by decide))) rfl rfl hl.1 rfl (lv_room (Nat.le_of_ble_eq_true rfl)) de_K_serve_63 ⟨Nat.zero_le _, Nat.zero_le _⟩) hS (fun H locs hP hS => ?_)
        refine lv_aload_n hx hb de_K_serve_66 rfl (lv_at hl 3 rfl) ?_
        refine lv_dup hx hb de_K_serve_67 rfl ?_
        refine kg_14 (v := .long (gL r7 6 g2 0)) hx hb ht hown hK hP hg2 5 (by decide) tw_1_143 rfl de_K_serve_68 ?_
        refine lv_aload_n hx hb de_K_serve_71 rfl (lv_at hl 1 rfl) ?_
        refine kg_0 (v := .long (gL r7 0 0 0)) hx hb ht hown hK hP (by decide) 7 (by decide) tw_1_178 rfl de_K_serve_72 ?_
        refine lv_aload hx hb de_K_serve_75 (lv_at hl 0 rfl) ?_
        refine kg_9 (v := .long (gL r7 4 j3 0)) hx hb ht hown hK hP hj3 15 (by decide) tw_1_91 rfl de_K_serve_77 ?_
        refine lv_lsub hx hb de_K_serve_80 ?_
        refine lv_ladd hx hb de_K_serve_81 ?_
        refine kp_14_waited hx hb ht hown hK hP hJ hS hg2 tw_1_143 de_K_serve_82 (fun H locs hP hS => ?_)
        obtain ⟨σ8, eσ8, h⟩ := lx_ex h
        rw [← eσ8] at hP
        refine lv_aload_n hx hb de_K_serve_85 rfl (lv_at hl 3 rfl) ?_
        refine kg_14 (v := .ref (aa 4 g2)) hx hb ht hown hK hP hg2 0 (by decide) tw_1_133 rfl de_K_serve_86 ?_
        refine lv_aload hx hb de_K_serve_89 (lv_at hl 0 rfl) ?_
        refine kg_9 (v := .int (gI σ8 2 j3 0)) hx hb ht hown hK hP hj3 0 (by decide) tw_1_61 rfl de_K_serve_91 ?_
        obtain ⟨r9, hr9, h⟩ := bd_some h
        refine kq_v (va_runV (As := [.int (gI σ8 2 j3 0)]) (rest := []) S (c_L_drop l D aa q hJ σ8 g2 (Nat.lt_succ_of_lt hg2) (gI σ8 2 j3 0) r9 hr9) (cwV 1 ht (gv_in tw_2_8 tw_2_9 tw_2_10 tw_1_2 tc_L_drop) rfl rfl rfl bh_L_drop ⟨Nat.le_of_ble_eq_true rfl, Nat.le_of_ble_eq_true rfl⟩) (kpreV hK hP (kr_4 hK hP (Nat.lt_succ_of_lt hg2))) rfl rfl hl.1 rfl (lv_room (Nat.le_of_ble_eq_true rfl)) de_K_serve_94 ⟨Nat.zero_le _, Nat.zero_le _⟩) hS (fun H locs hP hS => ?_)
        refine lv_aload_n hx hb de_K_serve_97 rfl (lv_at hl 1 rfl) ?_
        refine lv_aload hx hb de_K_serve_98 (lv_at hl 0 rfl) ?_
        refine lv_iconst (v := 1) hx hb de_K_serve_100 (by decide) ?_
        refine lv_iconst (v := 0) hx hb de_K_serve_101 (by decide) ?_
        obtain ⟨r10, hr10, h⟩ := bd_some h
        refine kq_v (va_runV (As := [.ref (aa 9 j3), .int 1, .int 0]) (rest := []) S (c_K_enter l D aa q hJ r9 j3 hj3 1 0 r10 hr10) (cwV 3 ht (gv_in tw_2_12 tw_2_14 ts_K_enter tw_1_1 tc_K_enter) rfl rfl rfl bh_K_enter ⟨Nat.le_of_ble_eq_true rfl, Nat.le_of_ble_eq_true rfl⟩) (kpreV hK hP (kr_0 hK hP (by decide))) rfl rfl hl.1 rfl (lv_room (Nat.le_of_ble_eq_true rfl)) de_K_serve_102 ⟨Nat.zero_le _, Nat.zero_le _⟩) hS (fun H locs hP hS => ?_)
        refine lv_iinc (k := 4) (v := x3 + (-1)) (lv' := [(3, .int (x3 + (-1))), (4, .ref (aa 9 j3)), (0, .ref (aa 0 0)), (1, .int x1), (2, .ref (aa 14 g2))]) hx hb de_K_serve_105 hl rfl (ii_m1 _) (by decide) rfl (fun ls hl => ?_)
        refine lv_goto (tgt := 21) hx hb de_K_serve_108 (by decide) ?_
        exact ih r10 x1 g2 hg2 (x3 + (-1)) ex _ _ _ (lv_sub hl [2, 3, 4, 0] rfl) hP hS h k
      · have h := ie_f h hc
        have h := Option.some.inj h
        subst h
        exact (k _ _ _ (lv_sub hl [1, 2, 3, 4] rfl) hP hS).1 rfl
set_option maxHeartbeats 4000000 in
set_option maxRecDepth 100000 in
theorem c_K_serve (l : Launch) (D : va_G) (aa : Nat → Nat → Nat) (q : Nat → ClassId) (hJ : wJ kC aa) (σ : kS) (x1 : Int32) (res : kS) (h : F_K_serve σ x1 = some res) : Met l by_K_serve (.code by_K_serve bc_K_serve 5 none :: lw_g) brm_K_serve (va_Pc [.ref (aa 0 0), .int x1] (kPre D aa q σ)) (va_Qv (fun u : kS => u = res) (kB D aa q) (wA kC aa)) 0 0 (wA kC aa) := by
  refine Met.ofW (cc := bc_K_serve) (maxL := 5) (ret := none) (by decide) rfl ?_
  intro p e s m args below meth c s₁ B hml hv
  obtain ⟨rfl, hP, hK⟩ := hv
  have hx := B.exec
  have hb := B.bytes
  have hr := B.returns
  have ht : ∀ w ∈ lw_g, w.before ([.ref (aa 0 0), .int x1] : List Value).toArray s = true := fun w h => atoms_spec (ws := .code by_K_serve bc_K_serve 5 none :: lw_g) B.pre w (List.mem_cons_of_mem _ h)
  have hown : s.vm.findClass bR_K = some m.cls := findClass_of_methodNamed B.named
  have hlocks := B.notSynchronized
  have S : CallFix p m c bc_K_serve 5 s ([.ref (aa 0 0), .int x1] : List Value).toArray lw_g bR_K := ⟨hx, hb, hml, hown, ht⟩
  have hS : va_S (wA kC aa) s.heap s.heap [] := va_S.rf
  have hl := lv_entry ([.ref (aa 0 0), .int x1]) (n := 5) (Nat.le_of_ble_eq_true rfl)
  rw [lg_entry_eq]
  generalize (lg_sl ([.ref (aa 0 0), .int x1]) ++ List.replicate (5 - (lg_sl ([.ref (aa 0 0), .int x1])).length) Slot.unset).toArray = ls at hl ⊢
  have hl : lv_has ls 5 [(0, .ref (aa 0 0)), (1, .int x1)] := hl
  unfold F_K_serve at h
  refine lv_iload_n hx hb de_K_serve_0 rfl (lv_at hl 1 rfl) ?_
  refine lv_iconst (v := (-1)) hx hb de_K_serve_1 (by decide) ?_
  refine lv_icmp_ne (tgt := 6) hx hb de_K_serve_2 (by decide) (fun hc => ?_) (fun hc => ?_)
  · have h := ie_f h hc
    refine lv_aload_n hx hb de_K_serve_6 rfl (lv_at hl 0 rfl) ?_
    refine kg_0 (v := .ref (aa 2 0)) hx hb ht hown hK hP (by decide) 1 (by decide) tw_1_172 rfl de_K_serve_7 ?_
    refine lv_iload_n hx hb de_K_serve_10 rfl (lv_at hl 1 rfl) ?_
    obtain ⟨hi1, h⟩ := gd_some h
    refine kl_2 hx hb hK hP (by decide) (inb_in hi1) de_K_serve_11 (fun j2 ej2 => ?_)
    have h := lx_at h j2 ej2
    have hj2 : j2 < 4 := by rw [ej2]; exact inb_lt hi1
    refine lv_astore_n (lv' := [(2, .ref (aa 14 j2)), (0, .ref (aa 0 0)), (1, .int x1)]) hx hb de_K_serve_12 rfl hl (by decide) rfl (fun ls hl => ?_)
    refine lv_aload_n hx hb de_K_serve_13 rfl (lv_at hl 0 rfl) ?_
    refine kg_14 (v := .ref (aa 4 j2)) hx hb ht hown hK hP hj2 0 (by decide) tw_1_133 rfl de_K_serve_14 ?_
    refine kg_4 (v := .int (gI σ 19 j2 0)) hx hb ht hown hK hP (Nat.lt_succ_of_lt hj2) 1 (by decide) tw_1_32 rfl de_K_serve_17 ?_
    refine lv_topi (fun v3 ev3 => ?_)
    have h := lx_at h v3 ev3
    refine lv_istore_n (lv' := [(3, .int v3), (2, .ref (aa 14 j2)), (0, .ref (aa 0 0)), (1, .int x1)]) hx hb de_K_serve_20 rfl hl (by decide) rfl (fun ls hl => ?_)
    obtain ⟨ex4, hex4, h⟩ := bd_some h
    refine w_K_serve_21 hJ S hlocks hK 1000 σ x1 j2 hj2 v3 ex4 _ _ _ (lv_sub hl [2, 3, 1, 0] rfl) hP hS hex4 (fun H locs ls hl hP hS => ⟨fun he => ?_, fun he => ?_⟩)
    · have h := ie_t h he
      have h := Option.some.inj h
      subst h
      exact W.vret hx hb hr (fun t ht hW => ⟨⟨_, rfl, rfl, by rw [ht]; exact hP, va_K.moved hW.alike hK⟩, hS.F ht⟩) hS.2.2 de_K_serve_53 hlocks
    · have h := ie_f h (by rw [he]; decide)
      have h := Option.some.inj h
      subst h
      exact W.vret hx hb hr (fun t ht hW => ⟨⟨_, rfl, rfl, by rw [ht]; exact hP, va_K.moved hW.alike hK⟩, hS.F ht⟩) hS.2.2 de_K_serve_111 hlocks
  · have h := ie_t h hc
    have h := Option.some.inj h
    subst h
    exact W.vret hx hb hr (fun t ht hW => ⟨⟨_, rfl, rfl, by rw [ht]; exact hP, va_K.moved hW.alike hK⟩, hS.F ht⟩) hS.2.2 de_K_serve_5 hlocks
set_option maxHeartbeats 4000000 in
set_option maxRecDepth 100000 in
theorem c_K_resource (l : Launch) (D : va_G) (aa : Nat → Nat → Nat) (q : Nat → ClassId) (hJ : wJ kC aa) (σ : kS) (x1 : Int32) (x2 : Int32) (x3 : Int32) (res : Int32 × kS) (h : F_K_resource σ x1 x2 x3 = some res) : Met l by_K_resource (.code by_K_resource bc_K_resource 4 (some .boolean) :: lw_g) brm_K_resource (va_Pc [.ref (aa 0 0), .int x1, .int x2, .int x3] (kPre D aa q σ)) (va_Qi (fun (r : Int32) (u : kS) => r = res.1 ∧ u = res.2) (kB D aa q) (wA kC aa)) 0 0 (wA kC aa) := by
  refine Met.ofW (cc := bc_K_resource) (maxL := 4) (ret := (some .boolean)) (by decide) rfl ?_
  intro p e s m args below meth c s₁ B hml hv
  obtain ⟨rfl, hP, hK⟩ := hv
  have hx := B.exec
  have hb := B.bytes
  have hr := B.returns
  have ht : ∀ w ∈ lw_g, w.before ([.ref (aa 0 0), .int x1, .int x2, .int x3] : List Value).toArray s = true := fun w h => atoms_spec (ws := .code by_K_resource bc_K_resource 4 (some .boolean) :: lw_g) B.pre w (List.mem_cons_of_mem _ h)
  have hown : s.vm.findClass bR_K = some m.cls := findClass_of_methodNamed B.named
  have hlocks := B.notSynchronized
  have S : CallFix p m c bc_K_resource 4 s ([.ref (aa 0 0), .int x1, .int x2, .int x3] : List Value).toArray lw_g bR_K := ⟨hx, hb, hml, hown, ht⟩
  have hS : va_S (wA kC aa) s.heap s.heap [] := va_S.rf
  have hl := lv_entry ([.ref (aa 0 0), .int x1, .int x2, .int x3]) (n := 4) (Nat.le_of_ble_eq_true rfl)
  rw [lg_entry_eq]
  generalize (lg_sl ([.ref (aa 0 0), .int x1, .int x2, .int x3]) ++ List.replicate (4 - (lg_sl ([.ref (aa 0 0), .int x1, .int x2, .int x3])).length) Slot.unset).toArray = ls at hl ⊢
  have hl : lv_has ls 4 [(0, .ref (aa 0 0)), (1, .int x1), (2, .int x2), (3, .int x3)] := hl
  unfold F_K_resource at h
  refine lv_iload_n hx hb de_K_resource_0 rfl (lv_at hl 1 rfl) ?_
  obtain ⟨r1, hr1, h⟩ := bd_some h
  refine kq_i (va_runS (As := [.int x1]) (rest := []) S (c_K_isResource l D aa q hJ σ x1 r1 hr1) (cwS 1 ht (gs_in tw_1_218 tw_1_219 tw_1_1 tc_K_isResource) rfl rfl rfl bh_K_isResource ⟨Nat.le_of_ble_eq_true rfl, Nat.le_of_ble_eq_true rfl⟩) (kpreS hK hP) rfl rfl hl.1 rfl (lv_room (Nat.le_of_ble_eq_true rfl)) de_K_resource_1 ⟨Nat.zero_le _, Nat.zero_le _⟩) hS (fun H locs hP hS => ?_)
  refine lv_if_eq (tgt := 30) hx hb de_K_resource_4 (by decide) (fun hc => ?_) (fun hc => ?_)
  · have h := ie_t h hc
    refine lv_iconst (v := 0) hx hb de_K_resource_30 (by decide) ?_
    have h := Option.some.inj h
    subst h
    exact W.zret (v := 0) hx hb hr rfl (fun t ht hW => ⟨⟨_, _, rfl, ⟨rfl, rfl⟩, by rw [ht]; exact hP, va_K.moved hW.alike hK⟩, hS.F ht⟩) hS.2.2 de_K_resource_31 hlocks
  · have h := ie_f h hc
    refine lv_iload_n hx hb de_K_resource_7 rfl (lv_at hl 2 rfl) ?_
    refine lv_iconst (v := 0) hx hb de_K_resource_8 (by decide) ?_
    refine lv_bipush (v := 9) hx hb de_K_resource_9 (by decide) ?_
    obtain ⟨r2, hr2, h⟩ := bd_some h
    refine kq_i (va_runS (As := [.int x2, .int 0, .int 9]) (rest := []) S (c_K_isWithin l D aa q hJ σ x2 0 9 r2 hr2) (cwS 3 ht (gs_in tw_1_203 tw_1_204 tw_1_1 tc_K_isWithin) rfl rfl rfl bh_K_isWithin ⟨Nat.le_of_ble_eq_true rfl, Nat.le_of_ble_eq_true rfl⟩) (kpreS hK hP) rfl rfl hl.1 rfl (lv_room (Nat.le_of_ble_eq_true rfl)) de_K_resource_11 ⟨Nat.zero_le _, Nat.zero_le _⟩) hS (fun H locs hP hS => ?_)
    refine lv_if_eq (tgt := 30) hx hb de_K_resource_14 (by decide) (fun hc => ?_) (fun hc => ?_)
    · have h := ie_t h hc
      refine lv_iconst (v := 0) hx hb de_K_resource_30 (by decide) ?_
      have h := Option.some.inj h
      subst h
      exact W.zret (v := 0) hx hb hr rfl (fun t ht hW => ⟨⟨_, _, rfl, ⟨rfl, rfl⟩, by rw [ht]; exact hP, va_K.moved hW.alike hK⟩, hS.F ht⟩) hS.2.2 de_K_resource_31 hlocks
    · have h := ie_f h hc
      refine lv_aload_n hx hb de_K_resource_17 rfl (lv_at hl 0 rfl) ?_
      refine kg_0 (v := .ref (aa 2 0)) hx hb ht hown hK hP (by decide) 1 (by decide) tw_1_172 rfl de_K_resource_18 ?_
      refine lv_iload_n hx hb de_K_resource_21 rfl (lv_at hl 1 rfl) ?_
      obtain ⟨hi3, h⟩ := gd_some h
      refine kl_2 hx hb hK hP (by decide) (inb_in hi3) de_K_resource_22 (fun j4 ej4 => ?_)
      have h := lx_at h j4 ej4
      have hj4 : j4 < 4 := by rw [ej4]; exact inb_lt hi3
      refine kg_14 (v := .int (gI σ 16 j4 0)) hx hb ht hown hK hP hj4 2 (by decide) tw_1_137 rfl de_K_resource_23 ?_
      refine lv_iload_n hx hb de_K_resource_26 rfl (lv_at hl 2 rfl) ?_
      refine lv_icmp_le (tgt := 32) hx hb de_K_resource_27 (by decide) (fun hc => ?_) (fun hc => ?_)
      · have h := ie_t h hc
        refine lv_aload_n hx hb de_K_resource_32 rfl (lv_at hl 0 rfl) ?_
        refine kg_0 (v := .ref (aa 2 0)) hx hb ht hown hK hP (by decide) 1 (by decide) tw_1_172 rfl de_K_resource_33 ?_
        refine lv_iload_n hx hb de_K_resource_36 rfl (lv_at hl 1 rfl) ?_
        obtain ⟨hi5, h⟩ := gd_some h
        refine kl_2 hx hb hK hP (by decide) (inb_in hi5) de_K_resource_37 (fun j6 ej6 => ?_)
        have h := lx_at h j6 ej6
        have hj6 : j6 < 4 := by rw [ej6]; exact inb_lt hi5
        refine lv_iload_n hx hb de_K_resource_38 rfl (lv_at hl 2 rfl) ?_
        refine kp_14_capacity hx hb ht hown hK hP hJ hS hj6 tw_1_135 de_K_resource_39 (fun H locs hP hS => ?_)
        obtain ⟨σ7, eσ7, h⟩ := lx_ex h
        rw [← eσ7] at hP
        refine lv_aload_n hx hb de_K_resource_42 rfl (lv_at hl 0 rfl) ?_
        refine kg_0 (v := .ref (aa 2 0)) hx hb ht hown hK hP (by decide) 1 (by decide) tw_1_172 rfl de_K_resource_43 ?_
        refine lv_iload_n hx hb de_K_resource_46 rfl (lv_at hl 1 rfl) ?_
        obtain ⟨hi8, h⟩ := gd_some h
        refine kl_2 hx hb hK hP (by decide) (inb_in hi8) de_K_resource_47 (fun j9 ej9 => ?_)
        have h := lx_at h j9 ej9
        have hj9 : j9 < 4 := by rw [ej9]; exact inb_lt hi8
        refine lv_iload_n hx hb de_K_resource_48 rfl (lv_at hl 3 rfl) ?_
        obtain ⟨hi10, h⟩ := gd_some h
        refine kp_14_preempts hx hb ht hown hK hP hJ hS hj9 hi10 tw_1_139 de_K_resource_49 (fun H locs hP hS => ?_)
        obtain ⟨σ11, eσ11, h⟩ := lx_ex h
        rw [← eσ11] at hP
        refine lv_aload_n hx hb de_K_resource_52 rfl (lv_at hl 0 rfl) ?_
        refine lv_iload_n hx hb de_K_resource_53 rfl (lv_at hl 1 rfl) ?_
        obtain ⟨r12, hr12, h⟩ := bd_some h
        refine kq_v (va_runV (As := [.int x1]) (rest := []) S (c_K_serve l D aa q hJ σ11 x1 r12 hr12) (cwV 1 ht (gv_in tw_1_232 tw_1_234 ts_K_serve tw_1_1 tc_K_serve) rfl rfl rfl bh_K_serve ⟨Nat.le_of_ble_eq_true rfl, Nat.le_of_ble_eq_true rfl⟩) (kpreV hK hP (kr_0 hK hP (by decide))) rfl rfl hl.1 rfl (lv_room (Nat.le_of_ble_eq_true rfl)) de_K_resource_54 ⟨Nat.zero_le _, Nat.zero_le _⟩) hS (fun H locs hP hS => ?_)
        refine lv_iconst (v := 1) hx hb de_K_resource_57 (by decide) ?_
        have h := Option.some.inj h
        subst h
        exact W.zret (v := 1) hx hb hr rfl (fun t ht hW => ⟨⟨_, _, rfl, ⟨rfl, rfl⟩, by rw [ht]; exact hP, va_K.moved hW.alike hK⟩, hS.F ht⟩) hS.2.2 de_K_resource_58 hlocks
      · have h := ie_f h hc
        refine lv_iconst (v := 0) hx hb de_K_resource_30 (by decide) ?_
        have h := Option.some.inj h
        subst h
        exact W.zret (v := 0) hx hb hr rfl (fun t ht hW => ⟨⟨_, _, rfl, ⟨rfl, rfl⟩, by rw [ht]; exact hP, va_K.moved hW.alike hK⟩, hS.F ht⟩) hS.2.2 de_K_resource_31 hlocks
set_option maxHeartbeats 4000000 in
set_option maxRecDepth 100000 in
theorem c_K_tank (l : Launch) (D : va_G) (aa : Nat → Nat → Nat) (q : Nat → ClassId) (hJ : wJ kC aa) (σ : kS) (x1 : Int32) (x2 : Int32) (x3 : Int32) (res : Int32 × kS) (h : F_K_tank σ x1 x2 x3 = some res) : Met l by_K_tank (.code by_K_tank bc_K_tank 4 (some .boolean) :: lw_g) brm_K_tank (va_Pc [.ref (aa 0 0), .int x1, .int x2, .int x3] (kPre D aa q σ)) (va_Qi (fun (r : Int32) (u : kS) => r = res.1 ∧ u = res.2) (kB D aa q) (wA kC aa)) 0 0 (wA kC aa) := by
  refine Met.ofW (cc := bc_K_tank) (maxL := 4) (ret := (some .boolean)) (by decide) rfl ?_
  intro p e s m args below meth c s₁ B hml hv
  obtain ⟨rfl, hP, hK⟩ := hv
  have hx := B.exec
  have hb := B.bytes
  have hr := B.returns
  have ht : ∀ w ∈ lw_g, w.before ([.ref (aa 0 0), .int x1, .int x2, .int x3] : List Value).toArray s = true := fun w h => atoms_spec (ws := .code by_K_tank bc_K_tank 4 (some .boolean) :: lw_g) B.pre w (List.mem_cons_of_mem _ h)
  have hown : s.vm.findClass bR_K = some m.cls := findClass_of_methodNamed B.named
  have hlocks := B.notSynchronized
  have S : CallFix p m c bc_K_tank 4 s ([.ref (aa 0 0), .int x1, .int x2, .int x3] : List Value).toArray lw_g bR_K := ⟨hx, hb, hml, hown, ht⟩
  have hS : va_S (wA kC aa) s.heap s.heap [] := va_S.rf
  have hl := lv_entry ([.ref (aa 0 0), .int x1, .int x2, .int x3]) (n := 4) (Nat.le_of_ble_eq_true rfl)
  rw [lg_entry_eq]
  generalize (lg_sl ([.ref (aa 0 0), .int x1, .int x2, .int x3]) ++ List.replicate (4 - (lg_sl ([.ref (aa 0 0), .int x1, .int x2, .int x3])).length) Slot.unset).toArray = ls at hl ⊢
  have hl : lv_has ls 4 [(0, .ref (aa 0 0)), (1, .int x1), (2, .int x2), (3, .int x3)] := hl
  unfold F_K_tank at h
  refine lv_iload_n hx hb de_K_tank_0 rfl (lv_at hl 1 rfl) ?_
  obtain ⟨r1, hr1, h⟩ := bd_some h
  refine kq_i (va_runS (As := [.int x1]) (rest := []) S (c_K_isTank l D aa q hJ σ x1 r1 hr1) (cwS 1 ht (gs_in tw_1_221 tw_1_222 tw_1_1 tc_K_isTank) rfl rfl rfl bh_K_isTank ⟨Nat.le_of_ble_eq_true rfl, Nat.le_of_ble_eq_true rfl⟩) (kpreS hK hP) rfl rfl hl.1 rfl (lv_room (Nat.le_of_ble_eq_true rfl)) de_K_tank_1 ⟨Nat.zero_le _, Nat.zero_le _⟩) hS (fun H locs hP hS => ?_)
  refine lv_if_eq (tgt := 27) hx hb de_K_tank_4 (by decide) (fun hc => ?_) (fun hc => ?_)
  · have h := ie_t h hc
    refine lv_iconst (v := 0) hx hb de_K_tank_27 (by decide) ?_
    have h := Option.some.inj h
    subst h
    exact W.zret (v := 0) hx hb hr rfl (fun t ht hW => ⟨⟨_, _, rfl, ⟨rfl, rfl⟩, by rw [ht]; exact hP, va_K.moved hW.alike hK⟩, hS.F ht⟩) hS.2.2 de_K_tank_28 hlocks
  · have h := ie_f h hc
    refine lv_iload_n hx hb de_K_tank_7 rfl (lv_at hl 2 rfl) ?_
    refine lv_iconst (v := 0) hx hb de_K_tank_8 (by decide) ?_
    refine lv_sipush (v := 1000) hx hb de_K_tank_9 (by decide) ?_
    obtain ⟨r2, hr2, h⟩ := bd_some h
    refine kq_i (va_runS (As := [.int x2, .int 0, .int 1000]) (rest := []) S (c_K_isWithin l D aa q hJ σ x2 0 1000 r2 hr2) (cwS 3 ht (gs_in tw_1_203 tw_1_204 tw_1_1 tc_K_isWithin) rfl rfl rfl bh_K_isWithin ⟨Nat.le_of_ble_eq_true rfl, Nat.le_of_ble_eq_true rfl⟩) (kpreS hK hP) rfl rfl hl.1 rfl (lv_room (Nat.le_of_ble_eq_true rfl)) de_K_tank_12 ⟨Nat.zero_le _, Nat.zero_le _⟩) hS (fun H locs hP hS => ?_)
    refine lv_if_eq (tgt := 27) hx hb de_K_tank_15 (by decide) (fun hc => ?_) (fun hc => ?_)
    · have h := ie_t h hc
      refine lv_iconst (v := 0) hx hb de_K_tank_27 (by decide) ?_
      have h := Option.some.inj h
      subst h
      exact W.zret (v := 0) hx hb hr rfl (fun t ht hW => ⟨⟨_, _, rfl, ⟨rfl, rfl⟩, by rw [ht]; exact hP, va_K.moved hW.alike hK⟩, hS.F ht⟩) hS.2.2 de_K_tank_28 hlocks
    · have h := ie_f h hc
      refine lv_iload_n hx hb de_K_tank_18 rfl (lv_at hl 3 rfl) ?_
      refine lv_iconst (v := 0) hx hb de_K_tank_19 (by decide) ?_
      refine lv_iload_n hx hb de_K_tank_20 rfl (lv_at hl 2 rfl) ?_
      obtain ⟨r3, hr3, h⟩ := bd_some h
      refine kq_i (va_runS (As := [.int x3, .int 0, .int x2]) (rest := []) S (c_K_isWithin l D aa q hJ σ x3 0 x2 r3 hr3) (cwS 3 ht (gs_in tw_1_203 tw_1_204 tw_1_1 tc_K_isWithin) rfl rfl rfl bh_K_isWithin ⟨Nat.le_of_ble_eq_true rfl, Nat.le_of_ble_eq_true rfl⟩) (kpreS hK hP) rfl rfl hl.1 rfl (lv_room (Nat.le_of_ble_eq_true rfl)) de_K_tank_21 ⟨Nat.zero_le _, Nat.zero_le _⟩) hS (fun H locs hP hS => ?_)
      refine lv_if_ne (tgt := 29) hx hb de_K_tank_24 (by decide) (fun hc => ?_) (fun hc => ?_)
      · have h := ie_f h hc
        refine lv_aload_n hx hb de_K_tank_29 rfl (lv_at hl 0 rfl) ?_
        refine kg_0 (v := .ref (aa 3 0)) hx hb ht hown hK hP (by decide) 2 (by decide) tw_1_173 rfl de_K_tank_30 ?_
        refine lv_iload_n hx hb de_K_tank_33 rfl (lv_at hl 1 rfl) ?_
        obtain ⟨hi4, h⟩ := gd_some h
        refine kl_3 hx hb hK hP (by decide) (inb_in hi4) de_K_tank_34 (fun j5 ej5 => ?_)
        have h := lx_at h j5 ej5
        have hj5 : j5 < 4 := by rw [ej5]; exact inb_lt hi4
        refine lv_iload_n hx hb de_K_tank_35 rfl (lv_at hl 2 rfl) ?_
        refine kp_15_capacity hx hb ht hown hK hP hJ hS hj5 tw_1_163 de_K_tank_36 (fun H locs hP hS => ?_)
        obtain ⟨σ6, eσ6, h⟩ := lx_ex h
        rw [← eσ6] at hP
        refine lv_aload_n hx hb de_K_tank_39 rfl (lv_at hl 0 rfl) ?_
        refine kg_0 (v := .ref (aa 3 0)) hx hb ht hown hK hP (by decide) 2 (by decide) tw_1_173 rfl de_K_tank_40 ?_
        refine lv_iload_n hx hb de_K_tank_43 rfl (lv_at hl 1 rfl) ?_
        obtain ⟨hi7, h⟩ := gd_some h
        refine kl_3 hx hb hK hP (by decide) (inb_in hi7) de_K_tank_44 (fun j8 ej8 => ?_)
        have h := lx_at h j8 ej8
        have hj8 : j8 < 4 := by rw [ej8]; exact inb_lt hi7
        refine lv_iload_n hx hb de_K_tank_45 rfl (lv_at hl 3 rfl) ?_
        refine kp_15_level hx hb ht hown hK hP hJ hS hj8 tw_1_165 de_K_tank_46 (fun H locs hP hS => ?_)
        obtain ⟨σ9, eσ9, h⟩ := lx_ex h
        rw [← eσ9] at hP
        refine lv_iconst (v := 1) hx hb de_K_tank_49 (by decide) ?_
        have h := Option.some.inj h
        subst h
        exact W.zret (v := 1) hx hb hr rfl (fun t ht hW => ⟨⟨_, _, rfl, ⟨rfl, rfl⟩, by rw [ht]; exact hP, va_K.moved hW.alike hK⟩, hS.F ht⟩) hS.2.2 de_K_tank_50 hlocks
      · have h := ie_t h hc
        refine lv_iconst (v := 0) hx hb de_K_tank_27 (by decide) ?_
        have h := Option.some.inj h
        subst h
        exact W.zret (v := 0) hx hb hr rfl (fun t ht hW => ⟨⟨_, _, rfl, ⟨rfl, rfl⟩, by rw [ht]; exact hP, va_K.moved hW.alike hK⟩, hS.F ht⟩) hS.2.2 de_K_tank_28 hlocks
set_option maxHeartbeats 4000000 in
set_option maxRecDepth 100000 in
theorem c_K_activate (l : Launch) (D : va_G) (aa : Nat → Nat → Nat) (q : Nat → ClassId) (hJ : wJ kC aa) (σ : kS) (x1 : Int32) (x2 : Int32) (res : Int32 × kS) (h : F_K_activate σ x1 x2 = some res) : Met l by_K_activate (.code by_K_activate bc_K_activate 4 (some .boolean) :: lw_g) brm_K_activate (va_Pc [.ref (aa 0 0), .int x1, .int x2] (kPre D aa q σ)) (va_Qi (fun (r : Int32) (u : kS) => r = res.1 ∧ u = res.2) (kB D aa q) (wA kC aa)) 0 0 (wA kC aa) := by
  refine Met.ofW (cc := bc_K_activate) (maxL := 4) (ret := (some .boolean)) (by decide) rfl ?_
  intro p e s m args below meth c s₁ B hml hv
  obtain ⟨rfl, hP, hK⟩ := hv
  have hx := B.exec
  have hb := B.bytes
  have hr := B.returns
  have ht : ∀ w ∈ lw_g, w.before ([.ref (aa 0 0), .int x1, .int x2] : List Value).toArray s = true := fun w h => atoms_spec (ws := .code by_K_activate bc_K_activate 4 (some .boolean) :: lw_g) B.pre w (List.mem_cons_of_mem _ h)
  have hown : s.vm.findClass bR_K = some m.cls := findClass_of_methodNamed B.named
  have hlocks := B.notSynchronized
  have S : CallFix p m c bc_K_activate 4 s ([.ref (aa 0 0), .int x1, .int x2] : List Value).toArray lw_g bR_K := ⟨hx, hb, hml, hown, ht⟩
  have hS : va_S (wA kC aa) s.heap s.heap [] := va_S.rf
  have hl := lv_entry ([.ref (aa 0 0), .int x1, .int x2]) (n := 4) (Nat.le_of_ble_eq_true rfl)
  rw [lg_entry_eq]
  generalize (lg_sl ([.ref (aa 0 0), .int x1, .int x2]) ++ List.replicate (4 - (lg_sl ([.ref (aa 0 0), .int x1, .int x2])).length) Slot.unset).toArray = ls at hl ⊢
  have hl : lv_has ls 4 [(0, .ref (aa 0 0)), (1, .int x1), (2, .int x2)] := hl
  unfold F_K_activate at h
  refine lv_aload_n hx hb de_K_activate_0 rfl (lv_at hl 0 rfl) ?_
  refine lv_iload_n hx hb de_K_activate_1 rfl (lv_at hl 1 rfl) ?_
  obtain ⟨r1, hr1, h⟩ := bd_some h
  refine kq_i (va_runV (As := [.int x1]) (rest := []) S (c_K_isProcess l D aa q hJ σ x1 r1 hr1) (cwV 1 ht (gv_in tw_1_210 tw_1_212 ts_K_isProcess tw_1_1 tc_K_isProcess) rfl rfl rfl bh_K_isProcess ⟨Nat.le_of_ble_eq_true rfl, Nat.le_of_ble_eq_true rfl⟩) (kpreV hK hP (kr_0 hK hP (by decide))) rfl rfl hl.1 rfl (lv_room (Nat.le_of_ble_eq_true rfl)) de_K_activate_2 ⟨Nat.zero_le _, Nat.zero_le _⟩) hS (fun H locs hP hS => ?_)
  refine lv_if_eq (tgt := 18) hx hb de_K_activate_5 (by decide) (fun hc => ?_) (fun hc => ?_)
  · have h := ie_t h hc
    refine lv_iconst (v := 0) hx hb de_K_activate_18 (by decide) ?_
    have h := Option.some.inj h
    subst h
    exact W.zret (v := 0) hx hb hr rfl (fun t ht hW => ⟨⟨_, _, rfl, ⟨rfl, rfl⟩, by rw [ht]; exact hP, va_K.moved hW.alike hK⟩, hS.F ht⟩) hS.2.2 de_K_activate_19 hlocks
  · have h := ie_f h hc
    refine lv_iload_n hx hb de_K_activate_8 rfl (lv_at hl 2 rfl) ?_
    refine lv_iconst (v := 0) hx hb de_K_activate_9 (by decide) ?_
    refine lv_ldc (v := 1000000) hx hb hown (ht _ tw_1_217) de_K_activate_10 ?_
    obtain ⟨r2, hr2, h⟩ := bd_some h
    refine kq_i (va_runS (As := [.int x2, .int 0, .int 1000000]) (rest := []) S (c_K_isWithin l D aa q hJ σ x2 0 1000000 r2 hr2) (cwS 3 ht (gs_in tw_1_203 tw_1_204 tw_1_1 tc_K_isWithin) rfl rfl rfl bh_K_isWithin ⟨Nat.le_of_ble_eq_true rfl, Nat.le_of_ble_eq_true rfl⟩) (kpreS hK hP) rfl rfl hl.1 rfl (lv_room (Nat.le_of_ble_eq_true rfl)) de_K_activate_12 ⟨Nat.zero_le _, Nat.zero_le _⟩) hS (fun H locs hP hS => ?_)
    refine lv_if_ne (tgt := 20) hx hb de_K_activate_15 (by decide) (fun hc => ?_) (fun hc => ?_)
    · have h := ie_f h hc
      refine lv_aload_n hx hb de_K_activate_20 rfl (lv_at hl 0 rfl) ?_
      refine kg_0 (v := .ref (aa 1 0)) hx hb ht hown hK hP (by decide) 0 (by decide) tw_1_171 rfl de_K_activate_21 ?_
      refine lv_iload_n hx hb de_K_activate_24 rfl (lv_at hl 1 rfl) ?_
      obtain ⟨hi3, h⟩ := gd_some h
      refine kl_1 hx hb hK hP (by decide) (inb_in hi3) de_K_activate_25 (fun j4 ej4 => ?_)
      have h := lx_at h j4 ej4
      have hj4 : j4 < 12 := by rw [ej4]; exact inb_lt hi3
      refine lv_astore_n (lv' := [(3, .ref (aa 9 j4)), (0, .ref (aa 0 0)), (1, .int x1), (2, .int x2)]) hx hb de_K_activate_26 rfl hl (by decide) rfl (fun ls hl => ?_)
      refine lv_aload_n hx hb de_K_activate_27 rfl (lv_at hl 0 rfl) ?_
      refine kg_9 (v := .int (gI σ 7 j4 0)) hx hb ht hown hK hP hj4 9 (by decide) tw_1_79 rfl de_K_activate_28 ?_
      refine lv_if_eq (tgt := 44) hx hb de_K_activate_31 (by decide) (fun hc => ?_) (fun hc => ?_)
      · have h := ie_t h hc
        refine lv_aload_n hx hb de_K_activate_44 rfl (lv_at hl 1 rfl) ?_
        refine lv_aload_n hx hb de_K_activate_45 rfl (lv_at hl 0 rfl) ?_
        refine lv_iconst (v := 1) hx hb de_K_activate_46 (by decide) ?_
        refine lv_iload_n hx hb de_K_activate_47 rfl (lv_at hl 3 rfl) ?_
        obtain ⟨r5, hr5, h⟩ := bd_some h
        refine kq_v (va_runV (As := [.ref (aa 9 j4), .int 1, .int x2]) (rest := []) S (c_K_enter l D aa q hJ σ j4 hj4 1 x2 r5 hr5) (cwV 3 ht (gv_in tw_2_12 tw_2_14 ts_K_enter tw_1_1 tc_K_enter) rfl rfl rfl bh_K_enter ⟨Nat.le_of_ble_eq_true rfl, Nat.le_of_ble_eq_true rfl⟩) (kpreV hK hP (kr_0 hK hP (by decide))) rfl rfl hl.1 rfl (lv_room (Nat.le_of_ble_eq_true rfl)) de_K_activate_48 ⟨Nat.zero_le _, Nat.zero_le _⟩) hS (fun H locs hP hS => ?_)
        refine lv_iconst (v := 1) hx hb de_K_activate_51 (by decide) ?_
        have h := Option.some.inj h
        subst h
        exact W.zret (v := 1) hx hb hr rfl (fun t ht hW => ⟨⟨_, _, rfl, ⟨rfl, rfl⟩, by rw [ht]; exact hP, va_K.moved hW.alike hK⟩, hS.F ht⟩) hS.2.2 de_K_activate_52 hlocks
      · have h := ie_f h hc
        refine lv_aload_n hx hb de_K_activate_34 rfl (lv_at hl 0 rfl) ?_
        refine kg_9 (v := .int (gI σ 7 j4 0)) hx hb ht hown hK hP hj4 9 (by decide) tw_1_79 rfl de_K_activate_35 ?_
        refine lv_iconst (v := 3) hx hb de_K_activate_38 (by decide) ?_
        refine lv_icmp_eq (tgt := 44) hx hb de_K_activate_39 (by decide) (fun hc => ?_) (fun hc => ?_)
        · have h := ie_t h hc
          refine lv_aload_n hx hb de_K_activate_44 rfl (lv_at hl 1 rfl) ?_
          refine lv_aload_n hx hb de_K_activate_45 rfl (lv_at hl 0 rfl) ?_
          refine lv_iconst (v := 1) hx hb de_K_activate_46 (by decide) ?_
          refine lv_iload_n hx hb de_K_activate_47 rfl (lv_at hl 3 rfl) ?_
          obtain ⟨r6, hr6, h⟩ := bd_some h
          refine kq_v (va_runV (As := [.ref (aa 9 j4), .int 1, .int x2]) (rest := []) S (c_K_enter l D aa q hJ σ j4 hj4 1 x2 r6 hr6) (cwV 3 ht (gv_in tw_2_12 tw_2_14 ts_K_enter tw_1_1 tc_K_enter) rfl rfl rfl bh_K_enter ⟨Nat.le_of_ble_eq_true rfl, Nat.le_of_ble_eq_true rfl⟩) (kpreV hK hP (kr_0 hK hP (by decide))) rfl rfl hl.1 rfl (lv_room (Nat.le_of_ble_eq_true rfl)) de_K_activate_48 ⟨Nat.zero_le _, Nat.zero_le _⟩) hS (fun H locs hP hS => ?_)
          refine lv_iconst (v := 1) hx hb de_K_activate_51 (by decide) ?_
          have h := Option.some.inj h
          subst h
          exact W.zret (v := 1) hx hb hr rfl (fun t ht hW => ⟨⟨_, _, rfl, ⟨rfl, rfl⟩, by rw [ht]; exact hP, va_K.moved hW.alike hK⟩, hS.F ht⟩) hS.2.2 de_K_activate_52 hlocks
        · have h := ie_f h hc
          refine lv_iconst (v := 0) hx hb de_K_activate_42 (by decide) ?_
          have h := Option.some.inj h
          subst h
          exact W.zret (v := 0) hx hb hr rfl (fun t ht hW => ⟨⟨_, _, rfl, ⟨rfl, rfl⟩, by rw [ht]; exact hP, va_K.moved hW.alike hK⟩, hS.F ht⟩) hS.2.2 de_K_activate_43 hlocks
    · have h := ie_t h hc
      refine lv_iconst (v := 0) hx hb de_K_activate_18 (by decide) ?_
      have h := Option.some.inj h
      subst h
      exact W.zret (v := 0) hx hb hr rfl (fun t ht hW => ⟨⟨_, _, rfl, ⟨rfl, rfl⟩, by rw [ht]; exact hP, va_K.moved hW.alike hK⟩, hS.F ht⟩) hS.2.2 de_K_activate_19 hlocks
set_option maxHeartbeats 4000000 in
set_option maxRecDepth 100000 in
theorem c_P_isBreakable (l : Launch) (D : va_G) (aa : Nat → Nat → Nat) (q : Nat → ClassId) (hJ : wJ kC aa) (σ : kS) (g0 : Nat) (hg0 : g0 < 12) (res : Int32) (h : F_P_isBreakable σ g0 = some res) : Met l by_P_isBreakable (.code by_P_isBreakable bc_P_isBreakable 1 (some .boolean) :: lw_g) brm_P_isBreakable (va_Pc [.ref (aa 9 g0)] (kPre D aa q σ)) (va_Qi (fun (r : Int32) (u : kS) => r = res ∧ u = σ) (kB D aa q) (wA kC aa)) 0 0 (wA kC aa) := by
  refine Met.ofW (cc := bc_P_isBreakable) (maxL := 1) (ret := (some .boolean)) (by decide) rfl ?_
  intro p e s m args below meth c s₁ B hml hv
  obtain ⟨rfl, hP, hK⟩ := hv
  have hx := B.exec
  have hb := B.bytes
  have hr := B.returns
  have ht : ∀ w ∈ lw_g, w.before ([.ref (aa 9 g0)] : List Value).toArray s = true := fun w h => atoms_spec (ws := .code by_P_isBreakable bc_P_isBreakable 1 (some .boolean) :: lw_g) B.pre w (List.mem_cons_of_mem _ h)
  have hown : s.vm.findClass bR_P = some m.cls := findClass_of_methodNamed B.named
  have hlocks := B.notSynchronized
  have S : CallFix p m c bc_P_isBreakable 1 s ([.ref (aa 9 g0)] : List Value).toArray lw_g bR_P := ⟨hx, hb, hml, hown, ht⟩
  have hS : va_S (wA kC aa) s.heap s.heap [] := va_S.rf
  have hl := lv_entry ([.ref (aa 9 g0)]) (n := 1) (Nat.le_of_ble_eq_true rfl)
  rw [lg_entry_eq]
  generalize (lg_sl ([.ref (aa 9 g0)]) ++ List.replicate (1 - (lg_sl ([.ref (aa 9 g0)])).length) Slot.unset).toArray = ls at hl ⊢
  have hl : lv_has ls 1 [(0, .ref (aa 9 g0))] := hl
  unfold F_P_isBreakable at h
  refine lv_aload_n hx hb de_P_isBreakable_0 rfl (lv_at hl 0 rfl) ?_
  refine kg_9 (v := .int (gI σ 7 g0 0)) hx hb ht hown hK hP hg0 9 (by decide) tw_1_78 rfl de_P_isBreakable_1 ?_
  refine lv_iconst (v := 2) hx hb de_P_isBreakable_4 (by decide) ?_
  refine lv_icmp_eq (tgt := 32) hx hb de_P_isBreakable_5 (by decide) (fun hc => ?_) (fun hc => ?_)
  · have h := ie_t h hc
    refine lv_iconst (v := 1) hx hb de_P_isBreakable_32 (by decide) ?_
    refine lv_goto (tgt := 37) hx hb de_P_isBreakable_33 (by decide) ?_
    have h := Option.some.inj h
    subst h
    exact W.zret (v := 1) hx hb hr rfl (fun t ht hW => ⟨⟨_, _, rfl, ⟨rfl, rfl⟩, by rw [ht]; exact hP, va_K.moved hW.alike hK⟩, hS.F ht⟩) hS.2.2 de_P_isBreakable_37 hlocks
  · have h := ie_f h hc
    refine lv_aload_n hx hb de_P_isBreakable_8 rfl (lv_at hl 0 rfl) ?_
    refine kg_9 (v := .int (gI σ 7 g0 0)) hx hb ht hown hK hP hg0 9 (by decide) tw_1_78 rfl de_P_isBreakable_9 ?_
    refine lv_iconst (v := 3) hx hb de_P_isBreakable_12 (by decide) ?_
    refine lv_icmp_eq (tgt := 32) hx hb de_P_isBreakable_13 (by decide) (fun hc => ?_) (fun hc => ?_)
    · have h := ie_t h hc
      refine lv_iconst (v := 1) hx hb de_P_isBreakable_32 (by decide) ?_
      refine lv_goto (tgt := 37) hx hb de_P_isBreakable_33 (by decide) ?_
      have h := Option.some.inj h
      subst h
      exact W.zret (v := 1) hx hb hr rfl (fun t ht hW => ⟨⟨_, _, rfl, ⟨rfl, rfl⟩, by rw [ht]; exact hP, va_K.moved hW.alike hK⟩, hS.F ht⟩) hS.2.2 de_P_isBreakable_37 hlocks
    · have h := ie_f h hc
      refine lv_aload_n hx hb de_P_isBreakable_16 rfl (lv_at hl 0 rfl) ?_
      refine kg_9 (v := .int (gI σ 7 g0 0)) hx hb ht hown hK hP hg0 9 (by decide) tw_1_78 rfl de_P_isBreakable_17 ?_
      refine lv_iconst (v := 4) hx hb de_P_isBreakable_20 (by decide) ?_
      refine lv_icmp_eq (tgt := 32) hx hb de_P_isBreakable_21 (by decide) (fun hc => ?_) (fun hc => ?_)
      · have h := ie_t h hc
        refine lv_iconst (v := 1) hx hb de_P_isBreakable_32 (by decide) ?_
        refine lv_goto (tgt := 37) hx hb de_P_isBreakable_33 (by decide) ?_
        have h := Option.some.inj h
        subst h
        exact W.zret (v := 1) hx hb hr rfl (fun t ht hW => ⟨⟨_, _, rfl, ⟨rfl, rfl⟩, by rw [ht]; exact hP, va_K.moved hW.alike hK⟩, hS.F ht⟩) hS.2.2 de_P_isBreakable_37 hlocks
      · have h := ie_f h hc
        refine lv_aload_n hx hb de_P_isBreakable_24 rfl (lv_at hl 0 rfl) ?_
        refine kg_9 (v := .int (gI σ 7 g0 0)) hx hb ht hown hK hP hg0 9 (by decide) tw_1_78 rfl de_P_isBreakable_25 ?_
        refine lv_iconst (v := 5) hx hb de_P_isBreakable_28 (by decide) ?_
        refine lv_icmp_ne (tgt := 36) hx hb de_P_isBreakable_29 (by decide) (fun hc => ?_) (fun hc => ?_)
        · have h := ie_f h hc
          refine lv_iconst (v := 0) hx hb de_P_isBreakable_36 (by decide) ?_
          have h := Option.some.inj h
          subst h
          exact W.zret (v := 0) hx hb hr rfl (fun t ht hW => ⟨⟨_, _, rfl, ⟨rfl, rfl⟩, by rw [ht]; exact hP, va_K.moved hW.alike hK⟩, hS.F ht⟩) hS.2.2 de_P_isBreakable_37 hlocks
        · have h := ie_t h hc
          refine lv_iconst (v := 1) hx hb de_P_isBreakable_32 (by decide) ?_
          refine lv_goto (tgt := 37) hx hb de_P_isBreakable_33 (by decide) ?_
          have h := Option.some.inj h
          subst h
          exact W.zret (v := 1) hx hb hr rfl (fun t ht hW => ⟨⟨_, _, rfl, ⟨rfl, rfl⟩, by rw [ht]; exact hP, va_K.moved hW.alike hK⟩, hS.F ht⟩) hS.2.2 de_P_isBreakable_37 hlocks
