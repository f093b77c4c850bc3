set_option maxHeartbeats 4000000 in
set_option maxRecDepth 100000 in
theorem c_K_waiting (l : Launch) (D : va_G) (aa : Nat → Nat → Nat) (q : Nat → ClassId) (hJ : wJ kC aa) (σ : kS) (x1 : Int32) (res : Int32) (h : F_K_waiting σ x1 = some res) : Met l by_K_waiting (.code by_K_waiting bc_K_waiting 2 (some .int) :: lw_g) brm_K_waiting (va_Pc [.ref (aa 0 0), .int x1] (kPre D aa q σ)) (va_Qi (fun (r : Int32) (u : kS) => r = res ∧ u = σ) (kB D aa q) (wA kC aa)) 0 0 (wA kC aa) := by
  refine Met.ofW (cc := bc_K_waiting) (maxL := 2) (ret := (some .int)) (by decide) rfl ?_
  intro p e s m args below meth c s₁ B hml hv
  obtain ⟨rfl, hP, hK⟩ := hv
  have hx := B.exec
  have hb := B.bytes
  have hr := B.returns
  have ht : ∀ w ∈ lw_g, w.before ([.ref (aa 0 0), .int x1] : List Value).toArray s = true := fun w h => atoms_spec (ws := .code by_K_waiting bc_K_waiting 2 (some .int) :: lw_g) B.pre w (List.mem_cons_of_mem _ h)
  have hown : s.vm.findClass bR_K = some m.cls := findClass_of_methodNamed B.named
  have hlocks := B.notSynchronized
  have S : CallFix p m c bc_K_waiting 2 s ([.ref (aa 0 0), .int x1] : List Value).toArray lw_g bR_K := ⟨hx, hb, hml, hown, ht⟩
  have hS : va_S (wA kC aa) s.heap s.heap [] := va_S.rf
  have hl := lv_entry ([.ref (aa 0 0), .int x1]) (n := 2) (Nat.le_of_ble_eq_true rfl)
  rw [lg_entry_eq]
  generalize (lg_sl ([.ref (aa 0 0), .int x1]) ++ List.replicate (2 - (lg_sl ([.ref (aa 0 0), .int x1])).length) Slot.unset).toArray = ls at hl ⊢
  have hl : lv_has ls 2 [(0, .ref (aa 0 0)), (1, .int x1)] := hl
  unfold F_K_waiting at h
  refine lv_iload_n hx hb de_K_waiting_0 rfl (lv_at hl 1 rfl) ?_
  refine lv_iconst (v := 4) hx hb de_K_waiting_1 (by decide) ?_
  refine lv_icmp_ne (tgt := 13) hx hb de_K_waiting_2 (by decide) (fun hc => ?_) (fun hc => ?_)
  · have h := ie_f h hc
    refine lv_iload_n hx hb de_K_waiting_13 rfl (lv_at hl 1 rfl) ?_
    obtain ⟨r1, hr1, h⟩ := bd_some h
    refine kq_i (va_runS (As := [.int x1]) (rest := []) S (c_K_isResource l D aa q hJ σ x1 r1 hr1) (cwS 1 ht (gs_in tw_1_218 tw_1_219 tw_1_1 tc_K_isResource) rfl rfl rfl bh_K_isResource ⟨Nat.le_of_ble_eq_true rfl, Nat.le_of_ble_eq_true rfl⟩) (kpreS hK hP) rfl rfl hl.1 rfl (lv_room (Nat.le_of_ble_eq_true rfl)) de_K_waiting_14 ⟨Nat.zero_le _, Nat.zero_le _⟩) hS (fun H locs hP hS => ?_)
    refine lv_if_eq (tgt := 35) hx hb de_K_waiting_17 (by decide) (fun hc => ?_) (fun hc => ?_)
    · have h := ie_t h hc
      refine lv_iconst (v := (-1)) hx hb de_K_waiting_35 (by decide) ?_
      have h := Option.some.inj h
      subst h
      exact W.iret (v := (-1)) hx hb hr (fun t ht hW => ⟨⟨_, _, rfl, ⟨rfl, rfl⟩, by rw [ht]; exact hP, va_K.moved hW.alike hK⟩, hS.F ht⟩) hS.2.2 de_K_waiting_36 hlocks
    · have h := ie_f h hc
      refine lv_aload_n hx hb de_K_waiting_20 rfl (lv_at hl 0 rfl) ?_
      refine kg_0 (v := .ref (aa 2 0)) hx hb ht hown hK hP (by decide) 1 (by decide) tw_1_172 rfl de_K_waiting_21 ?_
      refine lv_iload_n hx hb de_K_waiting_24 rfl (lv_at hl 1 rfl) ?_
      obtain ⟨hi2, h⟩ := gd_some h
      refine kl_2 hx hb hK hP (by decide) (inb_in hi2) de_K_waiting_25 (fun j3 ej3 => ?_)
      have h := lx_at h j3 ej3
      have hj3 : j3 < 4 := by rw [ej3]; exact inb_lt hi2
      refine kg_14 (v := .ref (aa 4 j3)) hx hb ht hown hK hP hj3 0 (by decide) tw_1_133 rfl de_K_waiting_26 ?_
      refine kg_4 (v := .int (gI σ 19 j3 0)) hx hb ht hown hK hP (Nat.lt_succ_of_lt hj3) 1 (by decide) tw_1_32 rfl de_K_waiting_29 ?_
      refine lv_goto (tgt := 36) hx hb de_K_waiting_32 (by decide) ?_
      have h := Option.some.inj h
      subst h
      exact W.iret (v := gI σ 19 j3 0) hx hb hr (fun t ht hW => ⟨⟨_, _, rfl, ⟨rfl, rfl⟩, by rw [ht]; exact hP, va_K.moved hW.alike hK⟩, hS.F ht⟩) hS.2.2 de_K_waiting_36 hlocks
  · have h := ie_t h hc
    refine lv_aload_n hx hb de_K_waiting_5 rfl (lv_at hl 0 rfl) ?_
    refine kg_0 (v := .ref (aa 4 4)) hx hb ht hown hK hP (by decide) 3 (by decide) tw_1_174 rfl de_K_waiting_6 ?_
    refine kg_4 (v := .int (gI σ 19 4 0)) hx hb ht hown hK hP (by decide) 1 (by decide) tw_1_32 rfl de_K_waiting_9 ?_
    have h := Option.some.inj h
    subst h
    exact W.iret (v := gI σ 19 4 0) hx hb hr (fun t ht hW => ⟨⟨_, _, rfl, ⟨rfl, rfl⟩, by rw [ht]; exact hP, va_K.moved hW.alike hK⟩, hS.F ht⟩) hS.2.2 de_K_waiting_12 hlocks
set_option maxHeartbeats 4000000 in
set_option maxRecDepth 100000 in
theorem c_K_area (l : Launch) (D : va_G) (aa : Nat → Nat → Nat) (q : Nat → ClassId) (hJ : wJ kC aa) (σ : kS) (x1 : Int32) (res : Int64) (h : F_K_area σ x1 = some res) : Met l by_K_area (.code by_K_area bc_K_area 2 (some .long) :: lw_g) brm_K_area (va_Pc [.ref (aa 0 0), .int x1] (kPre D aa q σ)) (va_Ql (fun (r : Int64) (u : kS) => r = res ∧ u = σ) (kB D aa q) (wA kC aa)) 0 0 (wA kC aa) := by
  refine Met.ofW (cc := bc_K_area) (maxL := 2) (ret := (some .long)) (by decide) rfl ?_
  intro p e s m args below meth c s₁ B hml hv
  obtain ⟨rfl, hP, hK⟩ := hv
  have hx := B.exec
  have hb := B.bytes
  have hr := B.returns
  have ht : ∀ w ∈ lw_g, w.before ([.ref (aa 0 0), .int x1] : List Value).toArray s = true := fun w h => atoms_spec (ws := .code by_K_area bc_K_area 2 (some .long) :: lw_g) B.pre w (List.mem_cons_of_mem _ h)
  have hown : s.vm.findClass bR_K = some m.cls := findClass_of_methodNamed B.named
  have hlocks := B.notSynchronized
  have S : CallFix p m c bc_K_area 2 s ([.ref (aa 0 0), .int x1] : List Value).toArray lw_g bR_K := ⟨hx, hb, hml, hown, ht⟩
  have hS : va_S (wA kC aa) s.heap s.heap [] := va_S.rf
  have hl := lv_entry ([.ref (aa 0 0), .int x1]) (n := 2) (Nat.le_of_ble_eq_true rfl)
  rw [lg_entry_eq]
  generalize (lg_sl ([.ref (aa 0 0), .int x1]) ++ List.replicate (2 - (lg_sl ([.ref (aa 0 0), .int x1])).length) Slot.unset).toArray = ls at hl ⊢
  have hl : lv_has ls 2 [(0, .ref (aa 0 0)), (1, .int x1)] := hl
  unfold F_K_area at h
  refine lv_iload_n hx hb de_K_area_0 rfl (lv_at hl 1 rfl) ?_
  obtain ⟨r1, hr1, h⟩ := bd_some h
  refine kq_i (va_runS (As := [.int x1]) (rest := []) S (c_K_isResource l D aa q hJ σ x1 r1 hr1) (cwS 1 ht (gs_in tw_1_218 tw_1_219 tw_1_1 tc_K_isResource) rfl rfl rfl bh_K_isResource ⟨Nat.le_of_ble_eq_true rfl, Nat.le_of_ble_eq_true rfl⟩) (kpreS hK hP) rfl rfl hl.1 rfl (lv_room (Nat.le_of_ble_eq_true rfl)) de_K_area_1 ⟨Nat.zero_le _, Nat.zero_le _⟩) hS (fun H locs hP hS => ?_)
  refine lv_if_eq (tgt := 19) hx hb de_K_area_4 (by decide) (fun hc => ?_) (fun hc => ?_)
  · have h := ie_t h hc
    refine lv_ldc2 (v := (-1)) hx hb hown (ht _ tw_2_164) de_K_area_19 ?_
    have h := Option.some.inj h
    subst h
    exact W.lret (v := (-1)) hx hb hr (fun t ht hW => ⟨⟨_, _, rfl, ⟨rfl, rfl⟩, by rw [ht]; exact hP, va_K.moved hW.alike hK⟩, hS.F ht⟩) hS.2.2 de_K_area_22 hlocks
  · have h := ie_f h hc
    refine lv_aload_n hx hb de_K_area_7 rfl (lv_at hl 0 rfl) ?_
    refine kg_0 (v := .ref (aa 2 0)) hx hb ht hown hK hP (by decide) 1 (by decide) tw_1_172 rfl de_K_area_8 ?_
    refine lv_iload_n hx hb de_K_area_11 rfl (lv_at hl 1 rfl) ?_
    obtain ⟨hi2, h⟩ := gd_some h
    refine kl_2 hx hb hK hP (by decide) (inb_in hi2) de_K_area_12 (fun j3 ej3 => ?_)
    have h := lx_at h j3 ej3
    have hj3 : j3 < 4 := by rw [ej3]; exact inb_lt hi2
    refine kg_14 (v := .long (gL σ 5 j3 0)) hx hb ht hown hK hP hj3 4 (by decide) tw_1_141 rfl de_K_area_13 ?_
    refine lv_goto (tgt := 22) hx hb de_K_area_16 (by decide) ?_
    have h := Option.some.inj h
    subst h
    exact W.lret (v := gL σ 5 j3 0) hx hb hr (fun t ht hW => ⟨⟨_, _, rfl, ⟨rfl, rfl⟩, by rw [ht]; exact hP, va_K.moved hW.alike hK⟩, hS.F ht⟩) hS.2.2 de_K_area_22 hlocks
set_option maxHeartbeats 4000000 in
set_option maxRecDepth 100000 in
theorem c_K_waited (l : Launch) (D : va_G) (aa : Nat → Nat → Nat) (q : Nat → ClassId) (hJ : wJ kC aa) (σ : kS) (x1 : Int32) (res : Int64) (h : F_K_waited σ x1 = some res) : Met l by_K_waited (.code by_K_waited bc_K_waited 2 (some .long) :: lw_g) brm_K_waited (va_Pc [.ref (aa 0 0), .int x1] (kPre D aa q σ)) (va_Ql (fun (r : Int64) (u : kS) => r = res ∧ u = σ) (kB D aa q) (wA kC aa)) 0 0 (wA kC aa) := by
  refine Met.ofW (cc := bc_K_waited) (maxL := 2) (ret := (some .long)) (by decide) rfl ?_
  intro p e s m args below meth c s₁ B hml hv
  obtain ⟨rfl, hP, hK⟩ := hv
  have hx := B.exec
  have hb := B.bytes
  have hr := B.returns
  have ht : ∀ w ∈ lw_g, w.before ([.ref (aa 0 0), .int x1] : List Value).toArray s = true := fun w h => atoms_spec (ws := .code by_K_waited bc_K_waited 2 (some .long) :: lw_g) B.pre w (List.mem_cons_of_mem _ h)
  have hown : s.vm.findClass bR_K = some m.cls := findClass_of_methodNamed B.named
  have hlocks := B.notSynchronized
  have S : CallFix p m c bc_K_waited 2 s ([.ref (aa 0 0), .int x1] : List Value).toArray lw_g bR_K := ⟨hx, hb, hml, hown, ht⟩
  have hS : va_S (wA kC aa) s.heap s.heap [] := va_S.rf
  have hl := lv_entry ([.ref (aa 0 0), .int x1]) (n := 2) (Nat.le_of_ble_eq_true rfl)
  rw [lg_entry_eq]
  generalize (lg_sl ([.ref (aa 0 0), .int x1]) ++ List.replicate (2 - (lg_sl ([.ref (aa 0 0), .int x1])).length) Slot.unset).toArray = ls at hl ⊢
  have hl : lv_has ls 2 [(0, .ref (aa 0 0)), (1, .int x1)] := hl
  unfold F_K_waited at h
  refine lv_iload_n hx hb de_K_waited_0 rfl (lv_at hl 1 rfl) ?_
  obtain ⟨r1, hr1, h⟩ := bd_some h
  refine kq_i (va_runS (As := [.int x1]) (rest := []) S (c_K_isResource l D aa q hJ σ x1 r1 hr1) (cwS 1 ht (gs_in tw_1_218 tw_1_219 tw_1_1 tc_K_isResource) rfl rfl rfl bh_K_isResource ⟨Nat.le_of_ble_eq_true rfl, Nat.le_of_ble_eq_true rfl⟩) (kpreS hK hP) rfl rfl hl.1 rfl (lv_room (Nat.le_of_ble_eq_true rfl)) de_K_waited_1 ⟨Nat.zero_le _, Nat.zero_le _⟩) hS (fun H locs hP hS => ?_)
  refine lv_if_eq (tgt := 19) hx hb de_K_waited_4 (by decide) (fun hc => ?_) (fun hc => ?_)
  · have h := ie_t h hc
    refine lv_ldc2 (v := (-1)) hx hb hown (ht _ tw_2_164) de_K_waited_19 ?_
    have h := Option.some.inj h
    subst h
    exact W.lret (v := (-1)) hx hb hr (fun t ht hW => ⟨⟨_, _, rfl, ⟨rfl, rfl⟩, by rw [ht]; exact hP, va_K.moved hW.alike hK⟩, hS.F ht⟩) hS.2.2 de_K_waited_22 hlocks
  · have h := ie_f h hc
    refine lv_aload_n hx hb de_K_waited_7 rfl (lv_at hl 0 rfl) ?_
    refine kg_0 (v := .ref (aa 2 0)) hx hb ht hown hK hP (by decide) 1 (by decide) tw_1_172 rfl de_K_waited_8 ?_
    refine lv_iload_n hx hb de_K_waited_11 rfl (lv_at hl 1 rfl) ?_
    obtain ⟨hi2, h⟩ := gd_some h
    refine kl_2 hx hb hK hP (by decide) (inb_in hi2) de_K_waited_12 (fun j3 ej3 => ?_)
    have h := lx_at h j3 ej3
    have hj3 : j3 < 4 := by rw [ej3]; exact inb_lt hi2
    refine kg_14 (v := .long (gL σ 6 j3 0)) hx hb ht hown hK hP hj3 5 (by decide) tw_1_143 rfl de_K_waited_13 ?_
    refine lv_goto (tgt := 22) hx hb de_K_waited_16 (by decide) ?_
    have h := Option.some.inj h
    subst h
    exact W.lret (v := gL σ 6 j3 0) hx hb hr (fun t ht hW => ⟨⟨_, _, rfl, ⟨rfl, rfl⟩, by rw [ht]; exact hP, va_K.moved hW.alike hK⟩, hS.F ht⟩) hS.2.2 de_K_waited_22 hlocks
set_option maxHeartbeats 4000000 in
set_option maxRecDepth 100000 in
theorem c_K_level (l : Launch) (D : va_G) (aa : Nat → Nat → Nat) (q : Nat → ClassId) (hJ : wJ kC aa) (σ : kS) (x1 : Int32) (res : Int32) (h : F_K_level σ x1 = some res) : Met l by_K_level (.code by_K_level bc_K_level 2 (some .int) :: lw_g) brm_K_level (va_Pc [.ref (aa 0 0), .int x1] (kPre D aa q σ)) (va_Qi (fun (r : Int32) (u : kS) => r = res ∧ u = σ) (kB D aa q) (wA kC aa)) 0 0 (wA kC aa) := by
  refine Met.ofW (cc := bc_K_level) (maxL := 2) (ret := (some .int)) (by decide) rfl ?_
  intro p e s m args below meth c s₁ B hml hv
  obtain ⟨rfl, hP, hK⟩ := hv
  have hx := B.exec
  have hb := B.bytes
  have hr := B.returns
  have ht : ∀ w ∈ lw_g, w.before ([.ref (aa 0 0), .int x1] : List Value).toArray s = true := fun w h => atoms_spec (ws := .code by_K_level bc_K_level 2 (some .int) :: lw_g) B.pre w (List.mem_cons_of_mem _ h)
  have hown : s.vm.findClass bR_K = some m.cls := findClass_of_methodNamed B.named
  have hlocks := B.notSynchronized
  have S : CallFix p m c bc_K_level 2 s ([.ref (aa 0 0), .int x1] : List Value).toArray lw_g bR_K := ⟨hx, hb, hml, hown, ht⟩
  have hS : va_S (wA kC aa) s.heap s.heap [] := va_S.rf
  have hl := lv_entry ([.ref (aa 0 0), .int x1]) (n := 2) (Nat.le_of_ble_eq_true rfl)
  rw [lg_entry_eq]
  generalize (lg_sl ([.ref (aa 0 0), .int x1]) ++ List.replicate (2 - (lg_sl ([.ref (aa 0 0), .int x1])).length) Slot.unset).toArray = ls at hl ⊢
  have hl : lv_has ls 2 [(0, .ref (aa 0 0)), (1, .int x1)] := hl
  unfold F_K_level at h
  refine lv_iload_n hx hb de_K_level_0 rfl (lv_at hl 1 rfl) ?_
  obtain ⟨r1, hr1, h⟩ := bd_some h
  refine kq_i (va_runS (As := [.int x1]) (rest := []) S (c_K_isTank l D aa q hJ σ x1 r1 hr1) (cwS 1 ht (gs_in tw_1_221 tw_1_222 tw_1_1 tc_K_isTank) rfl rfl rfl bh_K_isTank ⟨Nat.le_of_ble_eq_true rfl, Nat.le_of_ble_eq_true rfl⟩) (kpreS hK hP) rfl rfl hl.1 rfl (lv_room (Nat.le_of_ble_eq_true rfl)) de_K_level_1 ⟨Nat.zero_le _, Nat.zero_le _⟩) hS (fun H locs hP hS => ?_)
  refine lv_if_eq (tgt := 19) hx hb de_K_level_4 (by decide) (fun hc => ?_) (fun hc => ?_)
  · have h := ie_t h hc
    refine lv_iconst (v := (-1)) hx hb de_K_level_19 (by decide) ?_
    have h := Option.some.inj h
    subst h
    exact W.iret (v := (-1)) hx hb hr (fun t ht hW => ⟨⟨_, _, rfl, ⟨rfl, rfl⟩, by rw [ht]; exact hP, va_K.moved hW.alike hK⟩, hS.F ht⟩) hS.2.2 de_K_level_20 hlocks
  · have h := ie_f h hc
    refine lv_aload_n hx hb de_K_level_7 rfl (lv_at hl 0 rfl) ?_
    refine kg_0 (v := .ref (aa 3 0)) hx hb ht hown hK hP (by decide) 2 (by decide) tw_1_173 rfl de_K_level_8 ?_
    refine lv_iload_n hx hb de_K_level_11 rfl (lv_at hl 1 rfl) ?_
    obtain ⟨hi2, h⟩ := gd_some h
    refine kl_3 hx hb hK hP (by decide) (inb_in hi2) de_K_level_12 (fun j3 ej3 => ?_)
    have h := lx_at h j3 ej3
    have hj3 : j3 < 4 := by rw [ej3]; exact inb_lt hi2
    refine kg_15 (v := .int (gI σ 21 j3 0)) hx hb ht hown hK hP hj3 1 (by decide) tw_1_165 rfl de_K_level_13 ?_
    refine lv_goto (tgt := 20) hx hb de_K_level_16 (by decide) ?_
    have h := Option.some.inj h
    subst h
    exact W.iret (v := gI σ 21 j3 0) hx hb hr (fun t ht hW => ⟨⟨_, _, rfl, ⟨rfl, rfl⟩, by rw [ht]; exact hP, va_K.moved hW.alike hK⟩, hS.F ht⟩) hS.2.2 de_K_level_20 hlocks
set_option maxHeartbeats 4000000 in
set_option maxRecDepth 100000 in
theorem w_K_stuck_18 {p : Program} {l : Launch} {e : Env} {s : State} {m : MethodId} {args : Array Value} {below : List Frame} {meth : Method} {c : Code} {Q : State → Prop} {D : va_G} {aa : Nat → Nat → Nat} {q : Nat → ClassId} (hJ : wJ kC aa) (S : CallFix p m c bc_K_stuck 3 s args lw_g bR_K) (hlocks : meth.locks = false) (hK : va_K D kCl (kT q) s) : ∀ (n : Nat) (σ : kS) (x1 : Int32) (x2 : Int32) (ex : Int32 × Int32) (H : Heap) (locs : List Loc) (ls : Array Slot), lv_has ls 3 [(0, .ref (aa 0 0)), (1, .int x1), (2, .int x2)] → va_P D kCl (kW aa q σ) H → va_S (wA kC aa) s.heap H locs → F_K_stuck_18 n σ x1 x2 = some ex → (∀ (H1 : Heap) (locs1 : List Loc) (ls1 : Array Slot), lv_has ls1 3 [(0, .ref (aa 0 0)), (1, .int ex.1), (2, .int ex.2)] → va_P D kCl (kW aa q σ) H1 → va_S (wA kC aa) s.heap H1 locs1 → W p l e brm_K_stuck s m args below meth c H1 locs1 0 0 Q (F0 m 54 ls1 [])) → W p l e brm_K_stuck s m args below meth c H locs 0 0 Q (F0 m 18 ls []) := by
  obtain ⟨hx, hb, hml, hown, hts⟩ := id S
  have ht := hts
  intro n
  induction n with
  | zero => intro σ x1 x2 ex H locs ls hl hP hS h k; cases (show (none : Option (Int32 × Int32)) = some ex from h)
  | succ n ih =>
    intro σ x1 x2 ex H locs ls hl hP hS h k
    unfold F_K_stuck_18 at h
    refine lv_iload_n hx hb de_K_stuck_18 rfl (lv_at hl 2 rfl) ?_
    refine lv_iconst (v := 4) hx hb de_K_stuck_19 (by decide) ?_
    refine lv_icmp_ge (tgt := 54) hx hb de_K_stuck_20 (by decide) (fun hc => ?_) (fun hc => ?_)
    · have h := ie_t h hc
      have h := Option.some.inj h
      subst h
      exact k _ _ _ (lv_sub hl [0, 1, 2] rfl) hP hS
    · have h := ie_f h hc
      refine lv_iload_n hx hb de_K_stuck_23 rfl (lv_at hl 1 rfl) ?_
      refine lv_if_ne (tgt := 42) hx hb de_K_stuck_24 (by decide) (fun hc => ?_) (fun hc => ?_)
      · have h := ie_f h hc
        refine lv_iconst (v := 1) hx hb de_K_stuck_42 (by decide) ?_
        refine lv_goto (tgt := 47) hx hb de_K_stuck_43 (by decide) ?_
        refine lv_istore_n (lv' := [(1, .int 1), (0, .ref (aa 0 0)), (2, .int x2)]) hx hb de_K_stuck_47 rfl hl (by decide) rfl (fun ls hl => ?_)
        refine lv_iinc (k := 2) (v := x2 + 1) (lv' := [(2, .int (x2 + 1)), (1, .int 1), (0, .ref (aa 0 0))]) hx hb de_K_stuck_48 hl rfl (ii_p1 _) (by decide) rfl (fun ls hl => ?_)
        refine lv_goto (tgt := 18) hx hb de_K_stuck_51 (by decide) ?_
        exact ih σ 1 (x2 + 1) ex _ _ _ (lv_sub hl [2, 1, 0] rfl) hP hS h k
      · have h := ie_t h hc
        refine lv_aload_n hx hb de_K_stuck_27 rfl (lv_at hl 0 rfl) ?_
        refine kg_0 (v := .ref (aa 2 0)) hx hb ht hown hK hP (by decide) 1 (by decide) tw_1_172 rfl de_K_stuck_28 ?_
        refine lv_iload_n hx hb de_K_stuck_31 rfl (lv_at hl 2 rfl) ?_
        obtain ⟨hi1, h⟩ := gd_some h
        refine kl_2 hx hb hK hP (by decide) (inb_in hi1) de_K_stuck_32 (fun j2 ej2 => ?_)
        have h := lx_at h j2 ej2
        have hj2 : j2 < 4 := by rw [ej2]; exact inb_lt hi1
        refine kg_14 (v := .ref (aa 4 j2)) hx hb ht hown hK hP hj2 0 (by decide) tw_1_133 rfl de_K_stuck_33 ?_
        refine kg_4 (v := .int (gI σ 19 j2 0)) hx hb ht hown hK hP (Nat.lt_succ_of_lt hj2) 1 (by decide) tw_1_32 rfl de_K_stuck_36 ?_
        refine lv_if_le (tgt := 46) hx hb de_K_stuck_39 (by decide) (fun hc => ?_) (fun hc => ?_)
        · have h := ie_t h hc
          refine lv_iconst (v := 0) hx hb de_K_stuck_46 (by decide) ?_
          refine lv_istore_n (lv' := [(1, .int 0), (0, .ref (aa 0 0)), (2, .int x2)]) hx hb de_K_stuck_47 rfl hl (by decide) rfl (fun ls hl => ?_)
          refine lv_iinc (k := 2) (v := x2 + 1) (lv' := [(2, .int (x2 + 1)), (1, .int 0), (0, .ref (aa 0 0))]) hx hb de_K_stuck_48 hl rfl (ii_p1 _) (by decide) rfl (fun ls hl => ?_)
          refine lv_goto (tgt := 18) hx hb de_K_stuck_51 (by decide) ?_
          exact ih σ 0 (x2 + 1) ex _ _ _ (lv_sub hl [2, 1, 0] rfl) hP hS h k
        · have h := ie_f h hc
          refine lv_iconst (v := 1) hx hb de_K_stuck_42 (by decide) ?_
          refine lv_goto (tgt := 47) hx hb de_K_stuck_43 (by decide) ?_
          refine lv_istore_n (lv' := [(1, .int 1), (0, .ref (aa 0 0)), (2, .int x2)]) hx hb de_K_stuck_47 rfl hl (by decide) rfl (fun ls hl => ?_)
          refine lv_iinc (k := 2) (v := x2 + 1) (lv' := [(2, .int (x2 + 1)), (1, .int 1), (0, .ref (aa 0 0))]) hx hb de_K_stuck_48 hl rfl (ii_p1 _) (by decide) rfl (fun ls hl => ?_)
          refine lv_goto (tgt := 18) hx hb de_K_stuck_51 (by decide) ?_
          exact ih σ 1 (x2 + 1) ex _ _ _ (lv_sub hl [2, 1, 0] rfl) hP hS h k
set_option maxHeartbeats 4000000 in
set_option maxRecDepth 100000 in
theorem c_K_stuck (l : Launch) (D : va_G) (aa : Nat → Nat → Nat) (q : Nat → ClassId) (hJ : wJ kC aa) (σ : kS) (res : Int32) (h : F_K_stuck σ = some res) : Met l by_K_stuck (.code by_K_stuck bc_K_stuck 3 (some .boolean) :: lw_g) brm_K_stuck (va_Pc [.ref (aa 0 0)] (kPre D aa q σ)) (va_Qi (fun (r : Int32) (u : kS) => r = res ∧ u = σ) (kB D aa q) (wA kC aa)) 0 0 (wA kC aa) := by
  refine Met.ofW (cc := bc_K_stuck) (maxL := 3) (ret := (some .boolean)) (by decide) rfl ?_
  intro p e s m args below meth c s₁ B hml hv
  obtain ⟨rfl, hP, hK⟩ := hv
  have hx := B.exec
  have hb := B.bytes
  have hr := B.returns
  have ht : ∀ w ∈ lw_g, w.before ([.ref (aa 0 0)] : List Value).toArray s = true := fun w h => atoms_spec (ws := .code by_K_stuck bc_K_stuck 3 (some .boolean) :: lw_g) B.pre w (List.mem_cons_of_mem _ h)
  have hown : s.vm.findClass bR_K = some m.cls := findClass_of_methodNamed B.named
  have hlocks := B.notSynchronized
  have S : CallFix p m c bc_K_stuck 3 s ([.ref (aa 0 0)] : List Value).toArray lw_g bR_K := ⟨hx, hb, hml, hown, ht⟩
  have hS : va_S (wA kC aa) s.heap s.heap [] := va_S.rf
  have hl := lv_entry ([.ref (aa 0 0)]) (n := 3) (Nat.le_of_ble_eq_true rfl)
  rw [lg_entry_eq]
  generalize (lg_sl ([.ref (aa 0 0)]) ++ List.replicate (3 - (lg_sl ([.ref (aa 0 0)])).length) Slot.unset).toArray = ls at hl ⊢
  have hl : lv_has ls 3 [(0, .ref (aa 0 0))] := hl
  unfold F_K_stuck at h
  refine lv_aload_n hx hb de_K_stuck_0 rfl (lv_at hl 0 rfl) ?_
  refine kg_0 (v := .ref (aa 4 4)) hx hb ht hown hK hP (by decide) 3 (by decide) tw_1_174 rfl de_K_stuck_1 ?_
  refine kg_4 (v := .int (gI σ 19 4 0)) hx hb ht hown hK hP (by decide) 1 (by decide) tw_1_32 rfl de_K_stuck_4 ?_
  refine lv_if_le (tgt := 14) hx hb de_K_stuck_7 (by decide) (fun hc => ?_) (fun hc => ?_)
  · have h := ie_t h hc
    refine lv_iconst (v := 0) hx hb de_K_stuck_14 (by decide) ?_
    refine lv_istore_n (lv' := [(1, .int 0), (0, .ref (aa 0 0))]) hx hb de_K_stuck_15 rfl hl (by decide) rfl (fun ls hl => ?_)
    refine lv_iconst (v := 0) hx hb de_K_stuck_16 (by decide) ?_
    refine lv_istore_n (lv' := [(2, .int 0), (1, .int 0), (0, .ref (aa 0 0))]) hx hb de_K_stuck_17 rfl hl (by decide) rfl (fun ls hl => ?_)
    obtain ⟨ex1, hex1, h⟩ := bd_some h
    refine w_K_stuck_18 hJ S hlocks hK 1000 σ 0 0 ex1 _ _ _ (lv_sub hl [2, 1, 0] rfl) hP hS hex1 (fun H locs ls hl hP hS => ?_)
    refine lv_iload_n hx hb de_K_stuck_54 rfl (lv_at hl 1 rfl) ?_
    refine lv_if_eq (tgt := 70) hx hb de_K_stuck_55 (by decide) (fun hc => ?_) (fun hc => ?_)
    · have h := ie_t h hc
      refine lv_iconst (v := 0) hx hb de_K_stuck_70 (by decide) ?_
      have h := Option.some.inj h
      subst h
      exact W.zret (v := 0) hx hb hr rfl (fun t ht hW => ⟨⟨_, _, rfl, ⟨rfl, rfl⟩, by rw [ht]; exact hP, va_K.moved hW.alike hK⟩, hS.F ht⟩) hS.2.2 de_K_stuck_71 hlocks
    · have h := ie_f h hc
      refine lv_aload_n hx hb de_K_stuck_58 rfl (lv_at hl 0 rfl) ?_
      obtain ⟨r2, hr2, h⟩ := bd_some h
      refine kq_i (va_runV (As := []) (rest := []) S (c_K_firstEntry l D aa q hJ σ  r2 hr2) (cwV 0 ht (gv_in tw_2_68 tw_2_70 ts_K_firstEntry tw_1_1 tc_K_firstEntry) rfl rfl rfl bh_K_firstEntry ⟨Nat.le_of_ble_eq_true rfl, Nat.le_of_ble_eq_true rfl⟩) (kpreV hK hP (kr_0 hK hP (by decide))) rfl rfl hl.1 rfl (lv_room (Nat.le_of_ble_eq_true rfl)) de_K_stuck_59 ⟨Nat.zero_le _, Nat.zero_le _⟩) hS (fun H locs hP hS => ?_)
      refine lv_iconst (v := (-1)) hx hb de_K_stuck_62 (by decide) ?_
      refine lv_icmp_ne (tgt := 70) hx hb de_K_stuck_63 (by decide) (fun hc => ?_) (fun hc => ?_)
      · have h := ie_f h hc
        refine lv_iconst (v := 0) hx hb de_K_stuck_70 (by decide) ?_
        have h := Option.some.inj h
        subst h
        exact W.zret (v := 0) hx hb hr rfl (fun t ht hW => ⟨⟨_, _, rfl, ⟨rfl, rfl⟩, by rw [ht]; exact hP, va_K.moved hW.alike hK⟩, hS.F ht⟩) hS.2.2 de_K_stuck_71 hlocks
      · have h := ie_t h hc
        refine lv_iconst (v := 1) hx hb de_K_stuck_66 (by decide) ?_
        refine lv_goto (tgt := 71) hx hb de_K_stuck_67 (by decide) ?_
        have h := Option.some.inj h
        subst h
        exact W.zret (v := 1) hx hb hr rfl (fun t ht hW => ⟨⟨_, _, rfl, ⟨rfl, rfl⟩, by rw [ht]; exact hP, va_K.moved hW.alike hK⟩, hS.F ht⟩) hS.2.2 de_K_stuck_71 hlocks
  · have h := ie_f h hc
    refine lv_iconst (v := 1) hx hb de_K_stuck_10 (by decide) ?_
    refine lv_goto (tgt := 15) hx hb de_K_stuck_11 (by decide) ?_
    refine lv_istore_n (lv' := [(1, .int 1), (0, .ref (aa 0 0))]) hx hb de_K_stuck_15 rfl hl (by decide) rfl (fun ls hl => ?_)
    refine lv_iconst (v := 0) hx hb de_K_stuck_16 (by decide) ?_
    refine lv_istore_n (lv' := [(2, .int 0), (1, .int 1), (0, .ref (aa 0 0))]) hx hb de_K_stuck_17 rfl hl (by decide) rfl (fun ls hl => ?_)
    obtain ⟨ex3, hex3, h⟩ := bd_some h
    refine w_K_stuck_18 hJ S hlocks hK 1000 σ 1 0 ex3 _ _ _ (lv_sub hl [2, 1, 0] rfl) hP hS hex3 (fun H locs ls hl hP hS => ?_)
    refine lv_iload_n hx hb de_K_stuck_54 rfl (lv_at hl 1 rfl) ?_
    refine lv_if_eq (tgt := 70) hx hb de_K_stuck_55 (by decide) (fun hc => ?_) (fun hc => ?_)
    · have h := ie_t h hc
      refine lv_iconst (v := 0) hx hb de_K_stuck_70 (by decide) ?_
      have h := Option.some.inj h
      subst h
      exact W.zret (v := 0) hx hb hr rfl (fun t ht hW => ⟨⟨_, _, rfl, ⟨rfl, rfl⟩, by rw [ht]; exact hP, va_K.moved hW.alike hK⟩, hS.F ht⟩) hS.2.2 de_K_stuck_71 hlocks
    · have h := ie_f h hc
      refine lv_aload_n hx hb de_K_stuck_58 rfl (lv_at hl 0 rfl) ?_
      obtain ⟨r4, hr4, h⟩ := bd_some h
      refine kq_i (va_runV (As := []) (rest := []) S (c_K_firstEntry l D aa q hJ σ  r4 hr4) (cwV 0 ht (gv_in tw_2_68 tw_2_70 ts_K_firstEntry tw_1_1 tc_K_firstEntry) rfl rfl rfl bh_K_firstEntry ⟨Nat.le_of_ble_eq_true rfl, Nat.le_of_ble_eq_true rfl⟩) (kpreV hK hP (kr_0 hK hP (by decide))) rfl rfl hl.1 rfl (lv_room (Nat.le_of_ble_eq_true rfl)) de_K_stuck_59 ⟨Nat.zero_le _, Nat.zero_le _⟩) hS (fun H locs hP hS => ?_)
      refine lv_iconst (v := (-1)) hx hb de_K_stuck_62 (by decide) ?_
      refine lv_icmp_ne (tgt := 70) hx hb de_K_stuck_63 (by decide) (fun hc => ?_) (fun hc => ?_)
      · have h := ie_f h hc
        refine lv_iconst (v := 0) hx hb de_K_stuck_70 (by decide) ?_
        have h := Option.some.inj h
        subst h
        exact W.zret (v := 0) hx hb hr rfl (fun t ht hW => ⟨⟨_, _, rfl, ⟨rfl, rfl⟩, by rw [ht]; exact hP, va_K.moved hW.alike hK⟩, hS.F ht⟩) hS.2.2 de_K_stuck_71 hlocks
      · have h := ie_t h hc
        refine lv_iconst (v := 1) hx hb de_K_stuck_66 (by decide) ?_
        refine lv_goto (tgt := 71) hx hb de_K_stuck_67 (by decide) ?_
        have h := Option.some.inj h
        subst h
        exact W.zret (v := 1) hx hb hr rfl (fun t ht hW => ⟨⟨_, _, rfl, ⟨rfl, rfl⟩, by rw [ht]; exact hP, va_K.moved hW.alike hK⟩, hS.F ht⟩) hS.2.2 de_K_stuck_71 hlocks
set_option maxHeartbeats 4000000 in
set_option maxRecDepth 100000 in
theorem c_C_before (l : Launch) (D : va_G) (aa : Nat → Nat → Nat) (q : Nat → ClassId) (hJ : wJ kC aa) (σ : kS) (x1 : Int32) (res : Int32) (h : F_C_before σ x1 = some res) : Met l by_C_before (.code by_C_before bc_C_before 2 (some .int) :: lw_g) brm_C_before (va_Pc [.ref (aa 6 0), .int x1] (kPre D aa q σ)) (va_Qi (fun (r : Int32) (u : kS) => r = res ∧ u = σ) (kB D aa q) (wA kC aa)) 0 0 (wA kC aa) := by
  refine Met.ofW (cc := bc_C_before) (maxL := 2) (ret := (some .int)) (by decide) rfl ?_
  intro p e s m args below meth c s₁ B hml hv
  obtain ⟨rfl, hP, hK⟩ := hv
  have hx := B.exec
  have hb := B.bytes
  have hr := B.returns
  have ht : ∀ w ∈ lw_g, w.before ([.ref (aa 6 0), .int x1] : List Value).toArray s = true := fun w h => atoms_spec (ws := .code by_C_before bc_C_before 2 (some .int) :: lw_g) B.pre w (List.mem_cons_of_mem _ h)
  have hown : s.vm.findClass bR_C = some m.cls := findClass_of_methodNamed B.named
  have hlocks := B.notSynchronized
  have S : CallFix p m c bc_C_before 2 s ([.ref (aa 6 0), .int x1] : List Value).toArray lw_g bR_C := ⟨hx, hb, hml, hown, ht⟩
  have hS : va_S (wA kC aa) s.heap s.heap [] := va_S.rf
  have hl := lv_entry ([.ref (aa 6 0), .int x1]) (n := 2) (Nat.le_of_ble_eq_true rfl)
  rw [lg_entry_eq]
  generalize (lg_sl ([.ref (aa 6 0), .int x1]) ++ List.replicate (2 - (lg_sl ([.ref (aa 6 0), .int x1])).length) Slot.unset).toArray = ls at hl ⊢
  have hl : lv_has ls 2 [(0, .ref (aa 6 0)), (1, .int x1)] := hl
  unfold F_C_before at h
  refine lv_iload_n hx hb de_C_before_0 rfl (lv_at hl 1 rfl) ?_
  refine lv_if_lt (tgt := 12) hx hb de_C_before_1 (by decide) (fun hc => ?_) (fun hc => ?_)
  · have h := ie_t h hc
    refine lv_iconst (v := (-1)) hx hb de_C_before_12 (by decide) ?_
    have h := Option.some.inj h
    subst h
    exact W.iret (v := (-1)) hx hb hr (fun t ht hW => ⟨⟨_, _, rfl, ⟨rfl, rfl⟩, by rw [ht]; exact hP, va_K.moved hW.alike hK⟩, hS.F ht⟩) hS.2.2 de_C_before_13 hlocks
  · have h := ie_f h hc
    refine lv_iload_n hx hb de_C_before_4 rfl (lv_at hl 1 rfl) ?_
    refine lv_aload_n hx hb de_C_before_5 rfl (lv_at hl 0 rfl) ?_
    refine kg_6 (v := .int (gI σ 24 0 0)) hx hb ht hown hK hP (by decide) 2 (by decide) tw_1_47 rfl de_C_before_6 ?_
    refine lv_icmp_lt (tgt := 14) hx hb de_C_before_9 (by decide) (fun hc => ?_) (fun hc => ?_)
    · have h := ie_t h hc
      refine lv_aload_n hx hb de_C_before_14 rfl (lv_at hl 0 rfl) ?_
      refine kg_6 (v := .ref (aa 7 0)) hx hb ht hown hK hP (by decide) 0 (by decide) tw_1_45 rfl de_C_before_15 ?_
      refine lv_aload_n hx hb de_C_before_18 rfl (lv_at hl 0 rfl) ?_
      refine kg_6 (v := .int (gI σ 23 0 0)) hx hb ht hown hK hP (by decide) 1 (by decide) tw_1_46 rfl de_C_before_19 ?_
      refine lv_iload_n hx hb de_C_before_22 rfl (lv_at hl 1 rfl) ?_
      refine lv_isub hx hb de_C_before_23 ?_
      refine lv_bipush (v := 64) hx hb de_C_before_24 (by decide) ?_
      refine lv_iadd hx hb de_C_before_26 ?_
      refine lv_bipush (v := 64) hx hb de_C_before_27 (by decide) ?_
      refine lv_irem hx hb de_C_before_29 (by decide) ?_
      obtain ⟨hi1, h⟩ := gd_some h
      refine kl_7 hx hb hK hP (by decide) (inb_in hi1) de_C_before_30 ?_
      have h := Option.some.inj h
      subst h
      exact W.iret (v := gI σ 22 0 ((((gI σ 23 0 0) - x1) + 64) - (((gI σ 23 0 0) - x1) + 64) / 64 * 64).toNatClampNeg) hx hb hr (fun t ht hW => ⟨⟨_, _, rfl, ⟨rfl, rfl⟩, by rw [ht]; exact hP, va_K.moved hW.alike hK⟩, hS.F ht⟩) hS.2.2 de_C_before_31 hlocks
    · have h := ie_f h hc
      refine lv_iconst (v := (-1)) hx hb de_C_before_12 (by decide) ?_
      have h := Option.some.inj h
      subst h
      exact W.iret (v := (-1)) hx hb hr (fun t ht hW => ⟨⟨_, _, rfl, ⟨rfl, rfl⟩, by rw [ht]; exact hP, va_K.moved hW.alike hK⟩, hS.F ht⟩) hS.2.2 de_C_before_13 hlocks
set_option maxHeartbeats 4000000 in
set_option maxRecDepth 100000 in
theorem c_K_traced (l : Launch) (D : va_G) (aa : Nat → Nat → Nat) (q : Nat → ClassId) (hJ : wJ kC aa) (σ : kS) (x1 : Int32) (res : Int32) (h : F_K_traced σ x1 = some res) : Met l by_K_traced (.code by_K_traced bc_K_traced 2 (some .int) :: lw_g) brm_K_traced (va_Pc [.ref (aa 0 0), .int x1] (kPre D aa q σ)) (va_Qi (fun (r : Int32) (u : kS) => r = res ∧ u = σ) (kB D aa q) (wA kC aa)) 0 0 (wA kC aa) := by
  refine Met.ofW (cc := bc_K_traced) (maxL := 2) (ret := (some .int)) (by decide) rfl ?_
  intro p e s m args below meth c s₁ B hml hv
  obtain ⟨rfl, hP, hK⟩ := hv
  have hx := B.exec
  have hb := B.bytes
  have hr := B.returns
  have ht : ∀ w ∈ lw_g, w.before ([.ref (aa 0 0), .int x1] : List Value).toArray s = true := fun w h => atoms_spec (ws := .code by_K_traced bc_K_traced 2 (some .int) :: lw_g) B.pre w (List.mem_cons_of_mem _ h)
  have hown : s.vm.findClass bR_K = some m.cls := findClass_of_methodNamed B.named
  have hlocks := B.notSynchronized
  have S : CallFix p m c bc_K_traced 2 s ([.ref (aa 0 0), .int x1] : List Value).toArray lw_g bR_K := ⟨hx, hb, hml, hown, ht⟩
  have hS : va_S (wA kC aa) s.heap s.heap [] := va_S.rf
  have hl := lv_entry ([.ref (aa 0 0), .int x1]) (n := 2) (Nat.le_of_ble_eq_true rfl)
  rw [lg_entry_eq]
  generalize (lg_sl ([.ref (aa 0 0), .int x1]) ++ List.replicate (2 - (lg_sl ([.ref (aa 0 0), .int x1])).length) Slot.unset).toArray = ls at hl ⊢
  have hl : lv_has ls 2 [(0, .ref (aa 0 0)), (1, .int x1)] := hl
  unfold F_K_traced at h
  refine lv_aload_n hx hb de_K_traced_0 rfl (lv_at hl 0 rfl) ?_
  refine kg_0 (v := .ref (aa 6 0)) hx hb ht hown hK hP (by decide) 4 (by decide) tw_1_175 rfl de_K_traced_1 ?_
  refine lv_iload_n hx hb de_K_traced_4 rfl (lv_at hl 1 rfl) ?_
  obtain ⟨r1, hr1, h⟩ := bd_some h
  refine kq_i (va_runV (As := [.int x1]) (rest := []) S (c_C_before l D aa q hJ σ x1 r1 hr1) (cwV 1 ht (gv_in tw_2_205 tw_2_206 tw_2_207 tw_1_3 tc_C_before) rfl rfl rfl bh_C_before ⟨Nat.le_of_ble_eq_true rfl, Nat.le_of_ble_eq_true rfl⟩) (kpreV hK hP (kr_6 hK hP (by decide))) rfl rfl hl.1 rfl (lv_room (Nat.le_of_ble_eq_true rfl)) de_K_traced_5 ⟨Nat.zero_le _, Nat.zero_le _⟩) hS (fun H locs hP hS => ?_)
  have h := Option.some.inj h
  subst h
  exact W.iret (v := r1) hx hb hr (fun t ht hW => ⟨⟨_, _, rfl, ⟨rfl, rfl⟩, by rw [ht]; exact hP, va_K.moved hW.alike hK⟩, hS.F ht⟩) hS.2.2 de_K_traced_8 hlocks
