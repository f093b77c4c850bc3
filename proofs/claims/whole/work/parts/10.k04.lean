set_option maxHeartbeats 4000000 in
set_option maxRecDepth 100000 in
theorem w_K_seizeByForce_65 {p : Program} {l : Launch} {e : Env} {s : State} {m : MethodId} {args : Array Value} {below : List Frame} {meth : Method} {c : Code} {Q : State → Prop} {D : va_G} {aa : Nat → Nat → Nat} {q : Nat → ClassId} (hJ : wJ kC aa) (S : CallFix p m c bc_K_seizeByForce 6 s args lw_g bR_K) (hlocks : meth.locks = false) (hK : va_K D kCl (kT q) s) : ∀ (n : Nat) (σ : kS) (x2 : Int32) (x4 : Int32) (x5 : Int32) (ex : kS × Int32) (H : Heap) (locs : List Loc) (ls : Array Slot), lv_has ls 6 [(0, .ref (aa 0 0)), (2, .int x2), (4, .int x4), (5, .int x5)] → va_P D kCl (kW aa q σ) H → va_S (wA kC aa) s.heap H locs → F_K_seizeByForce_65 n σ x2 x4 x5 = some ex → (∀ (H1 : Heap) (locs1 : List Loc) (ls1 : Array Slot), lv_has ls1 6 [(0, .ref (aa 0 0)), (2, .int x2), (4, .int x4), (5, .int ex.2)] → va_P D kCl (kW aa q ex.1) H1 → va_S (wA kC aa) s.heap H1 locs1 → W p l e brm_K_seizeByForce s m args below meth c H1 locs1 0 0 Q (F0 m 90 ls1 [])) → W p l e brm_K_seizeByForce s m args below meth c H locs 0 0 Q (F0 m 65 ls []) := by
  obtain ⟨hx, hb, hml, hown, hts⟩ := id S
  have ht := hts
  intro n
  induction n with
  | zero => intro σ x2 x4 x5 ex H locs ls hl hP hS h k; cases (show (none : Option (kS × Int32)) = some ex from h)
  | succ n ih =>
    intro σ x2 x4 x5 ex H locs ls hl hP hS h k
    unfold F_K_seizeByForce_65 at h
    refine lv_iload hx hb de_K_seizeByForce_65 (lv_at hl 3 rfl) ?_
    refine lv_iload hx hb de_K_seizeByForce_67 (lv_at hl 2 rfl) ?_
    refine lv_icmp_ge (tgt := 90) hx hb de_K_seizeByForce_69 (by decide) (fun hc => ?_) (fun hc => ?_)
    · have h := ie_t h hc
      have h := Option.some.inj h
      subst h
      exact k _ _ _ (lv_sub hl [0, 1, 2, 3] rfl) hP hS
    · have h := ie_f h hc
      refine lv_aload_n hx hb de_K_seizeByForce_72 rfl (lv_at hl 0 rfl) ?_
      refine lv_aload_n hx hb de_K_seizeByForce_73 rfl (lv_at hl 0 rfl) ?_
      refine kg_0 (v := .ref (aa 8 0)) hx hb ht hown hK hP (by decide) 5 (by decide) tw_1_176 rfl de_K_seizeByForce_74 ?_
      refine lv_iload hx hb de_K_seizeByForce_77 (lv_at hl 3 rfl) ?_
      obtain ⟨hi1, h⟩ := gd_some h
      refine kl_8 hx hb hK hP (by decide) (inb_in hi1) de_K_seizeByForce_79 ?_
      obtain ⟨r2, hr2, h⟩ := bd_some h
      refine kq_i (va_runV (As := [.int (gI σ 1 0 x5.toNatClampNeg)]) (rest := []) S (c_K_interrupt l D aa q hJ σ (gI σ 1 0 x5.toNatClampNeg) r2 hr2) (cwV 1 ht (gv_in tw_2_121 tw_2_25 tw_2_26 tw_1_1 tc_K_interrupt) rfl rfl rfl bh_K_interrupt ⟨Nat.le_of_ble_eq_true rfl, Nat.le_of_ble_eq_true rfl⟩) (kpreV hK hP (kr_0 hK hP (by decide))) rfl rfl hl.1 rfl (lv_room (Nat.le_of_ble_eq_true rfl)) de_K_seizeByForce_80 ⟨Nat.zero_le _, Nat.zero_le _⟩) hS (fun H locs hP hS => ?_)
      refine lv_pop hx hb de_K_seizeByForce_83 rfl ?_
      refine lv_iinc (k := 3) (v := x5 + 1) (lv' := [(5, .int (x5 + 1)), (0, .ref (aa 0 0)), (2, .int x2), (4, .int x4)]) hx hb de_K_seizeByForce_84 hl rfl (ii_p1 _) (by decide) rfl (fun ls hl => ?_)
      refine lv_goto (tgt := 65) hx hb de_K_seizeByForce_87 (by decide) ?_
      exact ih r2.2 x2 x4 (x5 + 1) ex _ _ _ (lv_sub hl [1, 2, 3, 0] rfl) hP hS h k
set_option maxHeartbeats 4000000 in
set_option maxRecDepth 100000 in
theorem c_K_seizeByForce (l : Launch) (D : va_G) (aa : Nat → Nat → Nat) (q : Nat → ClassId) (hJ : wJ kC aa) (σ : kS) (g1 : Nat) (hg1 : g1 < 12) (res : Int32 × kS) (h : F_K_seizeByForce σ g1 = some res) : Met l by_K_seizeByForce (.code by_K_seizeByForce bc_K_seizeByForce 6 (some .boolean) :: lw_g) brm_K_seizeByForce (va_Pc [.ref (aa 0 0), .ref (aa 9 g1)] (kPre D aa q σ)) (va_Qi (fun (r : Int32) (u : kS) => r = res.1 ∧ u = res.2) (kB D aa q) (wA kC aa)) 0 0 (wA kC aa) := by
  refine Met.ofW (cc := bc_K_seizeByForce) (maxL := 6) (ret := (some .boolean)) (by decide) rfl ?_
  intro p e s m args below meth c s₁ B hml hv
  obtain ⟨rfl, hP, hK⟩ := hv
  have hx := B.exec
  have hb := B.bytes
  have hr := B.returns
  have ht : ∀ w ∈ lw_g, w.before ([.ref (aa 0 0), .ref (aa 9 g1)] : List Value).toArray s = true := fun w h => atoms_spec (ws := .code by_K_seizeByForce bc_K_seizeByForce 6 (some .boolean) :: lw_g) B.pre w (List.mem_cons_of_mem _ h)
  have hown : s.vm.findClass bR_K = some m.cls := findClass_of_methodNamed B.named
  have hlocks := B.notSynchronized
  have S : CallFix p m c bc_K_seizeByForce 6 s ([.ref (aa 0 0), .ref (aa 9 g1)] : List Value).toArray lw_g bR_K := ⟨hx, hb, hml, hown, ht⟩
  have hS : va_S (wA kC aa) s.heap s.heap [] := va_S.rf
  have hl := lv_entry ([.ref (aa 0 0), .ref (aa 9 g1)]) (n := 6) (Nat.le_of_ble_eq_true rfl)
  rw [lg_entry_eq]
  generalize (lg_sl ([.ref (aa 0 0), .ref (aa 9 g1)]) ++ List.replicate (6 - (lg_sl ([.ref (aa 0 0), .ref (aa 9 g1)])).length) Slot.unset).toArray = ls at hl ⊢
  have hl : lv_has ls 6 [(0, .ref (aa 0 0)), (1, .ref (aa 9 g1))] := hl
  unfold F_K_seizeByForce at h
  refine lv_aload_n hx hb de_K_seizeByForce_0 rfl (lv_at hl 1 rfl) ?_
  obtain ⟨r1, hr1, h⟩ := bd_some h
  refine kq_i (va_runV (As := []) (rest := []) S (c_P_firstOperand l D aa q hJ σ g1 hg1 r1 hr1) (cwV 0 ht (gv_in tw_2_36 tw_2_37 tw_2_38 tw_1_4 tc_P_firstOperand) rfl rfl rfl bh_P_firstOperand ⟨Nat.le_of_ble_eq_true rfl, Nat.le_of_ble_eq_true rfl⟩) (kpreV hK hP (kr_9 hK hP hg1)) rfl rfl hl.1 rfl (lv_room (Nat.le_of_ble_eq_true rfl)) de_K_seizeByForce_1 ⟨Nat.zero_le _, Nat.zero_le _⟩) hS (fun H locs hP hS => ?_)
  refine lv_istore_n (lv' := [(2, .int r1), (0, .ref (aa 0 0)), (1, .ref (aa 9 g1))]) hx hb de_K_seizeByForce_4 rfl hl (by decide) rfl (fun ls hl => ?_)
  refine lv_aload_n hx hb de_K_seizeByForce_5 rfl (lv_at hl 2 rfl) ?_
  obtain ⟨r2, hr2, h⟩ := bd_some h
  refine kq_i (va_runV (As := []) (rest := []) S (c_P_secondOperand l D aa q hJ σ g1 hg1 r2 hr2) (cwV 0 ht (gv_in tw_1_236 tw_1_237 tw_1_238 tw_1_4 tc_P_secondOperand) rfl rfl rfl bh_P_secondOperand ⟨Nat.le_of_ble_eq_true rfl, Nat.le_of_ble_eq_true rfl⟩) (kpreV hK hP (kr_9 hK hP hg1)) rfl rfl hl.1 rfl (lv_room (Nat.le_of_ble_eq_true rfl)) de_K_seizeByForce_6 ⟨Nat.zero_le _, Nat.zero_le _⟩) hS (fun H locs hP hS => ?_)
  refine lv_istore_n (lv' := [(3, .int r2), (2, .int r1), (0, .ref (aa 0 0)), (1, .ref (aa 9 g1))]) hx hb de_K_seizeByForce_9 rfl hl (by decide) rfl (fun ls hl => ?_)
  refine lv_aload_n hx hb de_K_seizeByForce_10 rfl (lv_at hl 2 rfl) ?_
  refine lv_iload_n hx hb de_K_seizeByForce_11 rfl (lv_at hl 1 rfl) ?_
  refine lv_aload_n hx hb de_K_seizeByForce_12 rfl (lv_at hl 3 rfl) ?_
  refine kg_9 (v := .int (gI σ 4 g1 0)) hx hb ht hown hK hP hg1 6 (by decide) tw_1_73 rfl de_K_seizeByForce_13 ?_
  obtain ⟨r3, hr3, h⟩ := bd_some h
  refine kq_i (va_runV (As := [.int r1, .int (gI σ 4 g1 0)]) (rest := []) S (c_K_countBefore l D aa q hJ σ r1 (gI σ 4 g1 0) r3 hr3) (cwV 2 ht (gv_in tw_2_101 tw_2_103 ts_K_countBefore tw_1_1 tc_K_countBefore) rfl rfl rfl bh_K_countBefore ⟨Nat.le_of_ble_eq_true rfl, Nat.le_of_ble_eq_true rfl⟩) (kpreV hK hP (kr_0 hK hP (by decide))) rfl rfl hl.1 rfl (lv_room (Nat.le_of_ble_eq_true rfl)) de_K_seizeByForce_16 ⟨Nat.zero_le _, Nat.zero_le _⟩) hS (fun H locs hP hS => ?_)
  refine lv_if_gt (tgt := 44) hx hb de_K_seizeByForce_19 (by decide) (fun hc => ?_) (fun hc => ?_)
  · have h := ie_t h hc
    refine lv_iconst (v := 0) hx hb de_K_seizeByForce_44 (by decide) ?_
    have h := Option.some.inj h
    subst h
    exact W.zret (v := 0) hx hb hr rfl (fun t ht hW => ⟨⟨_, _, rfl, ⟨rfl, rfl⟩, by rw [ht]; exact hP, va_K.moved hW.alike hK⟩, hS.F ht⟩) hS.2.2 de_K_seizeByForce_45 hlocks
  · have h := ie_f h hc
    refine lv_aload_n hx hb de_K_seizeByForce_22 rfl (lv_at hl 2 rfl) ?_
    refine kg_0 (v := .ref (aa 2 0)) hx hb ht hown hK hP (by decide) 1 (by decide) tw_1_172 rfl de_K_seizeByForce_23 ?_
    refine lv_iload_n hx hb de_K_seizeByForce_26 rfl (lv_at hl 1 rfl) ?_
    obtain ⟨hi4, h⟩ := gd_some h
    refine kl_2 hx hb hK hP (by decide) (inb_in hi4) de_K_seizeByForce_27 (fun j5 ej5 => ?_)
    have h := lx_at h j5 ej5
    have hj5 : j5 < 4 := by rw [ej5]; exact inb_lt hi4
    refine kg_14 (v := .int (gI σ 17 j5 0)) hx hb ht hown hK hP hj5 3 (by decide) tw_1_139 rfl de_K_seizeByForce_28 ?_
    refine lv_if_eq (tgt := 44) hx hb de_K_seizeByForce_31 (by decide) (fun hc => ?_) (fun hc => ?_)
    · have h := ie_t h hc
      refine lv_iconst (v := 0) hx hb de_K_seizeByForce_44 (by decide) ?_
      have h := Option.some.inj h
      subst h
      exact W.zret (v := 0) hx hb hr rfl (fun t ht hW => ⟨⟨_, _, rfl, ⟨rfl, rfl⟩, by rw [ht]; exact hP, va_K.moved hW.alike hK⟩, hS.F ht⟩) hS.2.2 de_K_seizeByForce_45 hlocks
    · have h := ie_f h hc
      refine lv_aload_n hx hb de_K_seizeByForce_34 rfl (lv_at hl 2 rfl) ?_
      refine lv_aload_n hx hb de_K_seizeByForce_35 rfl (lv_at hl 3 rfl) ?_
      refine lv_iload_n hx hb de_K_seizeByForce_36 rfl (lv_at hl 1 rfl) ?_
      obtain ⟨r6, hr6, h⟩ := bd_some h
      refine kq_i (va_runV (As := [.ref (aa 9 g1), .int r1]) (rest := []) S (c_K_withinReach l D aa q hJ σ g1 hg1 r1 r6 hr6) (cwV 2 ht (gv_in tw_2_109 tw_2_111 ts_K_withinReach tw_1_1 tc_K_withinReach) rfl rfl rfl bh_K_withinReach ⟨Nat.le_of_ble_eq_true rfl, Nat.le_of_ble_eq_true rfl⟩) (kpreV hK hP (kr_0 hK hP (by decide))) rfl rfl hl.1 rfl (lv_room (Nat.le_of_ble_eq_true rfl)) de_K_seizeByForce_37 ⟨Nat.zero_le _, Nat.zero_le _⟩) hS (fun H locs hP hS => ?_)
      refine lv_iload_n hx hb de_K_seizeByForce_40 rfl (lv_at hl 0 rfl) ?_
      refine lv_icmp_ge (tgt := 46) hx hb de_K_seizeByForce_41 (by decide) (fun hc => ?_) (fun hc => ?_)
      · have h := ie_t h hc
        refine lv_aload_n hx hb de_K_seizeByForce_46 rfl (lv_at hl 2 rfl) ?_
        refine lv_aload_n hx hb de_K_seizeByForce_47 rfl (lv_at hl 3 rfl) ?_
        refine lv_iload_n hx hb de_K_seizeByForce_48 rfl (lv_at hl 1 rfl) ?_
        refine lv_iload_n hx hb de_K_seizeByForce_49 rfl (lv_at hl 0 rfl) ?_
        obtain ⟨r7, hr7, h⟩ := bd_some h
        refine kq_i (va_runV (As := [.ref (aa 9 g1), .int r1, .int r2]) (rest := []) S (c_K_takeFromLosers l D aa q hJ σ g1 hg1 r1 r2 r7 hr7) (cwV 3 ht (gv_in tw_2_113 tw_2_115 ts_K_takeFromLosers tw_1_1 tc_K_takeFromLosers) rfl rfl rfl bh_K_takeFromLosers ⟨Nat.le_of_ble_eq_true rfl, Nat.le_of_ble_eq_true rfl⟩) (kpreV hK hP (kr_0 hK hP (by decide))) rfl rfl hl.1 rfl (lv_room (Nat.le_of_ble_eq_true rfl)) de_K_seizeByForce_50 ⟨Nat.zero_le _, Nat.zero_le _⟩) hS (fun H locs hP hS => ?_)
        refine lv_topi (fun v8 ev8 => ?_)
        have h := lx_at h v8 ev8
        refine lv_istore (lv' := [(4, .int v8), (3, .int r2), (2, .int r1), (0, .ref (aa 0 0)), (1, .ref (aa 9 g1))]) hx hb de_K_seizeByForce_53 hl (by decide) rfl (fun ls hl => ?_)
        refine lv_aload_n hx hb de_K_seizeByForce_55 rfl (lv_at hl 3 rfl) ?_
        refine lv_aload_n hx hb de_K_seizeByForce_56 rfl (lv_at hl 4 rfl) ?_
        refine lv_iload_n hx hb de_K_seizeByForce_57 rfl (lv_at hl 2 rfl) ?_
        refine lv_iload_n hx hb de_K_seizeByForce_58 rfl (lv_at hl 1 rfl) ?_
        obtain ⟨r9, hr9, h⟩ := bd_some h
        refine kq_v (va_runV (As := [.ref (aa 9 g1), .int r1, .int r2]) (rest := []) S (c_K_give l D aa q hJ r7.2 g1 hg1 r1 r2 r9 hr9) (cwV 3 ht (gv_in tw_2_4 tw_2_6 ts_K_give tw_1_1 tc_K_give) rfl rfl rfl bh_K_give ⟨Nat.le_of_ble_eq_true rfl, Nat.le_of_ble_eq_true rfl⟩) (kpreV hK hP (kr_0 hK hP (by decide))) rfl rfl hl.1 rfl (lv_room (Nat.le_of_ble_eq_true rfl)) de_K_seizeByForce_59 ⟨Nat.zero_le _, Nat.zero_le _⟩) hS (fun H locs hP hS => ?_)
        refine lv_iconst (v := 0) hx hb de_K_seizeByForce_62 (by decide) ?_
        refine lv_istore (lv' := [(5, .int 0), (4, .int v8), (3, .int r2), (2, .int r1), (0, .ref (aa 0 0)), (1, .ref (aa 9 g1))]) hx hb de_K_seizeByForce_63 hl (by decide) rfl (fun ls hl => ?_)
        obtain ⟨ex10, hex10, h⟩ := bd_some h
        refine w_K_seizeByForce_65 hJ S hlocks hK 1000 r9 r1 v8 0 ex10 _ _ _ (lv_sub hl [4, 3, 1, 0] rfl) hP hS hex10 (fun H locs ls hl hP hS => ?_)
        refine lv_aload_n hx hb de_K_seizeByForce_90 rfl (lv_at hl 0 rfl) ?_
        refine lv_iload_n hx hb de_K_seizeByForce_91 rfl (lv_at hl 1 rfl) ?_
        obtain ⟨r11, hr11, h⟩ := bd_some h
        refine kq_v (va_runV (As := [.int r1]) (rest := []) S (c_K_serve l D aa q hJ ex10.1 r1 r11 hr11) (cwV 1 ht (gv_in tw_1_232 tw_1_234 ts_K_serve tw_1_1 tc_K_serve) rfl rfl rfl bh_K_serve ⟨Nat.le_of_ble_eq_true rfl, Nat.le_of_ble_eq_true rfl⟩) (kpreV hK hP (kr_0 hK hP (by decide))) rfl rfl hl.1 rfl (lv_room (Nat.le_of_ble_eq_true rfl)) de_K_seizeByForce_92 ⟨Nat.zero_le _, Nat.zero_le _⟩) hS (fun H locs hP hS => ?_)
        refine lv_iconst (v := 1) hx hb de_K_seizeByForce_95 (by decide) ?_
        have h := Option.some.inj h
        subst h
        exact W.zret (v := 1) hx hb hr rfl (fun t ht hW => ⟨⟨_, _, rfl, ⟨rfl, rfl⟩, by rw [ht]; exact hP, va_K.moved hW.alike hK⟩, hS.F ht⟩) hS.2.2 de_K_seizeByForce_96 hlocks
      · have h := ie_f h hc
        refine lv_iconst (v := 0) hx hb de_K_seizeByForce_44 (by decide) ?_
        have h := Option.some.inj h
        subst h
        exact W.zret (v := 0) hx hb hr rfl (fun t ht hW => ⟨⟨_, _, rfl, ⟨rfl, rfl⟩, by rw [ht]; exact hP, va_K.moved hW.alike hK⟩, hS.F ht⟩) hS.2.2 de_K_seizeByForce_45 hlocks
set_option maxHeartbeats 4000000 in
set_option maxRecDepth 100000 in
theorem w_L_insert_15 {p : Program} {l : Launch} {e : Env} {s : State} {m : MethodId} {args : Array Value} {below : List Frame} {meth : Method} {c : Code} {Q : State → Prop} {D : va_G} {aa : Nat → Nat → Nat} {q : Nat → ClassId} (hJ : wJ kC aa) (S : CallFix p m c bc_L_insert 4 s args lw_g bR_L) (hlocks : meth.locks = false) (hK : va_K D kCl (kT q) s) : ∀ (n : Nat) (σ : kS) (g0 : Nat) (hg0 : g0 < 5) (x1 : Int32) (x2 : Int32) (x3 : Int32) (ex : kS × Int32) (H : Heap) (locs : List Loc) (ls : Array Slot), lv_has ls 4 [(0, .ref (aa 4 g0)), (1, .int x1), (2, .int x2), (3, .int x3)] → va_P D kCl (kW aa q σ) H → va_S (wA kC aa) s.heap H locs → F_L_insert_15 n σ g0 x1 x2 x3 = some ex → (∀ (H1 : Heap) (locs1 : List Loc) (ls1 : Array Slot), lv_has ls1 4 [(0, .ref (aa 4 g0)), (1, .int x1), (2, .int x2), (3, .int ex.2)] → va_P D kCl (kW aa q ex.1) H1 → va_S (wA kC aa) s.heap H1 locs1 → W p l e brm_L_insert s m args below meth c H1 locs1 0 0 Q (F0 m 40 ls1 [])) → W p l e brm_L_insert s m args below meth c H locs 0 0 Q (F0 m 15 ls []) := by
  obtain ⟨hx, hb, hml, hown, hts⟩ := id S
  have ht := hts
  intro n
  induction n with
  | zero => intro σ g0 hg0 x1 x2 x3 ex H locs ls hl hP hS h k; cases (show (none : Option (kS × Int32)) = some ex from h)
  | succ n ih =>
    intro σ g0 hg0 x1 x2 x3 ex H locs ls hl hP hS h k
    unfold F_L_insert_15 at h
    refine lv_iload_n hx hb de_L_insert_15 rfl (lv_at hl 3 rfl) ?_
    refine lv_iload_n hx hb de_L_insert_16 rfl (lv_at hl 1 rfl) ?_
    refine lv_icmp_le (tgt := 40) hx hb de_L_insert_17 (by decide) (fun hc => ?_) (fun hc => ?_)
    · have h := ie_t h hc
      have h := Option.some.inj h
      subst h
      exact k _ _ _ (lv_sub hl [0, 1, 2, 3] rfl) hP hS
    · have h := ie_f h hc
      refine lv_aload_n hx hb de_L_insert_20 rfl (lv_at hl 0 rfl) ?_
      refine kg_4 (v := .ref (aa 5 g0)) hx hb ht hown hK hP hg0 0 (by decide) tw_1_29 rfl de_L_insert_21 ?_
      refine lv_iload_n hx hb de_L_insert_24 rfl (lv_at hl 3 rfl) ?_
      refine lv_aload_n hx hb de_L_insert_25 rfl (lv_at hl 0 rfl) ?_
      refine kg_4 (v := .ref (aa 5 g0)) hx hb ht hown hK hP hg0 0 (by decide) tw_1_29 rfl de_L_insert_26 ?_
      refine lv_iload_n hx hb de_L_insert_29 rfl (lv_at hl 3 rfl) ?_
      refine lv_iconst (v := 1) hx hb de_L_insert_30 (by decide) ?_
      refine lv_isub hx hb de_L_insert_31 ?_
      obtain ⟨hi1, h⟩ := gd_some h
      refine kl_5 hx hb hK hP hg0 (inb_in hi1) de_L_insert_32 ?_
      obtain ⟨hi2, h⟩ := gd_some h
      refine kt_5 hx hb hK hP hJ hS hg0 (inb_in hi2) de_L_insert_33 (fun H locs hP hS => ?_)
      obtain ⟨σ3, eσ3, h⟩ := lx_ex h
      rw [← eσ3] at hP
      refine lv_iinc (k := 3) (v := x3 + (-1)) (lv' := [(3, .int (x3 + (-1))), (0, .ref (aa 4 g0)), (1, .int x1), (2, .int x2)]) hx hb de_L_insert_34 hl rfl (ii_m1 _) (by decide) rfl (fun ls hl => ?_)
      refine lv_goto (tgt := 15) hx hb de_L_insert_37 (by decide) ?_
      exact ih σ3 g0 hg0 x1 x2 (x3 + (-1)) ex _ _ _ (lv_sub hl [1, 2, 3, 0] rfl) hP hS h k
set_option maxHeartbeats 4000000 in
set_option maxRecDepth 100000 in
theorem c_L_insert (l : Launch) (D : va_G) (aa : Nat → Nat → Nat) (q : Nat → ClassId) (hJ : wJ kC aa) (σ : kS) (g0 : Nat) (hg0 : g0 < 5) (x1 : Int32) (x2 : Int32) (res : kS) (h : F_L_insert σ g0 x1 x2 = some res) : Met l by_L_insert (.code by_L_insert bc_L_insert 4 none :: lw_g) brm_L_insert (va_Pc [.ref (aa 4 g0), .int x1, .int x2] (kPre D aa q σ)) (va_Qv (fun u : kS => u = res) (kB D aa q) (wA kC aa)) 0 0 (wA kC aa) := by
  refine Met.ofW (cc := bc_L_insert) (maxL := 4) (ret := none) (by decide) rfl ?_
  intro p e s m args below meth c s₁ B hml hv
  obtain ⟨rfl, hP, hK⟩ := hv
  have hx := B.exec
  have hb := B.bytes
  have hr := B.returns
  have ht : ∀ w ∈ lw_g, w.before ([.ref (aa 4 g0), .int x1, .int x2] : List Value).toArray s = true := fun w h => atoms_spec (ws := .code by_L_insert bc_L_insert 4 none :: lw_g) B.pre w (List.mem_cons_of_mem _ h)
  have hown : s.vm.findClass bR_L = some m.cls := findClass_of_methodNamed B.named
  have hlocks := B.notSynchronized
  have S : CallFix p m c bc_L_insert 4 s ([.ref (aa 4 g0), .int x1, .int x2] : List Value).toArray lw_g bR_L := ⟨hx, hb, hml, hown, ht⟩
  have hS : va_S (wA kC aa) s.heap s.heap [] := va_S.rf
  have hl := lv_entry ([.ref (aa 4 g0), .int x1, .int x2]) (n := 4) (Nat.le_of_ble_eq_true rfl)
  rw [lg_entry_eq]
  generalize (lg_sl ([.ref (aa 4 g0), .int x1, .int x2]) ++ List.replicate (4 - (lg_sl ([.ref (aa 4 g0), .int x1, .int x2])).length) Slot.unset).toArray = ls at hl ⊢
  have hl : lv_has ls 4 [(0, .ref (aa 4 g0)), (1, .int x1), (2, .int x2)] := hl
  unfold F_L_insert at h
  refine lv_aload_n hx hb de_L_insert_0 rfl (lv_at hl 0 rfl) ?_
  refine kg_4 (v := .int (gI σ 19 g0 0)) hx hb ht hown hK hP hg0 1 (by decide) tw_1_31 rfl de_L_insert_1 ?_
  refine lv_bipush (v := 12) hx hb de_L_insert_4 (by decide) ?_
  refine lv_icmp_lt (tgt := 10) hx hb de_L_insert_6 (by decide) (fun hc => ?_) (fun hc => ?_)
  · have h := ie_t h hc
    refine lv_aload_n hx hb de_L_insert_10 rfl (lv_at hl 0 rfl) ?_
    refine kg_4 (v := .int (gI σ 19 g0 0)) hx hb ht hown hK hP hg0 1 (by decide) tw_1_31 rfl de_L_insert_11 ?_
    refine lv_topi (fun v1 ev1 => ?_)
    have h := lx_at h v1 ev1
    refine lv_istore_n (lv' := [(3, .int v1), (0, .ref (aa 4 g0)), (1, .int x1), (2, .int x2)]) hx hb de_L_insert_14 rfl hl (by decide) rfl (fun ls hl => ?_)
    obtain ⟨ex2, hex2, h⟩ := bd_some h
    refine w_L_insert_15 hJ S hlocks hK 1000 σ g0 hg0 x1 x2 v1 ex2 _ _ _ (lv_sub hl [1, 2, 3, 0] rfl) hP hS hex2 (fun H locs ls hl hP hS => ?_)
    refine lv_aload_n hx hb de_L_insert_40 rfl (lv_at hl 0 rfl) ?_
    refine kg_4 (v := .ref (aa 5 g0)) hx hb ht hown hK hP hg0 0 (by decide) tw_1_29 rfl de_L_insert_41 ?_
    refine lv_iload_n hx hb de_L_insert_44 rfl (lv_at hl 1 rfl) ?_
    refine lv_iload_n hx hb de_L_insert_45 rfl (lv_at hl 2 rfl) ?_
    obtain ⟨hi3, h⟩ := gd_some h
    refine kt_5 hx hb hK hP hJ hS hg0 (inb_in hi3) de_L_insert_46 (fun H locs hP hS => ?_)
    obtain ⟨σ4, eσ4, h⟩ := lx_ex h
    rw [← eσ4] at hP
    refine lv_aload_n hx hb de_L_insert_47 rfl (lv_at hl 0 rfl) ?_
    refine lv_dup hx hb de_L_insert_48 rfl ?_
    refine kg_4 (v := .int (gI σ4 19 g0 0)) hx hb ht hown hK hP hg0 1 (by decide) tw_1_31 rfl de_L_insert_49 ?_
    refine lv_iconst (v := 1) hx hb de_L_insert_52 (by decide) ?_
    refine lv_iadd hx hb de_L_insert_53 ?_
    refine kp_4_size hx hb ht hown hK hP hJ hS hg0 tw_1_31 de_L_insert_54 (fun H locs hP hS => ?_)
    obtain ⟨σ5, eσ5, h⟩ := lx_ex h
    rw [← eσ5] at hP
    have h := Option.some.inj h
    subst h
    exact W.vret hx hb hr (fun t ht hW => ⟨⟨_, rfl, rfl, by rw [ht]; exact hP, va_K.moved hW.alike hK⟩, hS.F ht⟩) hS.2.2 de_L_insert_57 hlocks
  · have h := ie_f h hc
    have h := Option.some.inj h
    subst h
    exact W.vret hx hb hr (fun t ht hW => ⟨⟨_, rfl, rfl, by rw [ht]; exact hP, va_K.moved hW.alike hK⟩, hS.F ht⟩) hS.2.2 de_L_insert_9 hlocks
set_option maxHeartbeats 4000000 in
set_option maxRecDepth 100000 in
theorem c_K_standInLine (l : Launch) (D : va_G) (aa : Nat → Nat → Nat) (q : Nat → ClassId) (hJ : wJ kC aa) (σ : kS) (g1 : Nat) (hg1 : g1 < 12) (res : Int32 × kS) (h : F_K_standInLine σ g1 = some res) : Met l by_K_standInLine (.code by_K_standInLine bc_K_standInLine 3 (some .boolean) :: lw_g) brm_K_standInLine (va_Pc [.ref (aa 0 0), .ref (aa 9 g1)] (kPre D aa q σ)) (va_Qi (fun (r : Int32) (u : kS) => r = res.1 ∧ u = res.2) (kB D aa q) (wA kC aa)) 0 0 (wA kC aa) := by
  refine Met.ofW (cc := bc_K_standInLine) (maxL := 3) (ret := (some .boolean)) (by decide) rfl ?_
  intro p e s m args below meth c s₁ B hml hv
  obtain ⟨rfl, hP, hK⟩ := hv
  have hx := B.exec
  have hb := B.bytes
  have hr := B.returns
  have ht : ∀ w ∈ lw_g, w.before ([.ref (aa 0 0), .ref (aa 9 g1)] : List Value).toArray s = true := fun w h => atoms_spec (ws := .code by_K_standInLine bc_K_standInLine 3 (some .boolean) :: lw_g) B.pre w (List.mem_cons_of_mem _ h)
  have hown : s.vm.findClass bR_K = some m.cls := findClass_of_methodNamed B.named
  have hlocks := B.notSynchronized
  have S : CallFix p m c bc_K_standInLine 3 s ([.ref (aa 0 0), .ref (aa 9 g1)] : List Value).toArray lw_g bR_K := ⟨hx, hb, hml, hown, ht⟩
  have hS : va_S (wA kC aa) s.heap s.heap [] := va_S.rf
  have hl := lv_entry ([.ref (aa 0 0), .ref (aa 9 g1)]) (n := 3) (Nat.le_of_ble_eq_true rfl)
  rw [lg_entry_eq]
  generalize (lg_sl ([.ref (aa 0 0), .ref (aa 9 g1)]) ++ List.replicate (3 - (lg_sl ([.ref (aa 0 0), .ref (aa 9 g1)])).length) Slot.unset).toArray = ls at hl ⊢
  have hl : lv_has ls 3 [(0, .ref (aa 0 0)), (1, .ref (aa 9 g1))] := hl
  unfold F_K_standInLine at h
  refine lv_aload_n hx hb de_K_standInLine_0 rfl (lv_at hl 1 rfl) ?_
  obtain ⟨r1, hr1, h⟩ := bd_some h
  refine kq_i (va_runV (As := []) (rest := []) S (c_P_firstOperand l D aa q hJ σ g1 hg1 r1 hr1) (cwV 0 ht (gv_in tw_2_36 tw_2_37 tw_2_38 tw_1_4 tc_P_firstOperand) rfl rfl rfl bh_P_firstOperand ⟨Nat.le_of_ble_eq_true rfl, Nat.le_of_ble_eq_true rfl⟩) (kpreV hK hP (kr_9 hK hP hg1)) rfl rfl hl.1 rfl (lv_room (Nat.le_of_ble_eq_true rfl)) de_K_standInLine_1 ⟨Nat.zero_le _, Nat.zero_le _⟩) hS (fun H locs hP hS => ?_)
  refine lv_istore_n (lv' := [(2, .int r1), (0, .ref (aa 0 0)), (1, .ref (aa 9 g1))]) hx hb de_K_standInLine_4 rfl hl (by decide) rfl (fun ls hl => ?_)
  refine lv_aload_n hx hb de_K_standInLine_5 rfl (lv_at hl 1 rfl) ?_
  refine kg_0 (v := .ref (aa 2 0)) hx hb ht hown hK hP (by decide) 1 (by decide) tw_1_172 rfl de_K_standInLine_6 ?_
  refine lv_iload_n hx hb de_K_standInLine_9 rfl (lv_at hl 0 rfl) ?_
  obtain ⟨hi2, h⟩ := gd_some h
  refine kl_2 hx hb hK hP (by decide) (inb_in hi2) de_K_standInLine_10 (fun j3 ej3 => ?_)
  have h := lx_at h j3 ej3
  have hj3 : j3 < 4 := by rw [ej3]; exact inb_lt hi2
  refine kg_14 (v := .ref (aa 4 j3)) hx hb ht hown hK hP hj3 0 (by decide) tw_1_133 rfl de_K_standInLine_11 ?_
  refine lv_aload_n hx hb de_K_standInLine_14 rfl (lv_at hl 1 rfl) ?_
  refine lv_iload_n hx hb de_K_standInLine_15 rfl (lv_at hl 0 rfl) ?_
  refine lv_aload_n hx hb de_K_standInLine_16 rfl (lv_at hl 2 rfl) ?_
  refine kg_9 (v := .int (gI σ 4 g1 0)) hx hb ht hown hK hP hg1 6 (by decide) tw_1_73 rfl de_K_standInLine_17 ?_
  obtain ⟨r4, hr4, h⟩ := bd_some h
  refine kq_i (va_runV (As := [.int r1, .int (gI σ 4 g1 0)]) (rest := [.ref (aa 4 j3)]) S (c_K_countBefore l D aa q hJ σ r1 (gI σ 4 g1 0) r4 hr4) (cwV 2 ht (gv_in tw_2_101 tw_2_103 ts_K_countBefore tw_1_1 tc_K_countBefore) rfl rfl rfl bh_K_countBefore ⟨Nat.le_of_ble_eq_true rfl, Nat.le_of_ble_eq_true rfl⟩) (kpreV hK hP (kr_0 hK hP (by decide))) rfl rfl hl.1 rfl (lv_room (Nat.le_of_ble_eq_true rfl)) de_K_standInLine_20 ⟨Nat.zero_le _, Nat.zero_le _⟩) hS (fun H locs hP hS => ?_)
  refine lv_aload_n hx hb de_K_standInLine_23 rfl (lv_at hl 2 rfl) ?_
  refine kg_9 (v := .int (gI σ 2 g1 0)) hx hb ht hown hK hP hg1 0 (by decide) tw_1_61 rfl de_K_standInLine_24 ?_
  obtain ⟨r5, hr5, h⟩ := bd_some h
  refine kq_v (va_runV (As := [.int r4, .int (gI σ 2 g1 0)]) (rest := []) S (c_L_insert l D aa q hJ σ j3 (Nat.lt_succ_of_lt hj3) r4 (gI σ 2 g1 0) r5 hr5) (cwV 2 ht (gv_in tw_2_126 tw_2_127 tw_2_128 tw_1_2 tc_L_insert) rfl rfl rfl bh_L_insert ⟨Nat.le_of_ble_eq_true rfl, Nat.le_of_ble_eq_true rfl⟩) (kpreV hK hP (kr_4 hK hP (Nat.lt_succ_of_lt hj3))) rfl rfl hl.1 rfl (lv_room (Nat.le_of_ble_eq_true rfl)) de_K_standInLine_27 ⟨Nat.zero_le _, Nat.zero_le _⟩) hS (fun H locs hP hS => ?_)
  refine lv_aload_n hx hb de_K_standInLine_30 rfl (lv_at hl 2 rfl) ?_
  refine lv_iconst (v := 4) hx hb de_K_standInLine_31 (by decide) ?_
  refine kp_9_state hx hb ht hown hK hP hJ hS hg1 tw_1_79 de_K_standInLine_32 (fun H locs hP hS => ?_)
  obtain ⟨σ6, eσ6, h⟩ := lx_ex h
  rw [← eσ6] at hP
  refine lv_aload_n hx hb de_K_standInLine_35 rfl (lv_at hl 2 rfl) ?_
  refine lv_aload_n hx hb de_K_standInLine_36 rfl (lv_at hl 1 rfl) ?_
  refine kg_0 (v := .long (gL σ6 0 0 0)) hx hb ht hown hK hP (by decide) 7 (by decide) tw_1_178 rfl de_K_standInLine_37 ?_
  refine kp_9_since hx hb ht hown hK hP hJ hS hg1 tw_1_91 de_K_standInLine_40 (fun H locs hP hS => ?_)
  obtain ⟨σ7, eσ7, h⟩ := lx_ex h
  rw [← eσ7] at hP
  refine lv_iconst (v := 0) hx hb de_K_standInLine_43 (by decide) ?_
  have h := Option.some.inj h
  subst h
  exact W.zret (v := 0) hx hb hr rfl (fun t ht hW => ⟨⟨_, _, rfl, ⟨rfl, rfl⟩, by rw [ht]; exact hP, va_K.moved hW.alike hK⟩, hS.F ht⟩) hS.2.2 de_K_standInLine_44 hlocks
set_option maxHeartbeats 4000000 in
set_option maxRecDepth 100000 in
theorem c_T_put (l : Launch) (D : va_G) (aa : Nat → Nat → Nat) (q : Nat → ClassId) (hJ : wJ kC aa) (σ : kS) (g0 : Nat) (hg0 : g0 < 4) (x1 : Int32) (res : Int32 × kS) (h : F_T_put σ g0 x1 = some res) : Met l by_T_put (.code by_T_put bc_T_put 2 (some .boolean) :: lw_g) brm_T_put (va_Pc [.ref (aa 15 g0), .int x1] (kPre D aa q σ)) (va_Qi (fun (r : Int32) (u : kS) => r = res.1 ∧ u = res.2) (kB D aa q) (wA kC aa)) 0 0 (wA kC aa) := by
  refine Met.ofW (cc := bc_T_put) (maxL := 2) (ret := (some .boolean)) (by decide) rfl ?_
  intro p e s m args below meth c s₁ B hml hv
  obtain ⟨rfl, hP, hK⟩ := hv
  have hx := B.exec
  have hb := B.bytes
  have hr := B.returns
  have ht : ∀ w ∈ lw_g, w.before ([.ref (aa 15 g0), .int x1] : List Value).toArray s = true := fun w h => atoms_spec (ws := .code by_T_put bc_T_put 2 (some .boolean) :: lw_g) B.pre w (List.mem_cons_of_mem _ h)
  have hown : s.vm.findClass bR_T = some m.cls := findClass_of_methodNamed B.named
  have hlocks := B.notSynchronized
  have S : CallFix p m c bc_T_put 2 s ([.ref (aa 15 g0), .int x1] : List Value).toArray lw_g bR_T := ⟨hx, hb, hml, hown, ht⟩
  have hS : va_S (wA kC aa) s.heap s.heap [] := va_S.rf
  have hl := lv_entry ([.ref (aa 15 g0), .int x1]) (n := 2) (Nat.le_of_ble_eq_true rfl)
  rw [lg_entry_eq]
  generalize (lg_sl ([.ref (aa 15 g0), .int x1]) ++ List.replicate (2 - (lg_sl ([.ref (aa 15 g0), .int x1])).length) Slot.unset).toArray = ls at hl ⊢
  have hl : lv_has ls 2 [(0, .ref (aa 15 g0)), (1, .int x1)] := hl
  unfold F_T_put at h
  refine lv_aload_n hx hb de_T_put_0 rfl (lv_at hl 0 rfl) ?_
  refine kg_15 (v := .int (gI σ 21 g0 0)) hx hb ht hown hK hP hg0 1 (by decide) tw_1_164 rfl de_T_put_1 ?_
  refine lv_iload_n hx hb de_T_put_4 rfl (lv_at hl 1 rfl) ?_
  refine lv_iadd hx hb de_T_put_5 ?_
  refine lv_aload_n hx hb de_T_put_6 rfl (lv_at hl 0 rfl) ?_
  refine kg_15 (v := .int (gI σ 20 g0 0)) hx hb ht hown hK hP hg0 0 (by decide) tw_1_162 rfl de_T_put_7 ?_
  refine lv_icmp_le (tgt := 15) hx hb de_T_put_10 (by decide) (fun hc => ?_) (fun hc => ?_)
  · have h := ie_t h hc
    refine lv_aload_n hx hb de_T_put_15 rfl (lv_at hl 0 rfl) ?_
    refine lv_dup hx hb de_T_put_16 rfl ?_
    refine kg_15 (v := .int (gI σ 21 g0 0)) hx hb ht hown hK hP hg0 1 (by decide) tw_1_164 rfl de_T_put_17 ?_
    refine lv_iload_n hx hb de_T_put_20 rfl (lv_at hl 1 rfl) ?_
    refine lv_iadd hx hb de_T_put_21 ?_
    refine kp_15_level hx hb ht hown hK hP hJ hS hg0 tw_1_164 de_T_put_22 (fun H locs hP hS => ?_)
    obtain ⟨σ1, eσ1, h⟩ := lx_ex h
    rw [← eσ1] at hP
    refine lv_iconst (v := 1) hx hb de_T_put_25 (by decide) ?_
    have h := Option.some.inj h
    subst h
    exact W.zret (v := 1) hx hb hr rfl (fun t ht hW => ⟨⟨_, _, rfl, ⟨rfl, rfl⟩, by rw [ht]; exact hP, va_K.moved hW.alike hK⟩, hS.F ht⟩) hS.2.2 de_T_put_26 hlocks
  · have h := ie_f h hc
    refine lv_iconst (v := 0) hx hb de_T_put_13 (by decide) ?_
    have h := Option.some.inj h
    subst h
    exact W.zret (v := 0) hx hb hr rfl (fun t ht hW => ⟨⟨_, _, rfl, ⟨rfl, rfl⟩, by rw [ht]; exact hP, va_K.moved hW.alike hK⟩, hS.F ht⟩) hS.2.2 de_T_put_14 hlocks
set_option maxHeartbeats 4000000 in
set_option maxRecDepth 100000 in
theorem c_T_take (l : Launch) (D : va_G) (aa : Nat → Nat → Nat) (q : Nat → ClassId) (hJ : wJ kC aa) (σ : kS) (g0 : Nat) (hg0 : g0 < 4) (x1 : Int32) (res : Int32 × kS) (h : F_T_take σ g0 x1 = some res) : Met l by_T_take (.code by_T_take bc_T_take 2 (some .boolean) :: lw_g) brm_T_take (va_Pc [.ref (aa 15 g0), .int x1] (kPre D aa q σ)) (va_Qi (fun (r : Int32) (u : kS) => r = res.1 ∧ u = res.2) (kB D aa q) (wA kC aa)) 0 0 (wA kC aa) := by
  refine Met.ofW (cc := bc_T_take) (maxL := 2) (ret := (some .boolean)) (by decide) rfl ?_
  intro p e s m args below meth c s₁ B hml hv
  obtain ⟨rfl, hP, hK⟩ := hv
  have hx := B.exec
  have hb := B.bytes
  have hr := B.returns
  have ht : ∀ w ∈ lw_g, w.before ([.ref (aa 15 g0), .int x1] : List Value).toArray s = true := fun w h => atoms_spec (ws := .code by_T_take bc_T_take 2 (some .boolean) :: lw_g) B.pre w (List.mem_cons_of_mem _ h)
  have hown : s.vm.findClass bR_T = some m.cls := findClass_of_methodNamed B.named
  have hlocks := B.notSynchronized
  have S : CallFix p m c bc_T_take 2 s ([.ref (aa 15 g0), .int x1] : List Value).toArray lw_g bR_T := ⟨hx, hb, hml, hown, ht⟩
  have hS : va_S (wA kC aa) s.heap s.heap [] := va_S.rf
  have hl := lv_entry ([.ref (aa 15 g0), .int x1]) (n := 2) (Nat.le_of_ble_eq_true rfl)
  rw [lg_entry_eq]
  generalize (lg_sl ([.ref (aa 15 g0), .int x1]) ++ List.replicate (2 - (lg_sl ([.ref (aa 15 g0), .int x1])).length) Slot.unset).toArray = ls at hl ⊢
  have hl : lv_has ls 2 [(0, .ref (aa 15 g0)), (1, .int x1)] := hl
  unfold F_T_take at h
  refine lv_aload_n hx hb de_T_take_0 rfl (lv_at hl 0 rfl) ?_
  refine kg_15 (v := .int (gI σ 21 g0 0)) hx hb ht hown hK hP hg0 1 (by decide) tw_1_164 rfl de_T_take_1 ?_
  refine lv_iload_n hx hb de_T_take_4 rfl (lv_at hl 1 rfl) ?_
  refine lv_icmp_ge (tgt := 10) hx hb de_T_take_5 (by decide) (fun hc => ?_) (fun hc => ?_)
  · have h := ie_t h hc
    refine lv_aload_n hx hb de_T_take_10 rfl (lv_at hl 0 rfl) ?_
    refine lv_dup hx hb de_T_take_11 rfl ?_
    refine kg_15 (v := .int (gI σ 21 g0 0)) hx hb ht hown hK hP hg0 1 (by decide) tw_1_164 rfl de_T_take_12 ?_
    refine lv_iload_n hx hb de_T_take_15 rfl (lv_at hl 1 rfl) ?_
    refine lv_isub hx hb de_T_take_16 ?_
    refine kp_15_level hx hb ht hown hK hP hJ hS hg0 tw_1_164 de_T_take_17 (fun H locs hP hS => ?_)
    obtain ⟨σ1, eσ1, h⟩ := lx_ex h
    rw [← eσ1] at hP
    refine lv_iconst (v := 1) hx hb de_T_take_20 (by decide) ?_
    have h := Option.some.inj h
    subst h
    exact W.zret (v := 1) hx hb hr rfl (fun t ht hW => ⟨⟨_, _, rfl, ⟨rfl, rfl⟩, by rw [ht]; exact hP, va_K.moved hW.alike hK⟩, hS.F ht⟩) hS.2.2 de_T_take_21 hlocks
  · have h := ie_f h hc
    refine lv_iconst (v := 0) hx hb de_T_take_8 (by decide) ?_
    have h := Option.some.inj h
    subst h
    exact W.zret (v := 0) hx hb hr rfl (fun t ht hW => ⟨⟨_, _, rfl, ⟨rfl, rfl⟩, by rw [ht]; exact hP, va_K.moved hW.alike hK⟩, hS.F ht⟩) hS.2.2 de_T_take_9 hlocks
set_option maxHeartbeats 4000000 in
set_option maxRecDepth 100000 in
theorem c_K_meetCondition (l : Launch) (D : va_G) (aa : Nat → Nat → Nat) (q : Nat → ClassId) (hJ : wJ kC aa) (σ : kS) (g1 : Nat) (hg1 : g1 < 12) (res : Int32 × kS) (h : F_K_meetCondition σ g1 = some res) : Met l by_K_meetCondition (.code by_K_meetCondition bc_K_meetCondition 3 (some .boolean) :: lw_g) brm_K_meetCondition (va_Pc [.ref (aa 0 0), .ref (aa 9 g1)] (kPre D aa q σ)) (va_Qi (fun (r : Int32) (u : kS) => r = res.1 ∧ u = res.2) (kB D aa q) (wA kC aa)) 0 0 (wA kC aa) := by
  refine Met.ofW (cc := bc_K_meetCondition) (maxL := 3) (ret := (some .boolean)) (by decide) rfl ?_
  intro p e s m args below meth c s₁ B hml hv
  obtain ⟨rfl, hP, hK⟩ := hv
  have hx := B.exec
  have hb := B.bytes
  have hr := B.returns
  have ht : ∀ w ∈ lw_g, w.before ([.ref (aa 0 0), .ref (aa 9 g1)] : List Value).toArray s = true := fun w h => atoms_spec (ws := .code by_K_meetCondition bc_K_meetCondition 3 (some .boolean) :: lw_g) B.pre w (List.mem_cons_of_mem _ h)
  have hown : s.vm.findClass bR_K = some m.cls := findClass_of_methodNamed B.named
  have hlocks := B.notSynchronized
  have S : CallFix p m c bc_K_meetCondition 3 s ([.ref (aa 0 0), .ref (aa 9 g1)] : List Value).toArray lw_g bR_K := ⟨hx, hb, hml, hown, ht⟩
  have hS : va_S (wA kC aa) s.heap s.heap [] := va_S.rf
  have hl := lv_entry ([.ref (aa 0 0), .ref (aa 9 g1)]) (n := 3) (Nat.le_of_ble_eq_true rfl)
  rw [lg_entry_eq]
  generalize (lg_sl ([.ref (aa 0 0), .ref (aa 9 g1)]) ++ List.replicate (3 - (lg_sl ([.ref (aa 0 0), .ref (aa 9 g1)])).length) Slot.unset).toArray = ls at hl ⊢
  have hl : lv_has ls 3 [(0, .ref (aa 0 0)), (1, .ref (aa 9 g1))] := hl
  unfold F_K_meetCondition at h
  refine lv_aload_n hx hb de_K_meetCondition_0 rfl (lv_at hl 1 rfl) ?_
  obtain ⟨r1, hr1, h⟩ := bd_some h
  refine kq_i (va_runV (As := []) (rest := []) S (c_P_firstOperand l D aa q hJ σ g1 hg1 r1 hr1) (cwV 0 ht (gv_in tw_2_36 tw_2_37 tw_2_38 tw_1_4 tc_P_firstOperand) rfl rfl rfl bh_P_firstOperand ⟨Nat.le_of_ble_eq_true rfl, Nat.le_of_ble_eq_true rfl⟩) (kpreV hK hP (kr_9 hK hP hg1)) rfl rfl hl.1 rfl (lv_room (Nat.le_of_ble_eq_true rfl)) de_K_meetCondition_1 ⟨Nat.zero_le _, Nat.zero_le _⟩) hS (fun H locs hP hS => ?_)
  refine lv_istore_n (lv' := [(2, .int r1), (0, .ref (aa 0 0)), (1, .ref (aa 9 g1))]) hx hb de_K_meetCondition_4 rfl hl (by decide) rfl (fun ls hl => ?_)
  refine lv_aload_n hx hb de_K_meetCondition_5 rfl (lv_at hl 2 rfl) ?_
  refine kg_9 (v := .ref (aa 10 g1)) hx hb ht hown hK hP hg1 1 (by decide) tw_1_63 rfl de_K_meetCondition_6 ?_
  refine lv_aload_n hx hb de_K_meetCondition_9 rfl (lv_at hl 2 rfl) ?_
  refine kg_9 (v := .int (gI σ 9 g1 0)) hx hb ht hown hK hP hg1 11 (by decide) tw_1_83 rfl de_K_meetCondition_10 ?_
  obtain ⟨hi2, h⟩ := gd_some h
  refine kl_10 hx hb hK hP hg1 (inb_in hi2) de_K_meetCondition_13 ?_
  by_cases hk14_4 : (gI σ 11 g1 (gI σ 9 g1 0).toNatClampNeg) = 4
  · have h := ie_t h hk14_4
    refine lv_lookup (off := 26) (tgt := 40) hx hb de_K_meetCondition_14 (by decide) (by rw [hk14_4]; decide) (by decide) ?_
    refine lv_aload_n hx hb de_K_meetCondition_40 rfl (lv_at hl 1 rfl) ?_
    refine kg_0 (v := .ref (aa 3 0)) hx hb ht hown hK hP (by decide) 2 (by decide) tw_1_173 rfl de_K_meetCondition_41 ?_
    refine lv_iload_n hx hb de_K_meetCondition_44 rfl (lv_at hl 0 rfl) ?_
    obtain ⟨hi3, h⟩ := gd_some h
    refine kl_3 hx hb hK hP (by decide) (inb_in hi3) de_K_meetCondition_45 (fun j4 ej4 => ?_)
    have h := lx_at h j4 ej4
    have hj4 : j4 < 4 := by rw [ej4]; exact inb_lt hi3
    refine lv_aload_n hx hb de_K_meetCondition_46 rfl (lv_at hl 2 rfl) ?_
    obtain ⟨r5, hr5, h⟩ := bd_some h
    refine kq_i (va_runV (As := []) (rest := [.ref (aa 15 j4)]) S (c_P_secondOperand l D aa q hJ σ g1 hg1 r5 hr5) (cwV 0 ht (gv_in tw_1_236 tw_1_237 tw_1_238 tw_1_4 tc_P_secondOperand) rfl rfl rfl bh_P_secondOperand ⟨Nat.le_of_ble_eq_true rfl, Nat.le_of_ble_eq_true rfl⟩) (kpreV hK hP (kr_9 hK hP hg1)) rfl rfl hl.1 rfl (lv_room (Nat.le_of_ble_eq_true rfl)) de_K_meetCondition_47 ⟨Nat.zero_le _, Nat.zero_le _⟩) hS (fun H locs hP hS => ?_)
    obtain ⟨r6, hr6, h⟩ := bd_some h
    refine kq_i (va_runV (As := [.int r5]) (rest := []) S (c_T_put l D aa q hJ σ j4 hj4 r5 r6 hr6) (cwV 1 ht (gv_in tw_2_134 tw_2_135 tw_2_136 tw_1_6 tc_T_put) rfl rfl rfl bh_T_put ⟨Nat.le_of_ble_eq_true rfl, Nat.le_of_ble_eq_true rfl⟩) (kpreV hK hP (kr_15 hK hP hj4)) rfl rfl hl.1 rfl (lv_room (Nat.le_of_ble_eq_true rfl)) de_K_meetCondition_50 ⟨Nat.zero_le _, Nat.zero_le _⟩) hS (fun H locs hP hS => ?_)
    obtain ⟨hi7, h⟩ := gd_some h
    have h := Option.some.inj h
    subst h
    exact W.zret (v := r6.1) hx hb hr (bz_nar hi7) (fun t ht hW => ⟨⟨_, _, rfl, ⟨rfl, rfl⟩, by rw [ht]; exact hP, va_K.moved hW.alike hK⟩, hS.F ht⟩) hS.2.2 de_K_meetCondition_53 hlocks
  have h := ie_f h hk14_4
  by_cases hk14_5 : (gI σ 11 g1 (gI σ 9 g1 0).toNatClampNeg) = 5
  · have h := ie_t h hk14_5
    refine lv_lookup (off := 40) (tgt := 54) hx hb de_K_meetCondition_14 (by decide) (by rw [hk14_5]; decide) (by decide) ?_
    refine lv_aload_n hx hb de_K_meetCondition_54 rfl (lv_at hl 1 rfl) ?_
    refine kg_0 (v := .ref (aa 3 0)) hx hb ht hown hK hP (by decide) 2 (by decide) tw_1_173 rfl de_K_meetCondition_55 ?_
    refine lv_iload_n hx hb de_K_meetCondition_58 rfl (lv_at hl 0 rfl) ?_
    obtain ⟨hi8, h⟩ := gd_some h
    refine kl_3 hx hb hK hP (by decide) (inb_in hi8) de_K_meetCondition_59 (fun j9 ej9 => ?_)
    have h := lx_at h j9 ej9
    have hj9 : j9 < 4 := by rw [ej9]; exact inb_lt hi8
    refine lv_aload_n hx hb de_K_meetCondition_60 rfl (lv_at hl 2 rfl) ?_
    obtain ⟨r10, hr10, h⟩ := bd_some h
    refine kq_i (va_runV (As := []) (rest := [.ref (aa 15 j9)]) S (c_P_secondOperand l D aa q hJ σ g1 hg1 r10 hr10) (cwV 0 ht (gv_in tw_1_236 tw_1_237 tw_1_238 tw_1_4 tc_P_secondOperand) rfl rfl rfl bh_P_secondOperand ⟨Nat.le_of_ble_eq_true rfl, Nat.le_of_ble_eq_true rfl⟩) (kpreV hK hP (kr_9 hK hP hg1)) rfl rfl hl.1 rfl (lv_room (Nat.le_of_ble_eq_true rfl)) de_K_meetCondition_61 ⟨Nat.zero_le _, Nat.zero_le _⟩) hS (fun H locs hP hS => ?_)
    obtain ⟨r11, hr11, h⟩ := bd_some h
    refine kq_i (va_runV (As := [.int r10]) (rest := []) S (c_T_take l D aa q hJ σ j9 hj9 r10 r11 hr11) (cwV 1 ht (gv_in tw_2_138 tw_2_139 tw_2_140 tw_1_6 tc_T_take) rfl rfl rfl bh_T_take ⟨Nat.le_of_ble_eq_true rfl, Nat.le_of_ble_eq_true rfl⟩) (kpreV hK hP (kr_15 hK hP hj9)) rfl rfl hl.1 rfl (lv_room (Nat.le_of_ble_eq_true rfl)) de_K_meetCondition_64 ⟨Nat.zero_le _, Nat.zero_le _⟩) hS (fun H locs hP hS => ?_)
    obtain ⟨hi12, h⟩ := gd_some h
    have h := Option.some.inj h
    subst h
    exact W.zret (v := r11.1) hx hb hr (bz_nar hi12) (fun t ht hW => ⟨⟨_, _, rfl, ⟨rfl, rfl⟩, by rw [ht]; exact hP, va_K.moved hW.alike hK⟩, hS.F ht⟩) hS.2.2 de_K_meetCondition_67 hlocks
  have h := ie_f h hk14_5
  refine lv_lookup (off := 54) (tgt := 68) hx hb de_K_meetCondition_14 (by decide) (by rw [lv_osw hk14_4 (by decide)]; rw [lv_osw hk14_5 (by decide)]; rfl) (by decide) ?_
  refine lv_aload_n hx hb de_K_meetCondition_68 rfl (lv_at hl 1 rfl) ?_
  refine lv_iload_n hx hb de_K_meetCondition_69 rfl (lv_at hl 0 rfl) ?_
  obtain ⟨r13, hr13, h⟩ := bd_some h
  refine kq_i (va_runV (As := [.int r1]) (rest := []) S (c_K_isProcess l D aa q hJ σ r1 r13 hr13) (cwV 1 ht (gv_in tw_1_210 tw_1_212 ts_K_isProcess tw_1_1 tc_K_isProcess) rfl rfl rfl bh_K_isProcess ⟨Nat.le_of_ble_eq_true rfl, Nat.le_of_ble_eq_true rfl⟩) (kpreV hK hP (kr_0 hK hP (by decide))) rfl rfl hl.1 rfl (lv_room (Nat.le_of_ble_eq_true rfl)) de_K_meetCondition_70 ⟨Nat.zero_le _, Nat.zero_le _⟩) hS (fun H locs hP hS => ?_)
  refine lv_if_eq (tgt := 88) hx hb de_K_meetCondition_73 (by decide) (fun hc => ?_) (fun hc => ?_)
  · have h := ie_t h hc
    refine lv_iconst (v := 1) hx hb de_K_meetCondition_88 (by decide) ?_
    refine lv_goto (tgt := 93) hx hb de_K_meetCondition_89 (by decide) ?_
    have h := Option.some.inj h
    subst h
    exact W.zret (v := 1) hx hb hr rfl (fun t ht hW => ⟨⟨_, _, rfl, ⟨rfl, rfl⟩, by rw [ht]; exact hP, va_K.moved hW.alike hK⟩, hS.F ht⟩) hS.2.2 de_K_meetCondition_93 hlocks
  · have h := ie_f h hc
    refine lv_aload_n hx hb de_K_meetCondition_76 rfl (lv_at hl 1 rfl) ?_
    refine kg_0 (v := .ref (aa 1 0)) hx hb ht hown hK hP (by decide) 0 (by decide) tw_1_171 rfl de_K_meetCondition_77 ?_
    refine lv_iload_n hx hb de_K_meetCondition_80 rfl (lv_at hl 0 rfl) ?_
    obtain ⟨hi14, h⟩ := gd_some h
    refine kl_1 hx hb hK hP (by decide) (inb_in hi14) de_K_meetCondition_81 (fun j15 ej15 => ?_)
    have h := lx_at h j15 ej15
    have hj15 : j15 < 12 := by rw [ej15]; exact inb_lt hi14
    obtain ⟨r16, hr16, h⟩ := bd_some h
    refine kq_i (va_runV (As := []) (rest := []) S (c_P_isOver l D aa q hJ σ j15 hj15 r16 hr16) (cwV 0 ht (gv_in tw_2_48 tw_2_49 tw_2_50 tw_1_4 tc_P_isOver) rfl rfl rfl bh_P_isOver ⟨Nat.le_of_ble_eq_true rfl, Nat.le_of_ble_eq_true rfl⟩) (kpreV hK hP (kr_9 hK hP hj15)) rfl rfl hl.1 rfl (lv_room (Nat.le_of_ble_eq_true rfl)) de_K_meetCondition_82 ⟨Nat.zero_le _, Nat.zero_le _⟩) hS (fun H locs hP hS => ?_)
    refine lv_if_eq (tgt := 92) hx hb de_K_meetCondition_85 (by decide) (fun hc => ?_) (fun hc => ?_)
    · have h := ie_t h hc
      refine lv_iconst (v := 0) hx hb de_K_meetCondition_92 (by decide) ?_
      have h := Option.some.inj h
      subst h
      exact W.zret (v := 0) hx hb hr rfl (fun t ht hW => ⟨⟨_, _, rfl, ⟨rfl, rfl⟩, by rw [ht]; exact hP, va_K.moved hW.alike hK⟩, hS.F ht⟩) hS.2.2 de_K_meetCondition_93 hlocks
    · have h := ie_f h hc
      refine lv_iconst (v := 1) hx hb de_K_meetCondition_88 (by decide) ?_
      refine lv_goto (tgt := 93) hx hb de_K_meetCondition_89 (by decide) ?_
      have h := Option.some.inj h
      subst h
      exact W.zret (v := 1) hx hb hr rfl (fun t ht hW => ⟨⟨_, _, rfl, ⟨rfl, rfl⟩, by rw [ht]; exact hP, va_K.moved hW.alike hK⟩, hS.F ht⟩) hS.2.2 de_K_meetCondition_93 hlocks
set_option maxHeartbeats 4000000 in
set_option maxRecDepth 100000 in
theorem c_K_waitForCondition (l : Launch) (D : va_G) (aa : Nat → Nat → Nat) (q : Nat → ClassId) (hJ : wJ kC aa) (σ : kS) (g1 : Nat) (hg1 : g1 < 12) (res : Int32 × kS) (h : F_K_waitForCondition σ g1 = some res) : Met l by_K_waitForCondition (.code by_K_waitForCondition bc_K_waitForCondition 2 (some .boolean) :: lw_g) brm_K_waitForCondition (va_Pc [.ref (aa 0 0), .ref (aa 9 g1)] (kPre D aa q σ)) (va_Qi (fun (r : Int32) (u : kS) => r = res.1 ∧ u = res.2) (kB D aa q) (wA kC aa)) 0 0 (wA kC aa) := by
  refine Met.ofW (cc := bc_K_waitForCondition) (maxL := 2) (ret := (some .boolean)) (by decide) rfl ?_
  intro p e s m args below meth c s₁ B hml hv
  obtain ⟨rfl, hP, hK⟩ := hv
  have hx := B.exec
  have hb := B.bytes
  have hr := B.returns
  have ht : ∀ w ∈ lw_g, w.before ([.ref (aa 0 0), .ref (aa 9 g1)] : List Value).toArray s = true := fun w h => atoms_spec (ws := .code by_K_waitForCondition bc_K_waitForCondition 2 (some .boolean) :: lw_g) B.pre w (List.mem_cons_of_mem _ h)
  have hown : s.vm.findClass bR_K = some m.cls := findClass_of_methodNamed B.named
  have hlocks := B.notSynchronized
  have S : CallFix p m c bc_K_waitForCondition 2 s ([.ref (aa 0 0), .ref (aa 9 g1)] : List Value).toArray lw_g bR_K := ⟨hx, hb, hml, hown, ht⟩
  have hS : va_S (wA kC aa) s.heap s.heap [] := va_S.rf
  have hl := lv_entry ([.ref (aa 0 0), .ref (aa 9 g1)]) (n := 2) (Nat.le_of_ble_eq_true rfl)
  rw [lg_entry_eq]
  generalize (lg_sl ([.ref (aa 0 0), .ref (aa 9 g1)]) ++ List.replicate (2 - (lg_sl ([.ref (aa 0 0), .ref (aa 9 g1)])).length) Slot.unset).toArray = ls at hl ⊢
  have hl : lv_has ls 2 [(0, .ref (aa 0 0)), (1, .ref (aa 9 g1))] := hl
  unfold F_K_waitForCondition at h
  refine lv_aload_n hx hb de_K_waitForCondition_0 rfl (lv_at hl 0 rfl) ?_
  refine kg_0 (v := .ref (aa 4 4)) hx hb ht hown hK hP (by decide) 3 (by decide) tw_1_174 rfl de_K_waitForCondition_1 ?_
  refine lv_aload_n hx hb de_K_waitForCondition_4 rfl (lv_at hl 0 rfl) ?_
  refine kg_0 (v := .ref (aa 4 4)) hx hb ht hown hK hP (by decide) 3 (by decide) tw_1_174 rfl de_K_waitForCondition_5 ?_
  refine kg_4 (v := .int (gI σ 19 4 0)) hx hb ht hown hK hP (by decide) 1 (by decide) tw_1_32 rfl de_K_waitForCondition_8 ?_
  refine lv_aload_n hx hb de_K_waitForCondition_11 rfl (lv_at hl 1 rfl) ?_
  refine kg_9 (v := .int (gI σ 2 g1 0)) hx hb ht hown hK hP hg1 0 (by decide) tw_1_61 rfl de_K_waitForCondition_12 ?_
  obtain ⟨r1, hr1, h⟩ := bd_some h
  refine kq_v (va_runV (As := [.int (gI σ 19 4 0), .int (gI σ 2 g1 0)]) (rest := []) S (c_L_insert l D aa q hJ σ 4 (by decide) (gI σ 19 4 0) (gI σ 2 g1 0) r1 hr1) (cwV 2 ht (gv_in tw_2_126 tw_2_127 tw_2_128 tw_1_2 tc_L_insert) rfl rfl rfl bh_L_insert ⟨Nat.le_of_ble_eq_true rfl, Nat.le_of_ble_eq_true rfl⟩) (kpreV hK hP (kr_4 hK hP (by decide))) rfl rfl hl.1 rfl (lv_room (Nat.le_of_ble_eq_true rfl)) de_K_waitForCondition_15 ⟨Nat.zero_le _, Nat.zero_le _⟩) hS (fun H locs hP hS => ?_)
  refine lv_aload_n hx hb de_K_waitForCondition_18 rfl (lv_at hl 1 rfl) ?_
  refine lv_iconst (v := 5) hx hb de_K_waitForCondition_19 (by decide) ?_
  refine kp_9_state hx hb ht hown hK hP hJ hS hg1 tw_1_79 de_K_waitForCondition_20 (fun H locs hP hS => ?_)
  obtain ⟨σ2, eσ2, h⟩ := lx_ex h
  rw [← eσ2] at hP
  refine lv_iconst (v := 0) hx hb de_K_waitForCondition_23 (by decide) ?_
  have h := Option.some.inj h
  subst h
  exact W.zret (v := 0) hx hb hr rfl (fun t ht hW => ⟨⟨_, _, rfl, ⟨rfl, rfl⟩, by rw [ht]; exact hP, va_K.moved hW.alike hK⟩, hS.F ht⟩) hS.2.2 de_K_waitForCondition_24 hlocks
set_option maxHeartbeats 4000000 in
set_option maxRecDepth 100000 in
theorem c_K_perform (l : Launch) (D : va_G) (aa : Nat → Nat → Nat) (q : Nat → ClassId) (hJ : wJ kC aa) (σ : kS) (g1 : Nat) (hg1 : g1 < 12) (res : Int32 × kS) (h : F_K_perform σ g1 = some res) : Met l by_K_perform (.code by_K_perform bc_K_perform 3 (some .boolean) :: lw_g) brm_K_perform (va_Pc [.ref (aa 0 0), .ref (aa 9 g1)] (kPre D aa q σ)) (va_Qi (fun (r : Int32) (u : kS) => r = res.1 ∧ u = res.2) (kB D aa q) (wA kC aa)) 0 0 (wA kC aa) := by
  refine Met.ofW (cc := bc_K_perform) (maxL := 3) (ret := (some .boolean)) (by decide) rfl ?_
  intro p e s m args below meth c s₁ B hml hv
  obtain ⟨rfl, hP, hK⟩ := hv
  have hx := B.exec
  have hb := B.bytes
  have hr := B.returns
  have ht : ∀ w ∈ lw_g, w.before ([.ref (aa 0 0), .ref (aa 9 g1)] : List Value).toArray s = true := fun w h => atoms_spec (ws := .code by_K_perform bc_K_perform 3 (some .boolean) :: lw_g) B.pre w (List.mem_cons_of_mem _ h)
  have hown : s.vm.findClass bR_K = some m.cls := findClass_of_methodNamed B.named
  have hlocks := B.notSynchronized
  have S : CallFix p m c bc_K_perform 3 s ([.ref (aa 0 0), .ref (aa 9 g1)] : List Value).toArray lw_g bR_K := ⟨hx, hb, hml, hown, ht⟩
  have hS : va_S (wA kC aa) s.heap s.heap [] := va_S.rf
  have hl := lv_entry ([.ref (aa 0 0), .ref (aa 9 g1)]) (n := 3) (Nat.le_of_ble_eq_true rfl)
  rw [lg_entry_eq]
  generalize (lg_sl ([.ref (aa 0 0), .ref (aa 9 g1)]) ++ List.replicate (3 - (lg_sl ([.ref (aa 0 0), .ref (aa 9 g1)])).length) Slot.unset).toArray = ls at hl ⊢
  have hl : lv_has ls 3 [(0, .ref (aa 0 0)), (1, .ref (aa 9 g1))] := hl
  unfold F_K_perform at h
  refine lv_aload_n hx hb de_K_perform_0 rfl (lv_at hl 1 rfl) ?_
  refine lv_aload_n hx hb de_K_perform_1 rfl (lv_at hl 1 rfl) ?_
  refine kg_9 (v := .int (gI σ 8 g1 0)) hx hb ht hown hK hP hg1 10 (by decide) tw_1_81 rfl de_K_perform_2 ?_
  refine kp_9_doing hx hb ht hown hK hP hJ hS hg1 tw_1_83 de_K_perform_5 (fun H locs hP hS => ?_)
  obtain ⟨σ1, eσ1, h⟩ := lx_ex h
  rw [← eσ1] at hP
  refine lv_aload_n hx hb de_K_perform_8 rfl (lv_at hl 1 rfl) ?_
  refine lv_dup hx hb de_K_perform_9 rfl ?_
  refine kg_9 (v := .int (gI σ1 8 g1 0)) hx hb ht hown hK hP hg1 10 (by decide) tw_1_81 rfl de_K_perform_10 ?_
  refine lv_iconst (v := 1) hx hb de_K_perform_13 (by decide) ?_
  refine lv_iadd hx hb de_K_perform_14 ?_
  refine kp_9_place hx hb ht hown hK hP hJ hS hg1 tw_1_81 de_K_perform_15 (fun H locs hP hS => ?_)
  obtain ⟨σ2, eσ2, h⟩ := lx_ex h
  rw [← eσ2] at hP
  refine lv_aload_n hx hb de_K_perform_18 rfl (lv_at hl 1 rfl) ?_
  obtain ⟨r3, hr3, h⟩ := bd_some h
  refine kq_i (va_runV (As := []) (rest := []) S (c_P_firstOperand l D aa q hJ σ2 g1 hg1 r3 hr3) (cwV 0 ht (gv_in tw_2_36 tw_2_37 tw_2_38 tw_1_4 tc_P_firstOperand) rfl rfl rfl bh_P_firstOperand ⟨Nat.le_of_ble_eq_true rfl, Nat.le_of_ble_eq_true rfl⟩) (kpreV hK hP (kr_9 hK hP hg1)) rfl rfl hl.1 rfl (lv_room (Nat.le_of_ble_eq_true rfl)) de_K_perform_19 ⟨Nat.zero_le _, Nat.zero_le _⟩) hS (fun H locs hP hS => ?_)
  refine lv_istore_n (lv' := [(2, .int r3), (0, .ref (aa 0 0)), (1, .ref (aa 9 g1))]) hx hb de_K_perform_22 rfl hl (by decide) rfl (fun ls hl => ?_)
  refine lv_aload_n hx hb de_K_perform_23 rfl (lv_at hl 2 rfl) ?_
  refine kg_9 (v := .ref (aa 10 g1)) hx hb ht hown hK hP hg1 1 (by decide) tw_1_63 rfl de_K_perform_24 ?_
  refine lv_aload_n hx hb de_K_perform_27 rfl (lv_at hl 2 rfl) ?_
  refine kg_9 (v := .int (gI σ2 9 g1 0)) hx hb ht hown hK hP hg1 11 (by decide) tw_1_83 rfl de_K_perform_28 ?_
  obtain ⟨hi4, h⟩ := gd_some h
  refine kl_10 hx hb hK hP hg1 (inb_in hi4) de_K_perform_31 ?_
  by_cases hk32_0 : (gI σ2 11 g1 (gI σ2 9 g1 0).toNatClampNeg) = 0
  · have h := ie_t h hk32_0
    refine lv_tableIn (off := 56) (tgt := 88) hx hb de_K_perform_32 (by rw [hk32_0]; decide) (by rw [hk32_0]; decide) (by rw [hk32_0]; rfl) (by decide) ?_
    refine lv_aload_n hx hb de_K_perform_88 rfl (lv_at hl 1 rfl) ?_
    refine lv_aload_n hx hb de_K_perform_89 rfl (lv_at hl 2 rfl) ?_
    refine lv_iconst (v := 2) hx hb de_K_perform_90 (by decide) ?_
    refine lv_iload_n hx hb de_K_perform_91 rfl (lv_at hl 0 rfl) ?_
    obtain ⟨r5, hr5, h⟩ := bd_some h
    refine kq_v (va_runV (As := [.ref (aa 9 g1), .int 2, .int r3]) (rest := []) S (c_K_enter l D aa q hJ σ2 g1 hg1 2 r3 r5 hr5) (cwV 3 ht (gv_in tw_2_12 tw_2_14 ts_K_enter tw_1_1 tc_K_enter) rfl rfl rfl bh_K_enter ⟨Nat.le_of_ble_eq_true rfl, Nat.le_of_ble_eq_true rfl⟩) (kpreV hK hP (kr_0 hK hP (by decide))) rfl rfl hl.1 rfl (lv_room (Nat.le_of_ble_eq_true rfl)) de_K_perform_92 ⟨Nat.zero_le _, Nat.zero_le _⟩) hS (fun H locs hP hS => ?_)
    refine lv_iconst (v := 0) hx hb de_K_perform_95 (by decide) ?_
    have h := Option.some.inj h
    subst h
    exact W.zret (v := 0) hx hb hr rfl (fun t ht hW => ⟨⟨_, _, rfl, ⟨rfl, rfl⟩, by rw [ht]; exact hP, va_K.moved hW.alike hK⟩, hS.F ht⟩) hS.2.2 de_K_perform_96 hlocks
  have h := ie_f h hk32_0
  by_cases hk32_1 : (gI σ2 11 g1 (gI σ2 9 g1 0).toNatClampNeg) = 1
  · have h := ie_t h hk32_1
    refine lv_tableIn (off := 65) (tgt := 97) hx hb de_K_perform_32 (by rw [hk32_1]; decide) (by rw [hk32_1]; decide) (by rw [hk32_1]; rfl) (by decide) ?_
    refine lv_aload_n hx hb de_K_perform_97 rfl (lv_at hl 2 rfl) ?_
    refine lv_iconst (v := 3) hx hb de_K_perform_98 (by decide) ?_
    refine kp_9_state hx hb ht hown hK hP hJ hS hg1 tw_1_79 de_K_perform_99 (fun H locs hP hS => ?_)
    obtain ⟨σ6, eσ6, h⟩ := lx_ex h
    rw [← eσ6] at hP
    refine lv_iconst (v := 0) hx hb de_K_perform_102 (by decide) ?_
    have h := Option.some.inj h
    subst h
    exact W.zret (v := 0) hx hb hr rfl (fun t ht hW => ⟨⟨_, _, rfl, ⟨rfl, rfl⟩, by rw [ht]; exact hP, va_K.moved hW.alike hK⟩, hS.F ht⟩) hS.2.2 de_K_perform_103 hlocks
  have h := ie_f h hk32_1
  by_cases hk32_2 : (gI σ2 11 g1 (gI σ2 9 g1 0).toNatClampNeg) = 2
  · have h := ie_t h hk32_2
    refine lv_tableIn (off := 72) (tgt := 104) hx hb de_K_perform_32 (by rw [hk32_2]; decide) (by rw [hk32_2]; decide) (by rw [hk32_2]; rfl) (by decide) ?_
    refine lv_aload_n hx hb de_K_perform_104 rfl (lv_at hl 1 rfl) ?_
    refine lv_aload_n hx hb de_K_perform_105 rfl (lv_at hl 2 rfl) ?_
    obtain ⟨r7, hr7, h⟩ := bd_some h
    refine kq_i (va_runV (As := [.ref (aa 9 g1)]) (rest := []) S (c_K_seizeFree l D aa q hJ σ2 g1 hg1 r7 hr7) (cwV 1 ht (gv_in tw_2_97 tw_2_99 ts_K_seizeFree tw_1_1 tc_K_seizeFree) rfl rfl rfl bh_K_seizeFree ⟨Nat.le_of_ble_eq_true rfl, Nat.le_of_ble_eq_true rfl⟩) (kpreV hK hP (kr_0 hK hP (by decide))) rfl rfl hl.1 rfl (lv_room (Nat.le_of_ble_eq_true rfl)) de_K_perform_106 ⟨Nat.zero_le _, Nat.zero_le _⟩) hS (fun H locs hP hS => ?_)
    refine lv_if_ne (tgt := 128) hx hb de_K_perform_109 (by decide) (fun hc => ?_) (fun hc => ?_)
    · have h := ie_f h hc
      refine lv_iconst (v := 1) hx hb de_K_perform_128 (by decide) ?_
      refine lv_goto (tgt := 133) hx hb de_K_perform_129 (by decide) ?_
      have h := Option.some.inj h
      subst h
      exact W.zret (v := 1) hx hb hr rfl (fun t ht hW => ⟨⟨_, _, rfl, ⟨rfl, rfl⟩, by rw [ht]; exact hP, va_K.moved hW.alike hK⟩, hS.F ht⟩) hS.2.2 de_K_perform_133 hlocks
    · have h := ie_t h hc
      refine lv_aload_n hx hb de_K_perform_112 rfl (lv_at hl 1 rfl) ?_
      refine lv_aload_n hx hb de_K_perform_113 rfl (lv_at hl 2 rfl) ?_
      obtain ⟨r8, hr8, h⟩ := bd_some h
      refine kq_i (va_runV (As := [.ref (aa 9 g1)]) (rest := []) S (c_K_seizeByForce l D aa q hJ r7.2 g1 hg1 r8 hr8) (cwV 1 ht (gv_in tw_2_105 tw_2_107 ts_K_seizeByForce tw_1_1 tc_K_seizeByForce) rfl rfl rfl bh_K_seizeByForce ⟨Nat.le_of_ble_eq_true rfl, Nat.le_of_ble_eq_true rfl⟩) (kpreV hK hP (kr_0 hK hP (by decide))) rfl rfl hl.1 rfl (lv_room (Nat.le_of_ble_eq_true rfl)) de_K_perform_114 ⟨Nat.zero_le _, Nat.zero_le _⟩) hS (fun H locs hP hS => ?_)
      refine lv_if_ne (tgt := 128) hx hb de_K_perform_117 (by decide) (fun hc => ?_) (fun hc => ?_)
      · have h := ie_f h hc
        refine lv_iconst (v := 1) hx hb de_K_perform_128 (by decide) ?_
        refine lv_goto (tgt := 133) hx hb de_K_perform_129 (by decide) ?_
        have h := Option.some.inj h
        subst h
        exact W.zret (v := 1) hx hb hr rfl (fun t ht hW => ⟨⟨_, _, rfl, ⟨rfl, rfl⟩, by rw [ht]; exact hP, va_K.moved hW.alike hK⟩, hS.F ht⟩) hS.2.2 de_K_perform_133 hlocks
      · have h := ie_t h hc
        refine lv_aload_n hx hb de_K_perform_120 rfl (lv_at hl 1 rfl) ?_
        refine lv_aload_n hx hb de_K_perform_121 rfl (lv_at hl 2 rfl) ?_
        obtain ⟨r9, hr9, h⟩ := bd_some h
        refine kq_i (va_runV (As := [.ref (aa 9 g1)]) (rest := []) S (c_K_standInLine l D aa q hJ r8.2 g1 hg1 r9 hr9) (cwV 1 ht (gv_in tw_2_122 tw_2_124 ts_K_standInLine tw_1_1 tc_K_standInLine) rfl rfl rfl bh_K_standInLine ⟨Nat.le_of_ble_eq_true rfl, Nat.le_of_ble_eq_true rfl⟩) (kpreV hK hP (kr_0 hK hP (by decide))) rfl rfl hl.1 rfl (lv_room (Nat.le_of_ble_eq_true rfl)) de_K_perform_122 ⟨Nat.zero_le _, Nat.zero_le _⟩) hS (fun H locs hP hS => ?_)
        refine lv_if_eq (tgt := 132) hx hb de_K_perform_125 (by decide) (fun hc => ?_) (fun hc => ?_)
        · have h := ie_t h hc
          refine lv_iconst (v := 0) hx hb de_K_perform_132 (by decide) ?_
          have h := Option.some.inj h
          subst h
          exact W.zret (v := 0) hx hb hr rfl (fun t ht hW => ⟨⟨_, _, rfl, ⟨rfl, rfl⟩, by rw [ht]; exact hP, va_K.moved hW.alike hK⟩, hS.F ht⟩) hS.2.2 de_K_perform_133 hlocks
        · have h := ie_f h hc
          refine lv_iconst (v := 1) hx hb de_K_perform_128 (by decide) ?_
          refine lv_goto (tgt := 133) hx hb de_K_perform_129 (by decide) ?_
          have h := Option.some.inj h
          subst h
          exact W.zret (v := 1) hx hb hr rfl (fun t ht hW => ⟨⟨_, _, rfl, ⟨rfl, rfl⟩, by rw [ht]; exact hP, va_K.moved hW.alike hK⟩, hS.F ht⟩) hS.2.2 de_K_perform_133 hlocks
  have h := ie_f h hk32_2
  by_cases hk32_3 : (gI σ2 11 g1 (gI σ2 9 g1 0).toNatClampNeg) = 3
  · have h := ie_t h hk32_3
    refine lv_tableIn (off := 102) (tgt := 134) hx hb de_K_perform_32 (by rw [hk32_3]; decide) (by rw [hk32_3]; decide) (by rw [hk32_3]; rfl) (by decide) ?_
    refine lv_aload_n hx hb de_K_perform_134 rfl (lv_at hl 1 rfl) ?_
    refine lv_aload_n hx hb de_K_perform_135 rfl (lv_at hl 2 rfl) ?_
    refine lv_iload_n hx hb de_K_perform_136 rfl (lv_at hl 0 rfl) ?_
    refine lv_aload_n hx hb de_K_perform_137 rfl (lv_at hl 2 rfl) ?_
    obtain ⟨r10, hr10, h⟩ := bd_some h
    refine kq_i (va_runV (As := []) (rest := [.int r3, .ref (aa 9 g1), .ref (aa 0 0)]) S (c_P_secondOperand l D aa q hJ σ2 g1 hg1 r10 hr10) (cwV 0 ht (gv_in tw_1_236 tw_1_237 tw_1_238 tw_1_4 tc_P_secondOperand) rfl rfl rfl bh_P_secondOperand ⟨Nat.le_of_ble_eq_true rfl, Nat.le_of_ble_eq_true rfl⟩) (kpreV hK hP (kr_9 hK hP hg1)) rfl rfl hl.1 rfl (lv_room (Nat.le_of_ble_eq_true rfl)) de_K_perform_138 ⟨Nat.zero_le _, Nat.zero_le _⟩) hS (fun H locs hP hS => ?_)
    obtain ⟨r11, hr11, h⟩ := bd_some h
    refine kq_v (va_runV (As := [.ref (aa 9 g1), .int r3, .int r10]) (rest := []) S (c_K_giveBack l D aa q hJ σ2 g1 hg1 r3 r10 r11 hr11) (cwV 3 ht (gv_in tw_2_52 tw_2_54 ts_K_giveBack tw_1_1 tc_K_giveBack) rfl rfl rfl bh_K_giveBack ⟨Nat.le_of_ble_eq_true rfl, Nat.le_of_ble_eq_true rfl⟩) (kpreV hK hP (kr_0 hK hP (by decide))) rfl rfl hl.1 rfl (lv_room (Nat.le_of_ble_eq_true rfl)) de_K_perform_141 ⟨Nat.zero_le _, Nat.zero_le _⟩) hS (fun H locs hP hS => ?_)
    refine lv_iconst (v := 1) hx hb de_K_perform_144 (by decide) ?_
    have h := Option.some.inj h
    subst h
    exact W.zret (v := 1) hx hb hr rfl (fun t ht hW => ⟨⟨_, _, rfl, ⟨rfl, rfl⟩, by rw [ht]; exact hP, va_K.moved hW.alike hK⟩, hS.F ht⟩) hS.2.2 de_K_perform_145 hlocks
  have h := ie_f h hk32_3
  by_cases hk32_4 : (gI σ2 11 g1 (gI σ2 9 g1 0).toNatClampNeg) = 4
  · have h := ie_t h hk32_4
    refine lv_tableIn (off := 114) (tgt := 146) hx hb de_K_perform_32 (by rw [hk32_4]; decide) (by rw [hk32_4]; decide) (by rw [hk32_4]; rfl) (by decide) ?_
    refine lv_aload_n hx hb de_K_perform_146 rfl (lv_at hl 1 rfl) ?_
    refine lv_aload_n hx hb de_K_perform_147 rfl (lv_at hl 2 rfl) ?_
    obtain ⟨r12, hr12, h⟩ := bd_some h
    refine kq_i (va_runV (As := [.ref (aa 9 g1)]) (rest := []) S (c_K_meetCondition l D aa q hJ σ2 g1 hg1 r12 hr12) (cwV 1 ht (gv_in tw_2_130 tw_2_132 ts_K_meetCondition tw_1_1 tc_K_meetCondition) rfl rfl rfl bh_K_meetCondition ⟨Nat.le_of_ble_eq_true rfl, Nat.le_of_ble_eq_true rfl⟩) (kpreV hK hP (kr_0 hK hP (by decide))) rfl rfl hl.1 rfl (lv_room (Nat.le_of_ble_eq_true rfl)) de_K_perform_148 ⟨Nat.zero_le _, Nat.zero_le _⟩) hS (fun H locs hP hS => ?_)
    refine lv_if_ne (tgt := 162) hx hb de_K_perform_151 (by decide) (fun hc => ?_) (fun hc => ?_)
    · have h := ie_f h hc
      refine lv_iconst (v := 1) hx hb de_K_perform_162 (by decide) ?_
      refine lv_goto (tgt := 167) hx hb de_K_perform_163 (by decide) ?_
      have h := Option.some.inj h
      subst h
      exact W.zret (v := 1) hx hb hr rfl (fun t ht hW => ⟨⟨_, _, rfl, ⟨rfl, rfl⟩, by rw [ht]; exact hP, va_K.moved hW.alike hK⟩, hS.F ht⟩) hS.2.2 de_K_perform_167 hlocks
    · have h := ie_t h hc
      refine lv_aload_n hx hb de_K_perform_154 rfl (lv_at hl 1 rfl) ?_
      refine lv_aload_n hx hb de_K_perform_155 rfl (lv_at hl 2 rfl) ?_
      obtain ⟨r13, hr13, h⟩ := bd_some h
      refine kq_i (va_runV (As := [.ref (aa 9 g1)]) (rest := []) S (c_K_waitForCondition l D aa q hJ r12.2 g1 hg1 r13 hr13) (cwV 1 ht (gv_in tw_2_142 tw_2_144 ts_K_waitForCondition tw_1_1 tc_K_waitForCondition) rfl rfl rfl bh_K_waitForCondition ⟨Nat.le_of_ble_eq_true rfl, Nat.le_of_ble_eq_true rfl⟩) (kpreV hK hP (kr_0 hK hP (by decide))) rfl rfl hl.1 rfl (lv_room (Nat.le_of_ble_eq_true rfl)) de_K_perform_156 ⟨Nat.zero_le _, Nat.zero_le _⟩) hS (fun H locs hP hS => ?_)
      refine lv_if_eq (tgt := 166) hx hb de_K_perform_159 (by decide) (fun hc => ?_) (fun hc => ?_)
      · have h := ie_t h hc
        refine lv_iconst (v := 0) hx hb de_K_perform_166 (by decide) ?_
        have h := Option.some.inj h
        subst h
        exact W.zret (v := 0) hx hb hr rfl (fun t ht hW => ⟨⟨_, _, rfl, ⟨rfl, rfl⟩, by rw [ht]; exact hP, va_K.moved hW.alike hK⟩, hS.F ht⟩) hS.2.2 de_K_perform_167 hlocks
      · have h := ie_f h hc
        refine lv_iconst (v := 1) hx hb de_K_perform_162 (by decide) ?_
        refine lv_goto (tgt := 167) hx hb de_K_perform_163 (by decide) ?_
        have h := Option.some.inj h
        subst h
        exact W.zret (v := 1) hx hb hr rfl (fun t ht hW => ⟨⟨_, _, rfl, ⟨rfl, rfl⟩, by rw [ht]; exact hP, va_K.moved hW.alike hK⟩, hS.F ht⟩) hS.2.2 de_K_perform_167 hlocks
  have h := ie_f h hk32_4
  by_cases hk32_5 : (gI σ2 11 g1 (gI σ2 9 g1 0).toNatClampNeg) = 5
  · have h := ie_t h hk32_5
    refine lv_tableIn (off := 114) (tgt := 146) hx hb de_K_perform_32 (by rw [hk32_5]; decide) (by rw [hk32_5]; decide) (by rw [hk32_5]; rfl) (by decide) ?_
    refine lv_aload_n hx hb de_K_perform_146 rfl (lv_at hl 1 rfl) ?_
    refine lv_aload_n hx hb de_K_perform_147 rfl (lv_at hl 2 rfl) ?_
    obtain ⟨r14, hr14, h⟩ := bd_some h
    refine kq_i (va_runV (As := [.ref (aa 9 g1)]) (rest := []) S (c_K_meetCondition l D aa q hJ σ2 g1 hg1 r14 hr14) (cwV 1 ht (gv_in tw_2_130 tw_2_132 ts_K_meetCondition tw_1_1 tc_K_meetCondition) rfl rfl rfl bh_K_meetCondition ⟨Nat.le_of_ble_eq_true rfl, Nat.le_of_ble_eq_true rfl⟩) (kpreV hK hP (kr_0 hK hP (by decide))) rfl rfl hl.1 rfl (lv_room (Nat.le_of_ble_eq_true rfl)) de_K_perform_148 ⟨Nat.zero_le _, Nat.zero_le _⟩) hS (fun H locs hP hS => ?_)
    refine lv_if_ne (tgt := 162) hx hb de_K_perform_151 (by decide) (fun hc => ?_) (fun hc => ?_)
    · have h := ie_f h hc
      refine lv_iconst (v := 1) hx hb de_K_perform_162 (by decide) ?_
      refine lv_goto (tgt := 167) hx hb de_K_perform_163 (by decide) ?_
      have h := Option.some.inj h
      subst h
      exact W.zret (v := 1) hx hb hr rfl (fun t ht hW => ⟨⟨_, _, rfl, ⟨rfl, rfl⟩, by rw [ht]; exact hP, va_K.moved hW.alike hK⟩, hS.F ht⟩) hS.2.2 de_K_perform_167 hlocks
    · have h := ie_t h hc
      refine lv_aload_n hx hb de_K_perform_154 rfl (lv_at hl 1 rfl) ?_
      refine lv_aload_n hx hb de_K_perform_155 rfl (lv_at hl 2 rfl) ?_
      obtain ⟨r15, hr15, h⟩ := bd_some h
      refine kq_i (va_runV (As := [.ref (aa 9 g1)]) (rest := []) S (c_K_waitForCondition l D aa q hJ r14.2 g1 hg1 r15 hr15) (cwV 1 ht (gv_in tw_2_142 tw_2_144 ts_K_waitForCondition tw_1_1 tc_K_waitForCondition) rfl rfl rfl bh_K_waitForCondition ⟨Nat.le_of_ble_eq_true rfl, Nat.le_of_ble_eq_true rfl⟩) (kpreV hK hP (kr_0 hK hP (by decide))) rfl rfl hl.1 rfl (lv_room (Nat.le_of_ble_eq_true rfl)) de_K_perform_156 ⟨Nat.zero_le _, Nat.zero_le _⟩) hS (fun H locs hP hS => ?_)
      refine lv_if_eq (tgt := 166) hx hb de_K_perform_159 (by decide) (fun hc => ?_) (fun hc => ?_)
      · have h := ie_t h hc
        refine lv_iconst (v := 0) hx hb de_K_perform_166 (by decide) ?_
        have h := Option.some.inj h
        subst h
        exact W.zret (v := 0) hx hb hr rfl (fun t ht hW => ⟨⟨_, _, rfl, ⟨rfl, rfl⟩, by rw [ht]; exact hP, va_K.moved hW.alike hK⟩, hS.F ht⟩) hS.2.2 de_K_perform_167 hlocks
      · have h := ie_f h hc
        refine lv_iconst (v := 1) hx hb de_K_perform_162 (by decide) ?_
        refine lv_goto (tgt := 167) hx hb de_K_perform_163 (by decide) ?_
        have h := Option.some.inj h
        subst h
        exact W.zret (v := 1) hx hb hr rfl (fun t ht hW => ⟨⟨_, _, rfl, ⟨rfl, rfl⟩, by rw [ht]; exact hP, va_K.moved hW.alike hK⟩, hS.F ht⟩) hS.2.2 de_K_perform_167 hlocks
  have h := ie_f h hk32_5
  by_cases hk32_6 : (gI σ2 11 g1 (gI σ2 9 g1 0).toNatClampNeg) = 6
  · have h := ie_t h hk32_6
    refine lv_tableIn (off := 114) (tgt := 146) hx hb de_K_perform_32 (by rw [hk32_6]; decide) (by rw [hk32_6]; decide) (by rw [hk32_6]; rfl) (by decide) ?_
    refine lv_aload_n hx hb de_K_perform_146 rfl (lv_at hl 1 rfl) ?_
    refine lv_aload_n hx hb de_K_perform_147 rfl (lv_at hl 2 rfl) ?_
    obtain ⟨r16, hr16, h⟩ := bd_some h
    refine kq_i (va_runV (As := [.ref (aa 9 g1)]) (rest := []) S (c_K_meetCondition l D aa q hJ σ2 g1 hg1 r16 hr16) (cwV 1 ht (gv_in tw_2_130 tw_2_132 ts_K_meetCondition tw_1_1 tc_K_meetCondition) rfl rfl rfl bh_K_meetCondition ⟨Nat.le_of_ble_eq_true rfl, Nat.le_of_ble_eq_true rfl⟩) (kpreV hK hP (kr_0 hK hP (by decide))) rfl rfl hl.1 rfl (lv_room (Nat.le_of_ble_eq_true rfl)) de_K_perform_148 ⟨Nat.zero_le _, Nat.zero_le _⟩) hS (fun H locs hP hS => ?_)
    refine lv_if_ne (tgt := 162) hx hb de_K_perform_151 (by decide) (fun hc => ?_) (fun hc => ?_)
    · have h := ie_f h hc
      refine lv_iconst (v := 1) hx hb de_K_perform_162 (by decide) ?_
      refine lv_goto (tgt := 167) hx hb de_K_perform_163 (by decide) ?_
      have h := Option.some.inj h
      subst h
      exact W.zret (v := 1) hx hb hr rfl (fun t ht hW => ⟨⟨_, _, rfl, ⟨rfl, rfl⟩, by rw [ht]; exact hP, va_K.moved hW.alike hK⟩, hS.F ht⟩) hS.2.2 de_K_perform_167 hlocks
    · have h := ie_t h hc
      refine lv_aload_n hx hb de_K_perform_154 rfl (lv_at hl 1 rfl) ?_
      refine lv_aload_n hx hb de_K_perform_155 rfl (lv_at hl 2 rfl) ?_
      obtain ⟨r17, hr17, h⟩ := bd_some h
      refine kq_i (va_runV (As := [.ref (aa 9 g1)]) (rest := []) S (c_K_waitForCondition l D aa q hJ r16.2 g1 hg1 r17 hr17) (cwV 1 ht (gv_in tw_2_142 tw_2_144 ts_K_waitForCondition tw_1_1 tc_K_waitForCondition) rfl rfl rfl bh_K_waitForCondition ⟨Nat.le_of_ble_eq_true rfl, Nat.le_of_ble_eq_true rfl⟩) (kpreV hK hP (kr_0 hK hP (by decide))) rfl rfl hl.1 rfl (lv_room (Nat.le_of_ble_eq_true rfl)) de_K_perform_156 ⟨Nat.zero_le _, Nat.zero_le _⟩) hS (fun H locs hP hS => ?_)
      refine lv_if_eq (tgt := 166) hx hb de_K_perform_159 (by decide) (fun hc => ?_) (fun hc => ?_)
      · have h := ie_t h hc
        refine lv_iconst (v := 0) hx hb de_K_perform_166 (by decide) ?_
        have h := Option.some.inj h
        subst h
        exact W.zret (v := 0) hx hb hr rfl (fun t ht hW => ⟨⟨_, _, rfl, ⟨rfl, rfl⟩, by rw [ht]; exact hP, va_K.moved hW.alike hK⟩, hS.F ht⟩) hS.2.2 de_K_perform_167 hlocks
      · have h := ie_f h hc
        refine lv_iconst (v := 1) hx hb de_K_perform_162 (by decide) ?_
        refine lv_goto (tgt := 167) hx hb de_K_perform_163 (by decide) ?_
        have h := Option.some.inj h
        subst h
        exact W.zret (v := 1) hx hb hr rfl (fun t ht hW => ⟨⟨_, _, rfl, ⟨rfl, rfl⟩, by rw [ht]; exact hP, va_K.moved hW.alike hK⟩, hS.F ht⟩) hS.2.2 de_K_perform_167 hlocks
  have h := ie_f h hk32_6
  by_cases hk32_7 : (gI σ2 11 g1 (gI σ2 9 g1 0).toNatClampNeg) = 7
  · have h := ie_t h hk32_7
    refine lv_tableIn (off := 136) (tgt := 168) hx hb de_K_perform_32 (by rw [hk32_7]; decide) (by rw [hk32_7]; decide) (by rw [hk32_7]; rfl) (by decide) ?_
    refine lv_aload_n hx hb de_K_perform_168 rfl (lv_at hl 1 rfl) ?_
    refine lv_iload_n hx hb de_K_perform_169 rfl (lv_at hl 0 rfl) ?_
    refine lv_iconst (v := 0) hx hb de_K_perform_170 (by decide) ?_
    obtain ⟨r18, hr18, h⟩ := bd_some h
    refine kq_i (va_runV (As := [.int r3, .int 0]) (rest := []) S (c_K_activate l D aa q hJ σ2 r3 0 r18 hr18) (cwV 2 ht (gv_in tw_2_146 tw_2_21 tw_2_22 tw_1_1 tc_K_activate) rfl rfl rfl bh_K_activate ⟨Nat.le_of_ble_eq_true rfl, Nat.le_of_ble_eq_true rfl⟩) (kpreV hK hP (kr_0 hK hP (by decide))) rfl rfl hl.1 rfl (lv_room (Nat.le_of_ble_eq_true rfl)) de_K_perform_171 ⟨Nat.zero_le _, Nat.zero_le _⟩) hS (fun H locs hP hS => ?_)
    refine lv_pop hx hb de_K_perform_174 rfl ?_
    refine lv_iconst (v := 1) hx hb de_K_perform_175 (by decide) ?_
    have h := Option.some.inj h
    subst h
    exact W.zret (v := 1) hx hb hr rfl (fun t ht hW => ⟨⟨_, _, rfl, ⟨rfl, rfl⟩, by rw [ht]; exact hP, va_K.moved hW.alike hK⟩, hS.F ht⟩) hS.2.2 de_K_perform_176 hlocks
  have h := ie_f h hk32_7
  by_cases hk32_8 : (gI σ2 11 g1 (gI σ2 9 g1 0).toNatClampNeg) = 8
  · have h := ie_t h hk32_8
    refine lv_tableIn (off := 145) (tgt := 177) hx hb de_K_perform_32 (by rw [hk32_8]; decide) (by rw [hk32_8]; decide) (by rw [hk32_8]; rfl) (by decide) ?_
    refine lv_aload_n hx hb de_K_perform_177 rfl (lv_at hl 1 rfl) ?_
    refine lv_iload_n hx hb de_K_perform_178 rfl (lv_at hl 0 rfl) ?_
    obtain ⟨r19, hr19, h⟩ := bd_some h
    refine kq_i (va_runV (As := [.int r3]) (rest := []) S (c_K_interrupt l D aa q hJ σ2 r3 r19 hr19) (cwV 1 ht (gv_in tw_2_121 tw_2_25 tw_2_26 tw_1_1 tc_K_interrupt) rfl rfl rfl bh_K_interrupt ⟨Nat.le_of_ble_eq_true rfl, Nat.le_of_ble_eq_true rfl⟩) (kpreV hK hP (kr_0 hK hP (by decide))) rfl rfl hl.1 rfl (lv_room (Nat.le_of_ble_eq_true rfl)) de_K_perform_179 ⟨Nat.zero_le _, Nat.zero_le _⟩) hS (fun H locs hP hS => ?_)
    refine lv_pop hx hb de_K_perform_182 rfl ?_
    refine lv_iconst (v := 1) hx hb de_K_perform_183 (by decide) ?_
    have h := Option.some.inj h
    subst h
    exact W.zret (v := 1) hx hb hr rfl (fun t ht hW => ⟨⟨_, _, rfl, ⟨rfl, rfl⟩, by rw [ht]; exact hP, va_K.moved hW.alike hK⟩, hS.F ht⟩) hS.2.2 de_K_perform_184 hlocks
  have h := ie_f h hk32_8
  by_cases hk32_9 : (gI σ2 11 g1 (gI σ2 9 g1 0).toNatClampNeg) = 9
  · have h := ie_t h hk32_9
    refine lv_tableIn (off := 153) (tgt := 185) hx hb de_K_perform_32 (by rw [hk32_9]; decide) (by rw [hk32_9]; decide) (by rw [hk32_9]; rfl) (by decide) ?_
    refine lv_aload_n hx hb de_K_perform_185 rfl (lv_at hl 1 rfl) ?_
    refine lv_iload_n hx hb de_K_perform_186 rfl (lv_at hl 0 rfl) ?_
    obtain ⟨r20, hr20, h⟩ := bd_some h
    refine kq_i (va_runV (As := [.int r3]) (rest := []) S (c_K_kill l D aa q hJ σ2 r3 r20 hr20) (cwV 1 ht (gv_in tw_2_147 tw_2_45 tw_2_46 tw_1_1 tc_K_kill) rfl rfl rfl bh_K_kill ⟨Nat.le_of_ble_eq_true rfl, Nat.le_of_ble_eq_true rfl⟩) (kpreV hK hP (kr_0 hK hP (by decide))) rfl rfl hl.1 rfl (lv_room (Nat.le_of_ble_eq_true rfl)) de_K_perform_187 ⟨Nat.zero_le _, Nat.zero_le _⟩) hS (fun H locs hP hS => ?_)
    refine lv_pop hx hb de_K_perform_190 rfl ?_
    refine lv_aload_n hx hb de_K_perform_191 rfl (lv_at hl 2 rfl) ?_
    refine kg_9 (v := .int (gI r20.2 7 g1 0)) hx hb ht hown hK hP hg1 9 (by decide) tw_1_79 rfl de_K_perform_192 ?_
    refine lv_bipush (v := 7) hx hb de_K_perform_195 (by decide) ?_
    refine lv_icmp_eq (tgt := 204) hx hb de_K_perform_197 (by decide) (fun hc => ?_) (fun hc => ?_)
    · have h := ie_t h hc
      refine lv_iconst (v := 0) hx hb de_K_perform_204 (by decide) ?_
      have h := Option.some.inj h
      subst h
      exact W.zret (v := 0) hx hb hr rfl (fun t ht hW => ⟨⟨_, _, rfl, ⟨rfl, rfl⟩, by rw [ht]; exact hP, va_K.moved hW.alike hK⟩, hS.F ht⟩) hS.2.2 de_K_perform_205 hlocks
    · have h := ie_f h hc
      refine lv_iconst (v := 1) hx hb de_K_perform_200 (by decide) ?_
      refine lv_goto (tgt := 205) hx hb de_K_perform_201 (by decide) ?_
      have h := Option.some.inj h
      subst h
      exact W.zret (v := 1) hx hb hr rfl (fun t ht hW => ⟨⟨_, _, rfl, ⟨rfl, rfl⟩, by rw [ht]; exact hP, va_K.moved hW.alike hK⟩, hS.F ht⟩) hS.2.2 de_K_perform_205 hlocks
  have h := ie_f h hk32_9
  refine lv_tableOut (tgt := 206) hx hb de_K_perform_32 (by have a0 := lv_neT (a := 0) hk32_0 (by decide); have a1 := lv_neT (a := 1) hk32_1 (by decide); have a2 := lv_neT (a := 2) hk32_2 (by decide); have a3 := lv_neT (a := 3) hk32_3 (by decide); have a4 := lv_neT (a := 4) hk32_4 (by decide); have a5 := lv_neT (a := 5) hk32_5 (by decide); have a6 := lv_neT (a := 6) hk32_6 (by decide); have a7 := lv_neT (a := 7) hk32_7 (by decide); have a8 := lv_neT (a := 8) hk32_8 (by decide); have a9 := lv_neT (a := 9) hk32_9 (by decide); omega) (by decide) ?_
  refine lv_iconst (v := 1) hx hb de_K_perform_206 (by decide) ?_
  have h := Option.some.inj h
  subst h
  exact W.zret (v := 1) hx hb hr rfl (fun t ht hW => ⟨⟨_, _, rfl, ⟨rfl, rfl⟩, by rw [ht]; exact hP, va_K.moved hW.alike hK⟩, hS.F ht⟩) hS.2.2 de_K_perform_207 hlocks
