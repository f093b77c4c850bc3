/-! THE CLAIM OUT OF ONE WALK OF THE LAW'S BODY. Your part is whole_start (and what it stands on); all else here is the same for every law, but numbers. -/
def R_law : String := "BatonKernelLaw"
def lw_P (b : Addr) (xs : List Int32) (args : Array Value) (s : State) : Prop := args = #[.ref b] ∧ s.IntsAt b xs ∧ xs.length ≤ 2560 ∧ (Jvm.Cond.and given_1 narrow_1).before args s = true
def lw_Q (_ : Array Value) (s : State) (o : Outcome) (t : State) : Prop := o = .returned (some (.int 1)) ∧ Framed s o t [] 600000 7302250
def lw_Z (below : List Frame) (a : Array Value) (s : State) : State → Prop := fun t => ∃ o, t.status = .running ∧ Ended t below o ∧ lw_Q a s o t
/-- the law's own end, with 1 on the stack, nothing written that was there before, its room as the claim has it -/
theorem lw_ret {p : Program} {l : Launch} {e : Env} {s : State} {m : MethodId} {below : List Frame} {meth : Method} {c : Code} {b : Nat} (hx : p.tables.exec = Jvm.exec) (hb : c.code = code) (hr : meth.sig.returnType = ret) (hlocks : meth.locks = false) {pc : Nat} {H : Heap} {ls : Array Slot} (hdg : decode code pc = .ok (.ireturn, 1)) : W p l e room_1 s m #[Value.ref b] below meth c H [] 600000 7302250 (lw_Z below #[Value.ref b] s) (F0 m pc ls [.int 1]) := by
  intro T hT X
  obtain ⟨fs, hret, hrun, hended, hW, hframe⟩ := X.leave (v := some (.int 1)) (hlocks := hlocks) (fun h => by rw [hr] at h; cases h)
  have hmeth' : T.vm.method? m = some meth := X.method'
  refine ⟨T.setFrames fs, ?_, .returned (some (.int 1)), hrun, hended, rfl, ⟨_, rfl⟩, hW, hframe⟩
  jvm_step X.here [X.here.top, hx, hb, hdg, hmeth', hr, ret, narrow_b1]
  (try refine ⟨rfl, ?_⟩); (try refine ⟨rfl, ?_⟩)
  first | (intro acts; rw [hret _ acts rfl rfl rfl]) | rw [hret _ _ rfl rfl rfl]
  exact Steps.refl _
/-- what holds at the law's entry: the machine, the code, the tables' words (any of lw_tbl by 'hts w (by decide +kernel)'), the script of L ints xs at the cell b, what the Statement gives of the start (any of its parts by flat_of_before) -/
def lw_At (p : Program) (s : State) (m : MethodId) (meth : Method) (c : Code) (b L : Nat) (xs : Nat → Int32) : Prop :=
  p.tables.exec = Jvm.exec ∧ c.code = code ∧ meth.sig.returnType = ret ∧ c.maxLocals = 4 ∧ s.vm.findClass R_law = some m.cls ∧ (∀ w ∈ lw_tbl, w.before #[Value.ref b] s = true) ∧ va_X b L xs s s.heap ∧ b < s.heap.size ∧ meth.locks = false ∧ (Jvm.Cond.and given_1 narrow_1).before #[Value.ref b] s = true
set_option maxHeartbeats 8000000 in
set_option maxRecDepth 100000 in
theorem whole_start {p : Program} {e : Env} {s : State} {m : MethodId} {below : List Frame} {meth : Method} {c : Code} (l : Launch) {b L : Nat} {xs : Nat → Int32} (hL : L ≤ 2560) (C0 : lw_At p s m meth c b L xs) : W p l e room_1 s m #[Value.ref b] below meth c s.heap [] 0 0 (lw_Z below #[Value.ref b] s) (entryFrame m ([Value.ref b] : List Value).toArray 4) := by
  obtain ⟨hx, hb, hr, hml, hown, hts, hX, hbl, hlocks, hgv⟩ := C0
  have hb : c.code = bc_W_law := hb
  have hown : s.vm.findClass bR_W = some m.cls := hown
  have ht : ∀ w ∈ lw_g, w.before #[Value.ref b] s = true := fun w h => hts w (lw_gt h)
  have S : CallFix p m c bc_W_law 4 s #[Value.ref b] lw_g bR_W := ⟨hx, hb, hml, hown, ht⟩
  obtain ⟨dK, iK, hnK⟩ := u_known (C := bR_K) (T := bT_K) (N := 9) (n := 9) ht bin_K (ht _ tw_1_10)
  obtain ⟨dP, iP, hnP⟩ := u_known (C := bR_P) (T := bT_P) (N := 16) (n := 16) ht bin_P (ht _ tw_1_55)
  obtain ⟨dL, iL, hnL⟩ := u_known (C := bR_L) (T := bT_L) (N := 2) (n := 2) ht bin_L (ht _ tw_1_24)
  obtain ⟨dE, iE, hnE⟩ := u_known (C := bR_E) (T := bT_E) (N := 6) (n := 6) ht bin_E (ht _ tw_1_125)
  obtain ⟨dT, iT, hnT⟩ := u_known (C := bR_T) (T := bT_T) (N := 2) (n := 2) ht bin_T (ht _ tw_1_157)
  obtain ⟨dC, iC, hnC⟩ := u_known (C := bR_C) (T := bT_C) (N := 3) (n := 3) ht bin_C (ht _ tw_1_40)
  obtain ⟨dM, iM, hnM⟩ := u_known (C := bR_M) (T := bT_M) (N := 27) (n := 27) ht bin_M (ht _ tw_2_210)
  let D1 : va_G := (fun k => match k with | 0 => dK | 1 => dP | 2 => dL | 3 => dE | 4 => dT | _ => dC, fun k => match k with | 0 => iK | 1 => iP | 2 => iL | 3 => iE | 4 => iT | _ => iC)
  let D2 : va_G := (fun _ => dM, fun _ => iM)
  have hK1 : va_K D1 kCl [] s := by
    refine ⟨fun c9 q9 h9 => ?_, fun k q h9 => by cases h9⟩
    match c9, h9 with
    | 0, h9 => cases h9; exact hnK
    | 1, h9 => cases h9; exact hnP
    | 2, h9 => cases h9; exact hnL
    | 3, h9 => cases h9; exact hnE
    | 4, h9 => cases h9; exact hnT
    | 5, h9 => cases h9; exact hnC
    | n + 6, h9 => cases h9
  have hK2 : va_K D2 mCl [] s := by
    refine ⟨fun c9 q9 h9 => ?_, fun k q h9 => by cases h9⟩
    match c9, h9 with
    | 0, h9 => cases h9; exact hnM
    | n + 1, h9 => cases h9
  have hA : ∀ q, s.heap.size ≤ q → (fun x => s.heap.size ≤ x) q := fun q h => h
  have hS : va_S (fun x => s.heap.size ≤ x) s.heap s.heap [] := va_S.rf
  have hP0 : va_P D1 kCl [] s.heap := fun k q h => by cases h
  have hD0 : va_D (fun x => s.heap.size ≤ x) ([] : va_W) := ⟨fun i j p q h => (by cases h), fun k q h => (by cases h)⟩
  have hO1 : va_AO bR_P s := va_AO.of (hts _ tn_1_18)
  have hO2 : va_AO bR_E s := va_AO.of (hts _ tn_1_20)
  have hO3 : va_AO bR_T s := va_AO.of (hts _ tn_1_22)
  have hN1 : va_Nw (.methodLinkNest bR_K 29 by_L_init bR_K) s := va_Nw.of rfl (hts _ tn_1_25)
  have hN2 : va_Nw (.methodLinkNest bR_K 36 by_C_init bR_K) s := va_Nw.of rfl (hts _ tn_1_41)
  have hN3 : va_Nw (.methodLinkNest bR_K 59 by_E_init bR_K) s := va_Nw.of rfl (hts _ tn_1_126)
  have hN4 : va_Nw (.methodLinkNest bR_K 60 by_T_init bR_K) s := va_Nw.of rfl (hts _ tn_1_158)
  have hN5 : va_Nw (.methodLinkNest bR_E 9 by_L_init bR_K) s := va_Nw.of rfl (hts _ tn_1_131)
  have hl := lv_entry ([.ref b]) (n := 4) (Nat.le_of_ble_eq_true rfl)
  rw [lg_entry_eq]
  generalize (lg_sl ([.ref b]) ++ List.replicate (4 - (lg_sl ([.ref b])).length) Slot.unset).toArray = ls at hl ⊢
  have hl : lv_has ls 4 [(0, .ref b)] := hl
  refine va_new (ci := 0) (fs := [.null, .null, .null, .null, .null, .null, .int 0, .long 0, .long 0]) (C := bR_K) (T := bT_K) (N := 9) hx hb ht bin_K bty_K bo_K hown (ht _ tw_1_9) (ht _ tw_1_10) (ht _ tw_1_1) hK1 hP0 hD0 hS hA rfl (by decide) (Nat.le_of_ble_eq_true rfl) (Nat.le_of_ble_eq_true rfl) de_W_law_0 (fun h1 H hP hD hS => ?_)
  refine lv_dup hx hb de_W_law_3 rfl ?_
  refine va_callv (va_runI (As := []) (rest := [.ref h1]) S (c_K_init l D1 (fun x => s.heap.size ≤ x) h1) (cwI 0 ht (gi_in tc_K_init) rfl rfl rfl (ht _ tw_1_1) (ht _ tw_1_11) (ht _ tw_1_12) rfl bh_K_init.2 ⟨(Nat.le_of_ble_eq_true rfl), (Nat.le_of_ble_eq_true rfl)⟩) ⟨fun a U g mk h => ⟨h.1, h.2.1, h.2.2.1, va_K.moved (u := U) (U := U.calling g mk a) (Vm.Alike.refl U.vm) h.2.2.2.1, h.2.2.2.2.1, va_AO.moved (u := U) (U := U.calling g mk a) (Vm.Alike.refl U.vm) h.2.2.2.2.2.1, va_AO.moved (u := U) (U := U.calling g mk a) (Vm.Alike.refl U.vm) h.2.2.2.2.2.2.1, va_AO.moved (u := U) (U := U.calling g mk a) (Vm.Alike.refl U.vm) h.2.2.2.2.2.2.2.1, va_Nw.same rfl rfl h.2.2.2.2.2.2.2.2.1, va_Nw.same rfl rfl h.2.2.2.2.2.2.2.2.2.1, va_Nw.same rfl rfl h.2.2.2.2.2.2.2.2.2.2.1, va_Nw.same rfl rfl h.2.2.2.2.2.2.2.2.2.2.2.1, va_Nw.same rfl rfl h.2.2.2.2.2.2.2.2.2.2.2.2⟩, fun U hU hW => ⟨rfl, fun q h => Nat.le_trans hS.1 (by rw [← hU]; exact h), by rw [hU]; exact hP, va_K.moved hW.alike hK1, hD, va_AO.moved hW.alike hO1, va_AO.moved hW.alike hO2, va_AO.moved hW.alike hO3, va_Nw.warmM hW hN1, va_Nw.warmM hW hN2, va_Nw.warmM hW hN3, va_Nw.warmM hW hN4, va_Nw.warmM hW hN5⟩⟩ rfl rfl hl.1 rfl (lv_room (Nat.le_of_ble_eq_true rfl)) de_W_law_4 ⟨(Nat.le_of_ble_eq_true rfl), (Nat.le_of_ble_eq_true rfl)⟩) hS (fun _ _ h => h) (fun _ h => h) (fun u t Hk locs hth hvm hpost hB _ _ hS => ?_)
  obtain ⟨aa, q1⟩ := u
  obtain ⟨ha0, hJ1⟩ := hpost
  obtain ⟨hP1, hK1, hw1⟩ := hB
  rw [hth] at hP1
  have hK1 := va_K.moved hvm.symm hK1
  have ha0 : aa 0 0 = h1 := ha0
  have hPk := hP1
  have hSk := hS.1
  refine va_forget (fun q hq => hS.2.2 q hq) ?_
  refine lv_astore_n (lv' := [(1, .ref h1), (0, .ref b)]) hx hb de_W_law_7 rfl hl (by decide) rfl (fun ls hl => ?_)
  have hS2 : va_S (fun x => Hk.size ≤ x) Hk Hk [] := va_S.rf
  have hA2 : ∀ q, Hk.size ≤ q → (fun x => Hk.size ≤ x) q := fun q h => h
  have hP0 : va_P D2 mCl [] Hk := fun k q h => by cases h
  have hD0 : va_D (fun x => Hk.size ≤ x) ([] : va_W) := ⟨fun i j p q h => (by cases h), fun k q h => (by cases h)⟩
  refine va_new (ci := 0) (fs := [.int 0, .int 0, .int 0, .int 0, .long 0, .null, .null, .null, .null, .null, .null, .null, .null, .null, .null, .null, .null, .null, .null, .null, .null, .null, .null, .null, .null, .null, .null]) (C := bR_M) (T := bT_M) (N := 27) hx hb ht bin_M bty_M bo_M hown (ht _ tw_2_209) (ht _ tw_2_210) (ht _ tw_1_7) hK2 hP0 hD0 hS2 hA2 rfl (by decide) (Nat.le_of_ble_eq_true rfl) (Nat.le_of_ble_eq_true rfl) de_W_law_8 (fun h2 H2 hP hD hS3 => ?_)
  refine lv_dup hx hb de_W_law_11 rfl ?_
  refine va_callv (va_runI (As := []) (rest := [.ref h2]) S (c_M_init l D2 (fun x => Hk.size ≤ x) h2) (cwI 0 ht (gi_in tc_M_init) rfl rfl rfl (ht _ tw_1_7) (ht _ tw_2_211) (ht _ tw_2_212) rfl bh_M_init.2 ⟨(Nat.le_of_ble_eq_true rfl), (Nat.le_of_ble_eq_true rfl)⟩) ⟨fun a U g mk h => ⟨h.1, h.2.1, h.2.2.1, va_K.moved (u := U) (U := U.calling g mk a) (Vm.Alike.refl U.vm) h.2.2.2.1, h.2.2.2.2⟩, fun U hU hW => ⟨rfl, fun q h => Nat.le_trans hS3.1 (by rw [← hU]; exact h), by rw [hU]; exact hP, va_K.moved hW.alike hK2, hD⟩⟩ rfl rfl hl.1 rfl (lv_room (Nat.le_of_ble_eq_true rfl)) de_W_law_12 ⟨(Nat.le_of_ble_eq_true rfl), (Nat.le_of_ble_eq_true rfl)⟩) hS3 (fun _ _ h => h) (fun _ h => h) (fun u t H3 locs3 hth hvm hpost hB _ _ hS4 => ?_)
  obtain ⟨bb, q2⟩ := u
  obtain ⟨hb0, hJ2⟩ := hpost
  obtain ⟨hP2, hK2, hw2⟩ := hB
  rw [hth] at hP2
  have hK2 := va_K.moved hvm.symm hK2
  have hb0 : bb 0 0 = h2 := hb0
  have hw2 : ∀ a, wA mC bb a → Hk.size ≤ a := hw2
  have hP1 : va_P D1 kCl (kW aa q1 kS0) H3 := hP1.kept (fun i x hi => hS4.2.1 x.1 (hP1 i x hi).lt (Nat.not_le.mpr (hP1 i x hi).lt))
  have hS : va_S (fun x => s.heap.size ≤ x) s.heap H3 [] := ⟨Nat.le_trans hS.1 hS4.1, fun q z1 z2 => (hS4.2.1 q (Nat.lt_of_lt_of_le z1 hS.1) (Nat.not_le.mpr (Nat.lt_of_lt_of_le z1 hS.1))).trans (hS.2.1 q z1 z2), fun q hq => by cases hq⟩
  have hsz : s.heap.size ≤ Hk.size := hSk
  refine va_forget (fun q hq => Nat.le_trans hsz (hS4.2.2 q hq)) ?_
  refine lv_astore_n (lv' := [(2, .ref h2), (1, .ref h1), (0, .ref b)]) hx hb de_W_law_15 rfl hl (by decide) rfl (fun ls hl => ?_)
  refine lv_iconst (v := 0) hx hb de_W_law_16 (by decide) ?_
  refine lv_istore_n (lv' := [(3, .int 0), (2, .ref h2), (1, .ref h1), (0, .ref b)]) hx hb de_W_law_17 rfl hl (by decide) rfl (fun ls hl => ?_)
  have hl : lv_has ls 4 [(3, .int (nI (5 * 0))), (2, .ref (bb 0 0)), (1, .ref (aa 0 0)), (0, .ref b)] := by rw [ha0, hb0, Nat.mul_zero, nI_0]; exact hl
  have hdj : ∀ x, wA mC bb x → ¬ wA kC aa x := by
    intro x z1 ⟨k, f, n, z2, z3⟩
    have z4 := hw2 x z1
    have z5 : aa f n < Hk.size := (hPk k _ (wmap_at z2)).lt
    rw [← z3] at z5
    omega
  refine W.widen (k := 108) (n := 1465) (Nat.le_of_ble_eq_true rfl) (Nat.le_of_ble_eq_true rfl) ?_
  refine w_law_18 S hX hbl hL hJ1 hJ2 hw1 (fun x z => Nat.le_trans hsz (hw2 x z)) hdj hK1 hK2 (fun H locs ls hS => ?_) 512 0 0 0 0 0 (fun _ => []) kS0 mS0 H3 [] ls rfl rel_0 (by omega) (by omega) (by omega) hl hP1 hP2 hS
  refine va_forget (fun q hq => hS.2.2 q hq) ?_
  refine lv_iconst (v := 1) hx hb de_W_law_734 (by decide) ?_
  refine W.widen (k := 600000) (n := 7302250) (by decide) (by decide) ?_
  exact lw_ret hx hb hr hlocks de_W_law_735
