theorem lw_in1 {w : Cond} (h : w ∈ tables_1_1) : w ∈ lw_tbl := List.mem_append_right _ (List.mem_append_left _ h)
theorem lw_in2 {w : Cond} (h : w ∈ tables_1_2) : w ∈ lw_tbl := List.mem_append_right _ (List.mem_append_right _ (List.mem_append_left _ h))
theorem lw_in3 {w : Cond} (h : w ∈ tables_1_3) : w ∈ lw_tbl := List.mem_append_right _ (List.mem_append_right _ (List.mem_append_right _ h))
theorem lw_sel {q : MethodName × Nat} (h : q ∈ lw_privs) : Cond.selects q.1.cls q.1 q.1 ∈ lw_tbl := List.mem_append_left _ (List.mem_map.mpr ⟨q, h, rfl⟩)
def lw_g : List Cond := lw_tbl.filter goodWord
theorem lw_gd {w : Cond} (h : w ∈ lw_tbl) (hg : goodWord w = true) : w ∈ lw_g := List.mem_filter.mpr ⟨h, hg⟩
theorem lw_gt {w : Cond} (h : w ∈ lw_g) : w ∈ lw_tbl := (List.mem_filter.mp h).1
theorem lw_good : ∀ w ∈ lw_g, goodWord w = true := fun w h => (List.mem_filter.mp h).2
theorem gi_in {y : MethodName} {bs : ByteArray} {n : Nat} {ret : Option FieldType} (h : Cond.code y bs n ret ∈ lw_g) : GoodIn lw_g (.code y bs n ret :: lw_g) := fun w hw => (List.mem_cons.mp hw).elim (fun e => ⟨e ▸ h, good_of_word (lw_good w (e ▸ h))⟩) (fun h9 => ⟨h9, good_of_word (lw_good w h9)⟩)
theorem gv_in {own C : String} {idx : Nat} {y : MethodName} {bs : ByteArray} {n : Nat} {ret : Option FieldType} (h1 : Cond.methodLink own idx y ∈ lw_g) (h2 : Cond.instanceMethod y ∈ lw_g) (h3 : Cond.selects C y y ∈ lw_g) (h4 : Cond.initialized C ∈ lw_g) (h5 : Cond.code y bs n ret ∈ lw_g) : GoodIn lw_g (wsV own idx C y (.code y bs n ret :: lw_g)) := by
  intro w hw
  rcases List.mem_append.mp hw with h | h
  · have hm : w ∈ lw_g := by
      simp only [List.mem_cons, List.not_mem_nil, or_false] at h
      rcases h with rfl | rfl | rfl | rfl
      · exact h1
      · exact h2
      · exact h3
      · exact h4
    exact ⟨hm, good_of_word (lw_good w hm)⟩
  · exact gi_in h5 w h
theorem gs_in {own : String} {idx : Nat} {y : MethodName} {bs : ByteArray} {n : Nat} {ret : Option FieldType} (h1 : Cond.methodLink own idx y ∈ lw_g) (h2 : Cond.static y ∈ lw_g) (h3 : Cond.initialized own ∈ lw_g) (h5 : Cond.code y bs n ret ∈ lw_g) : GoodIn lw_g (wsS own idx y (.code y bs n ret :: lw_g)) := by
  intro w hw
  rcases List.mem_append.mp hw with h | h
  · have hm : w ∈ lw_g := by
      simp only [List.mem_cons, List.not_mem_nil, or_false] at h
      rcases h with rfl | rfl | rfl
      · exact h1
      · exact h2
      · exact h3
    exact ⟨hm, good_of_word (lw_good w hm)⟩
  · exact gi_in h5 w h
theorem tn_1_18 : (Jvm.Cond.arrayOver (Jvm.ClassFile.FieldType.object "BatonKernel$Proc")) ∈ lw_tbl := lw_in1 (List.mem_of_getElem? (i := 18) (by decide +kernel))
theorem tn_1_20 : (Jvm.Cond.arrayOver (Jvm.ClassFile.FieldType.object "BatonKernel$Resource")) ∈ lw_tbl := lw_in1 (List.mem_of_getElem? (i := 20) (by decide +kernel))
theorem tn_1_22 : (Jvm.Cond.arrayOver (Jvm.ClassFile.FieldType.object "BatonKernel$Tank")) ∈ lw_tbl := lw_in1 (List.mem_of_getElem? (i := 22) (by decide +kernel))
theorem tn_1_25 : (Jvm.Cond.methodLinkNest "BatonKernel" (29 : Nat) ({ cls := "BatonKernel$Line", name := "<init>", desc := "()V" } : Jvm.MethodName) "BatonKernel") ∈ lw_tbl := lw_in1 (List.mem_of_getElem? (i := 25) (by decide +kernel))
theorem tn_1_41 : (Jvm.Cond.methodLinkNest "BatonKernel" (36 : Nat) ({ cls := "BatonKernel$Trace", name := "<init>", desc := "()V" } : Jvm.MethodName) "BatonKernel") ∈ lw_tbl := lw_in1 (List.mem_of_getElem? (i := 41) (by decide +kernel))
theorem tn_1_126 : (Jvm.Cond.methodLinkNest "BatonKernel" (59 : Nat) ({ cls := "BatonKernel$Resource", name := "<init>", desc := "()V" } : Jvm.MethodName) "BatonKernel") ∈ lw_tbl := lw_in1 (List.mem_of_getElem? (i := 126) (by decide +kernel))
theorem tn_1_131 : (Jvm.Cond.methodLinkNest "BatonKernel$Resource" (9 : Nat) ({ cls := "BatonKernel$Line", name := "<init>", desc := "()V" } : Jvm.MethodName) "BatonKernel") ∈ lw_tbl := lw_in1 (List.mem_of_getElem? (i := 131) (by decide +kernel))
theorem tn_1_158 : (Jvm.Cond.methodLinkNest "BatonKernel" (60 : Nat) ({ cls := "BatonKernel$Tank", name := "<init>", desc := "()V" } : Jvm.MethodName) "BatonKernel") ∈ lw_tbl := lw_in1 (List.mem_of_getElem? (i := 158) (by decide +kernel))
theorem tw_1_0 : (Jvm.Cond.initialized "BatonKernelLaw") ∈ lw_g := lw_gd (lw_in1 (List.mem_of_getElem? (i := 0) (by decide +kernel))) rfl
theorem tw_1_1 : (Jvm.Cond.initialized "BatonKernel") ∈ lw_g := lw_gd (lw_in1 (List.mem_of_getElem? (i := 1) (by decide +kernel))) rfl
theorem tw_1_2 : (Jvm.Cond.initialized "BatonKernel$Line") ∈ lw_g := lw_gd (lw_in1 (List.mem_of_getElem? (i := 2) (by decide +kernel))) rfl
theorem tw_1_3 : (Jvm.Cond.initialized "BatonKernel$Trace") ∈ lw_g := lw_gd (lw_in1 (List.mem_of_getElem? (i := 3) (by decide +kernel))) rfl
theorem tw_1_4 : (Jvm.Cond.initialized "BatonKernel$Proc") ∈ lw_g := lw_gd (lw_in1 (List.mem_of_getElem? (i := 4) (by decide +kernel))) rfl
theorem tw_1_5 : (Jvm.Cond.initialized "BatonKernel$Resource") ∈ lw_g := lw_gd (lw_in1 (List.mem_of_getElem? (i := 5) (by decide +kernel))) rfl
theorem tw_1_6 : (Jvm.Cond.initialized "BatonKernel$Tank") ∈ lw_g := lw_gd (lw_in1 (List.mem_of_getElem? (i := 6) (by decide +kernel))) rfl
theorem tw_1_7 : (Jvm.Cond.initialized "BatonKernelModel") ∈ lw_g := lw_gd (lw_in1 (List.mem_of_getElem? (i := 7) (by decide +kernel))) rfl
theorem tw_1_8 : (Jvm.Cond.initialized "java/lang/Math") ∈ lw_g := lw_gd (lw_in1 (List.mem_of_getElem? (i := 8) (by decide +kernel))) rfl
theorem tw_1_9 : (Jvm.Cond.classLink "BatonKernelLaw" (7 : Nat) "BatonKernel") ∈ lw_g := lw_gd (lw_in1 (List.mem_of_getElem? (i := 9) (by decide +kernel))) rfl
theorem tw_1_10 : (Jvm.Cond.instantiable "BatonKernel" (9 : Nat)) ∈ lw_g := lw_gd (lw_in1 (List.mem_of_getElem? (i := 10) (by decide +kernel))) rfl
theorem tw_1_11 : (Jvm.Cond.methodLink "BatonKernelLaw" (9 : Nat) ({ cls := "BatonKernel", name := "<init>", desc := "()V" } : Jvm.MethodName)) ∈ lw_g := lw_gd (lw_in1 (List.mem_of_getElem? (i := 11) (by decide +kernel))) rfl
theorem tw_1_12 : (Jvm.Cond.instanceMethod ({ cls := "BatonKernel", name := "<init>", desc := "()V" } : Jvm.MethodName)) ∈ lw_g := lw_gd (lw_in1 (List.mem_of_getElem? (i := 12) (by decide +kernel))) rfl
theorem tw_1_14 : (Jvm.Cond.methodLink "BatonKernel" (3 : Nat) ({ cls := "java/lang/Object", name := "<init>", desc := "()V" } : Jvm.MethodName)) ∈ lw_g := lw_gd (lw_in1 (List.mem_of_getElem? (i := 14) (by decide +kernel))) rfl
theorem tw_1_15 : (Jvm.Cond.instanceMethod ({ cls := "java/lang/Object", name := "<init>", desc := "()V" } : Jvm.MethodName)) ∈ lw_g := lw_gd (lw_in1 (List.mem_of_getElem? (i := 15) (by decide +kernel))) rfl
theorem tw_1_17 : (Jvm.Cond.classLink "BatonKernel" (9 : Nat) "BatonKernel$Proc") ∈ lw_g := lw_gd (lw_in1 (List.mem_of_getElem? (i := 17) (by decide +kernel))) rfl
theorem tw_1_19 : (Jvm.Cond.classLink "BatonKernel" (15 : Nat) "BatonKernel$Resource") ∈ lw_g := lw_gd (lw_in1 (List.mem_of_getElem? (i := 19) (by decide +kernel))) rfl
theorem tw_1_21 : (Jvm.Cond.classLink "BatonKernel" (21 : Nat) "BatonKernel$Tank") ∈ lw_g := lw_gd (lw_in1 (List.mem_of_getElem? (i := 21) (by decide +kernel))) rfl
theorem tw_1_23 : (Jvm.Cond.classLink "BatonKernel" (27 : Nat) "BatonKernel$Line") ∈ lw_g := lw_gd (lw_in1 (List.mem_of_getElem? (i := 23) (by decide +kernel))) rfl
theorem tw_1_24 : (Jvm.Cond.instantiable "BatonKernel$Line" (2 : Nat)) ∈ lw_g := lw_gd (lw_in1 (List.mem_of_getElem? (i := 24) (by decide +kernel))) rfl
theorem tw_1_26 : (Jvm.Cond.instanceMethod ({ cls := "BatonKernel$Line", name := "<init>", desc := "()V" } : Jvm.MethodName)) ∈ lw_g := lw_gd (lw_in1 (List.mem_of_getElem? (i := 26) (by decide +kernel))) rfl
theorem tw_1_28 : (Jvm.Cond.methodLink "BatonKernel$Line" (3 : Nat) ({ cls := "java/lang/Object", name := "<init>", desc := "()V" } : Jvm.MethodName)) ∈ lw_g := lw_gd (lw_in1 (List.mem_of_getElem? (i := 28) (by decide +kernel))) rfl
theorem tw_1_29 : (Jvm.Cond.fieldLink "BatonKernel$Line" (9 : Nat) "BatonKernel$Line" "members" "[I") ∈ lw_g := lw_gd (lw_in1 (List.mem_of_getElem? (i := 29) (by decide +kernel))) rfl
theorem tw_1_30 : (Jvm.Cond.fieldLink "BatonKernel" (251 : Nat) "BatonKernel$Line" "members" "[I") ∈ lw_g := lw_gd (lw_in1 (List.mem_of_getElem? (i := 30) (by decide +kernel))) rfl
theorem tw_1_31 : (Jvm.Cond.fieldLink "BatonKernel$Line" (15 : Nat) "BatonKernel$Line" "size" "I") ∈ lw_g := lw_gd (lw_in1 (List.mem_of_getElem? (i := 31) (by decide +kernel))) rfl
theorem tw_1_32 : (Jvm.Cond.fieldLink "BatonKernel" (182 : Nat) "BatonKernel$Line" "size" "I") ∈ lw_g := lw_gd (lw_in1 (List.mem_of_getElem? (i := 32) (by decide +kernel))) rfl
theorem tw_1_33 : (Jvm.Cond.laysFinal "BatonKernel$Line" "BatonKernel$Line" "members" "[I") ∈ lw_g := lw_gd (lw_in1 (List.mem_of_getElem? (i := 33) (by decide +kernel))) rfl
theorem tw_1_35 : (Jvm.Cond.lays "BatonKernel$Line" "BatonKernel$Line" "size" "I") ∈ lw_g := lw_gd (lw_in1 (List.mem_of_getElem? (i := 35) (by decide +kernel))) rfl
theorem tw_1_38 : (Jvm.Cond.arrayClass Jvm.ClassFile.FieldType.int) ∈ lw_g := lw_gd (lw_in1 (List.mem_of_getElem? (i := 38) (by decide +kernel))) rfl
theorem tw_1_39 : (Jvm.Cond.classLink "BatonKernel" (34 : Nat) "BatonKernel$Trace") ∈ lw_g := lw_gd (lw_in1 (List.mem_of_getElem? (i := 39) (by decide +kernel))) rfl
theorem tw_1_40 : (Jvm.Cond.instantiable "BatonKernel$Trace" (3 : Nat)) ∈ lw_g := lw_gd (lw_in1 (List.mem_of_getElem? (i := 40) (by decide +kernel))) rfl
theorem tw_1_42 : (Jvm.Cond.instanceMethod ({ cls := "BatonKernel$Trace", name := "<init>", desc := "()V" } : Jvm.MethodName)) ∈ lw_g := lw_gd (lw_in1 (List.mem_of_getElem? (i := 42) (by decide +kernel))) rfl
theorem tw_1_44 : (Jvm.Cond.methodLink "BatonKernel$Trace" (3 : Nat) ({ cls := "java/lang/Object", name := "<init>", desc := "()V" } : Jvm.MethodName)) ∈ lw_g := lw_gd (lw_in1 (List.mem_of_getElem? (i := 44) (by decide +kernel))) rfl
theorem tw_1_45 : (Jvm.Cond.fieldLink "BatonKernel$Trace" (9 : Nat) "BatonKernel$Trace" "rows" "[I") ∈ lw_g := lw_gd (lw_in1 (List.mem_of_getElem? (i := 45) (by decide +kernel))) rfl
theorem tw_1_46 : (Jvm.Cond.fieldLink "BatonKernel$Trace" (15 : Nat) "BatonKernel$Trace" "latest" "I") ∈ lw_g := lw_gd (lw_in1 (List.mem_of_getElem? (i := 46) (by decide +kernel))) rfl
theorem tw_1_47 : (Jvm.Cond.fieldLink "BatonKernel$Trace" (19 : Nat) "BatonKernel$Trace" "size" "I") ∈ lw_g := lw_gd (lw_in1 (List.mem_of_getElem? (i := 47) (by decide +kernel))) rfl
theorem tw_1_48 : (Jvm.Cond.laysFinal "BatonKernel$Trace" "BatonKernel$Trace" "rows" "[I") ∈ lw_g := lw_gd (lw_in1 (List.mem_of_getElem? (i := 48) (by decide +kernel))) rfl
theorem tw_1_50 : (Jvm.Cond.lays "BatonKernel$Trace" "BatonKernel$Trace" "latest" "I") ∈ lw_g := lw_gd (lw_in1 (List.mem_of_getElem? (i := 50) (by decide +kernel))) rfl
theorem tw_1_52 : (Jvm.Cond.lays "BatonKernel$Trace" "BatonKernel$Trace" "size" "I") ∈ lw_g := lw_gd (lw_in1 (List.mem_of_getElem? (i := 52) (by decide +kernel))) rfl
theorem tw_1_55 : (Jvm.Cond.instantiable "BatonKernel$Proc" (16 : Nat)) ∈ lw_g := lw_gd (lw_in1 (List.mem_of_getElem? (i := 55) (by decide +kernel))) rfl
theorem tw_1_56 : (Jvm.Cond.methodLink "BatonKernel" (56 : Nat) ({ cls := "BatonKernel$Proc", name := "<init>", desc := "(I)V" } : Jvm.MethodName)) ∈ lw_g := lw_gd (lw_in1 (List.mem_of_getElem? (i := 56) (by decide +kernel))) rfl
theorem tw_1_57 : (Jvm.Cond.instanceMethod ({ cls := "BatonKernel$Proc", name := "<init>", desc := "(I)V" } : Jvm.MethodName)) ∈ lw_g := lw_gd (lw_in1 (List.mem_of_getElem? (i := 57) (by decide +kernel))) rfl
theorem tw_1_59 : (Jvm.Cond.methodLink "BatonKernel$Proc" (3 : Nat) ({ cls := "java/lang/Object", name := "<init>", desc := "()V" } : Jvm.MethodName)) ∈ lw_g := lw_gd (lw_in1 (List.mem_of_getElem? (i := 59) (by decide +kernel))) rfl
theorem tw_1_60 : (Jvm.Cond.fieldLink "BatonKernel$Proc" (60 : Nat) "BatonKernel$Proc" "number" "I") ∈ lw_g := lw_gd (lw_in1 (List.mem_of_getElem? (i := 60) (by decide +kernel))) rfl
theorem tw_1_61 : (Jvm.Cond.fieldLink "BatonKernel" (74 : Nat) "BatonKernel$Proc" "number" "I") ∈ lw_g := lw_gd (lw_in1 (List.mem_of_getElem? (i := 61) (by decide +kernel))) rfl
theorem tw_1_62 : (Jvm.Cond.fieldLink "BatonKernel$Proc" (9 : Nat) "BatonKernel$Proc" "ops" "[I") ∈ lw_g := lw_gd (lw_in1 (List.mem_of_getElem? (i := 62) (by decide +kernel))) rfl
theorem tw_1_63 : (Jvm.Cond.fieldLink "BatonKernel" (140 : Nat) "BatonKernel$Proc" "ops" "[I") ∈ lw_g := lw_gd (lw_in1 (List.mem_of_getElem? (i := 63) (by decide +kernel))) rfl
theorem tw_1_64 : (Jvm.Cond.fieldLink "BatonKernel$Proc" (15 : Nat) "BatonKernel$Proc" "as" "[I") ∈ lw_g := lw_gd (lw_in1 (List.mem_of_getElem? (i := 64) (by decide +kernel))) rfl
theorem tw_1_65 : (Jvm.Cond.fieldLink "BatonKernel" (143 : Nat) "BatonKernel$Proc" "as" "[I") ∈ lw_g := lw_gd (lw_in1 (List.mem_of_getElem? (i := 65) (by decide +kernel))) rfl
theorem tw_1_66 : (Jvm.Cond.fieldLink "BatonKernel$Proc" (18 : Nat) "BatonKernel$Proc" "bs" "[I") ∈ lw_g := lw_gd (lw_in1 (List.mem_of_getElem? (i := 66) (by decide +kernel))) rfl
theorem tw_1_67 : (Jvm.Cond.fieldLink "BatonKernel" (146 : Nat) "BatonKernel$Proc" "bs" "[I") ∈ lw_g := lw_gd (lw_in1 (List.mem_of_getElem? (i := 67) (by decide +kernel))) rfl
theorem tw_1_68 : (Jvm.Cond.fieldLink "BatonKernel$Proc" (21 : Nat) "BatonKernel$Proc" "units" "[I") ∈ lw_g := lw_gd (lw_in1 (List.mem_of_getElem? (i := 68) (by decide +kernel))) rfl
theorem tw_1_69 : (Jvm.Cond.fieldLink "BatonKernel" (176 : Nat) "BatonKernel$Proc" "units" "[I") ∈ lw_g := lw_gd (lw_in1 (List.mem_of_getElem? (i := 69) (by decide +kernel))) rfl
theorem tw_1_70 : (Jvm.Cond.fieldLink "BatonKernel$Proc" (24 : Nat) "BatonKernel$Proc" "length" "I") ∈ lw_g := lw_gd (lw_in1 (List.mem_of_getElem? (i := 70) (by decide +kernel))) rfl
theorem tw_1_71 : (Jvm.Cond.fieldLink "BatonKernel" (87 : Nat) "BatonKernel$Proc" "length" "I") ∈ lw_g := lw_gd (lw_in1 (List.mem_of_getElem? (i := 71) (by decide +kernel))) rfl
theorem tw_1_72 : (Jvm.Cond.fieldLink "BatonKernel$Proc" (28 : Nat) "BatonKernel$Proc" "priority" "I") ∈ lw_g := lw_gd (lw_in1 (List.mem_of_getElem? (i := 72) (by decide +kernel))) rfl
theorem tw_1_73 : (Jvm.Cond.fieldLink "BatonKernel" (65 : Nat) "BatonKernel$Proc" "priority" "I") ∈ lw_g := lw_gd (lw_in1 (List.mem_of_getElem? (i := 73) (by decide +kernel))) rfl
theorem tw_1_74 : (Jvm.Cond.fieldLink "BatonKernel$Proc" (31 : Nat) "BatonKernel$Proc" "roundsLeft" "I") ∈ lw_g := lw_gd (lw_in1 (List.mem_of_getElem? (i := 74) (by decide +kernel))) rfl
theorem tw_1_75 : (Jvm.Cond.fieldLink "BatonKernel" (68 : Nat) "BatonKernel$Proc" "roundsLeft" "I") ∈ lw_g := lw_gd (lw_in1 (List.mem_of_getElem? (i := 75) (by decide +kernel))) rfl
theorem tw_1_76 : (Jvm.Cond.fieldLink "BatonKernel$Proc" (34 : Nat) "BatonKernel$Proc" "handler" "I") ∈ lw_g := lw_gd (lw_in1 (List.mem_of_getElem? (i := 76) (by decide +kernel))) rfl
theorem tw_1_77 : (Jvm.Cond.fieldLink "BatonKernel" (71 : Nat) "BatonKernel$Proc" "handler" "I") ∈ lw_g := lw_gd (lw_in1 (List.mem_of_getElem? (i := 77) (by decide +kernel))) rfl
theorem tw_1_78 : (Jvm.Cond.fieldLink "BatonKernel$Proc" (37 : Nat) "BatonKernel$Proc" "state" "I") ∈ lw_g := lw_gd (lw_in1 (List.mem_of_getElem? (i := 78) (by decide +kernel))) rfl
theorem tw_1_79 : (Jvm.Cond.fieldLink "BatonKernel" (84 : Nat) "BatonKernel$Proc" "state" "I") ∈ lw_g := lw_gd (lw_in1 (List.mem_of_getElem? (i := 79) (by decide +kernel))) rfl
theorem tw_1_80 : (Jvm.Cond.fieldLink "BatonKernel$Proc" (40 : Nat) "BatonKernel$Proc" "place" "I") ∈ lw_g := lw_gd (lw_in1 (List.mem_of_getElem? (i := 80) (by decide +kernel))) rfl
theorem tw_1_81 : (Jvm.Cond.fieldLink "BatonKernel" (134 : Nat) "BatonKernel$Proc" "place" "I") ∈ lw_g := lw_gd (lw_in1 (List.mem_of_getElem? (i := 81) (by decide +kernel))) rfl
theorem tw_1_82 : (Jvm.Cond.fieldLink "BatonKernel$Proc" (43 : Nat) "BatonKernel$Proc" "doing" "I") ∈ lw_g := lw_gd (lw_in1 (List.mem_of_getElem? (i := 82) (by decide +kernel))) rfl
theorem tw_1_83 : (Jvm.Cond.fieldLink "BatonKernel" (217 : Nat) "BatonKernel$Proc" "doing" "I") ∈ lw_g := lw_gd (lw_in1 (List.mem_of_getElem? (i := 83) (by decide +kernel))) rfl
theorem tw_1_84 : (Jvm.Cond.fieldLink "BatonKernel$Proc" (46 : Nat) "BatonKernel$Proc" "listed" "Z") ∈ lw_g := lw_gd (lw_in1 (List.mem_of_getElem? (i := 84) (by decide +kernel))) rfl
theorem tw_1_85 : (Jvm.Cond.fieldLink "BatonKernel" (198 : Nat) "BatonKernel$Proc" "listed" "Z") ∈ lw_g := lw_gd (lw_in1 (List.mem_of_getElem? (i := 85) (by decide +kernel))) rfl
theorem tw_1_86 : (Jvm.Cond.fieldLink "BatonKernel$Proc" (50 : Nat) "BatonKernel$Proc" "time" "J") ∈ lw_g := lw_gd (lw_in1 (List.mem_of_getElem? (i := 86) (by decide +kernel))) rfl
theorem tw_1_87 : (Jvm.Cond.fieldLink "BatonKernel" (158 : Nat) "BatonKernel$Proc" "time" "J") ∈ lw_g := lw_gd (lw_in1 (List.mem_of_getElem? (i := 87) (by decide +kernel))) rfl
theorem tw_1_88 : (Jvm.Cond.fieldLink "BatonKernel$Proc" (54 : Nat) "BatonKernel$Proc" "entry" "J") ∈ lw_g := lw_gd (lw_in1 (List.mem_of_getElem? (i := 88) (by decide +kernel))) rfl
theorem tw_1_89 : (Jvm.Cond.fieldLink "BatonKernel" (201 : Nat) "BatonKernel$Proc" "entry" "J") ∈ lw_g := lw_gd (lw_in1 (List.mem_of_getElem? (i := 89) (by decide +kernel))) rfl
theorem tw_1_90 : (Jvm.Cond.fieldLink "BatonKernel$Proc" (57 : Nat) "BatonKernel$Proc" "since" "J") ∈ lw_g := lw_gd (lw_in1 (List.mem_of_getElem? (i := 90) (by decide +kernel))) rfl
theorem tw_1_91 : (Jvm.Cond.fieldLink "BatonKernel" (273 : Nat) "BatonKernel$Proc" "since" "J") ∈ lw_g := lw_gd (lw_in1 (List.mem_of_getElem? (i := 91) (by decide +kernel))) rfl
theorem tw_1_92 : (Jvm.Cond.laysFinal "BatonKernel$Proc" "BatonKernel$Proc" "number" "I") ∈ lw_g := lw_gd (lw_in1 (List.mem_of_getElem? (i := 92) (by decide +kernel))) rfl
theorem tw_1_94 : (Jvm.Cond.laysFinal "BatonKernel$Proc" "BatonKernel$Proc" "ops" "[I") ∈ lw_g := lw_gd (lw_in1 (List.mem_of_getElem? (i := 94) (by decide +kernel))) rfl
theorem tw_1_96 : (Jvm.Cond.laysFinal "BatonKernel$Proc" "BatonKernel$Proc" "as" "[I") ∈ lw_g := lw_gd (lw_in1 (List.mem_of_getElem? (i := 96) (by decide +kernel))) rfl
theorem tw_1_98 : (Jvm.Cond.laysFinal "BatonKernel$Proc" "BatonKernel$Proc" "bs" "[I") ∈ lw_g := lw_gd (lw_in1 (List.mem_of_getElem? (i := 98) (by decide +kernel))) rfl
theorem tw_1_100 : (Jvm.Cond.laysFinal "BatonKernel$Proc" "BatonKernel$Proc" "units" "[I") ∈ lw_g := lw_gd (lw_in1 (List.mem_of_getElem? (i := 100) (by decide +kernel))) rfl
theorem tw_1_102 : (Jvm.Cond.lays "BatonKernel$Proc" "BatonKernel$Proc" "length" "I") ∈ lw_g := lw_gd (lw_in1 (List.mem_of_getElem? (i := 102) (by decide +kernel))) rfl
theorem tw_1_104 : (Jvm.Cond.lays "BatonKernel$Proc" "BatonKernel$Proc" "priority" "I") ∈ lw_g := lw_gd (lw_in1 (List.mem_of_getElem? (i := 104) (by decide +kernel))) rfl
theorem tw_1_106 : (Jvm.Cond.lays "BatonKernel$Proc" "BatonKernel$Proc" "roundsLeft" "I") ∈ lw_g := lw_gd (lw_in1 (List.mem_of_getElem? (i := 106) (by decide +kernel))) rfl
theorem tw_1_108 : (Jvm.Cond.lays "BatonKernel$Proc" "BatonKernel$Proc" "handler" "I") ∈ lw_g := lw_gd (lw_in1 (List.mem_of_getElem? (i := 108) (by decide +kernel))) rfl
theorem tw_1_110 : (Jvm.Cond.lays "BatonKernel$Proc" "BatonKernel$Proc" "state" "I") ∈ lw_g := lw_gd (lw_in1 (List.mem_of_getElem? (i := 110) (by decide +kernel))) rfl
theorem tw_1_112 : (Jvm.Cond.lays "BatonKernel$Proc" "BatonKernel$Proc" "place" "I") ∈ lw_g := lw_gd (lw_in1 (List.mem_of_getElem? (i := 112) (by decide +kernel))) rfl
theorem tw_1_114 : (Jvm.Cond.lays "BatonKernel$Proc" "BatonKernel$Proc" "doing" "I") ∈ lw_g := lw_gd (lw_in1 (List.mem_of_getElem? (i := 114) (by decide +kernel))) rfl
theorem tw_1_116 : (Jvm.Cond.lays "BatonKernel$Proc" "BatonKernel$Proc" "listed" "Z") ∈ lw_g := lw_gd (lw_in1 (List.mem_of_getElem? (i := 116) (by decide +kernel))) rfl
theorem tw_1_118 : (Jvm.Cond.lays "BatonKernel$Proc" "BatonKernel$Proc" "time" "J") ∈ lw_g := lw_gd (lw_in1 (List.mem_of_getElem? (i := 118) (by decide +kernel))) rfl
theorem tw_1_120 : (Jvm.Cond.lays "BatonKernel$Proc" "BatonKernel$Proc" "entry" "J") ∈ lw_g := lw_gd (lw_in1 (List.mem_of_getElem? (i := 120) (by decide +kernel))) rfl
theorem tw_1_122 : (Jvm.Cond.lays "BatonKernel$Proc" "BatonKernel$Proc" "since" "J") ∈ lw_g := lw_gd (lw_in1 (List.mem_of_getElem? (i := 122) (by decide +kernel))) rfl
theorem tw_1_125 : (Jvm.Cond.instantiable "BatonKernel$Resource" (6 : Nat)) ∈ lw_g := lw_gd (lw_in1 (List.mem_of_getElem? (i := 125) (by decide +kernel))) rfl
theorem tw_1_127 : (Jvm.Cond.instanceMethod ({ cls := "BatonKernel$Resource", name := "<init>", desc := "()V" } : Jvm.MethodName)) ∈ lw_g := lw_gd (lw_in1 (List.mem_of_getElem? (i := 127) (by decide +kernel))) rfl
theorem tw_1_129 : (Jvm.Cond.methodLink "BatonKernel$Resource" (1 : Nat) ({ cls := "java/lang/Object", name := "<init>", desc := "()V" } : Jvm.MethodName)) ∈ lw_g := lw_gd (lw_in1 (List.mem_of_getElem? (i := 129) (by decide +kernel))) rfl
theorem tw_1_130 : (Jvm.Cond.classLink "BatonKernel$Resource" (7 : Nat) "BatonKernel$Line") ∈ lw_g := lw_gd (lw_in1 (List.mem_of_getElem? (i := 130) (by decide +kernel))) rfl
theorem tw_1_132 : (Jvm.Cond.fieldLink "BatonKernel$Resource" (10 : Nat) "BatonKernel$Resource" "line" "LBatonKernel$Line;") ∈ lw_g := lw_gd (lw_in1 (List.mem_of_getElem? (i := 132) (by decide +kernel))) rfl
theorem tw_1_133 : (Jvm.Cond.fieldLink "BatonKernel" (185 : Nat) "BatonKernel$Resource" "line" "LBatonKernel$Line;") ∈ lw_g := lw_gd (lw_in1 (List.mem_of_getElem? (i := 133) (by decide +kernel))) rfl
theorem tw_1_134 : (Jvm.Cond.fieldLink "BatonKernel$Resource" (16 : Nat) "BatonKernel$Resource" "capacity" "I") ∈ lw_g := lw_gd (lw_in1 (List.mem_of_getElem? (i := 134) (by decide +kernel))) rfl
theorem tw_1_135 : (Jvm.Cond.fieldLink "BatonKernel" (100 : Nat) "BatonKernel$Resource" "capacity" "I") ∈ lw_g := lw_gd (lw_in1 (List.mem_of_getElem? (i := 135) (by decide +kernel))) rfl
theorem tw_1_136 : (Jvm.Cond.fieldLink "BatonKernel$Resource" (20 : Nat) "BatonKernel$Resource" "seized" "I") ∈ lw_g := lw_gd (lw_in1 (List.mem_of_getElem? (i := 136) (by decide +kernel))) rfl
theorem tw_1_137 : (Jvm.Cond.fieldLink "BatonKernel" (97 : Nat) "BatonKernel$Resource" "seized" "I") ∈ lw_g := lw_gd (lw_in1 (List.mem_of_getElem? (i := 137) (by decide +kernel))) rfl
theorem tw_1_138 : (Jvm.Cond.fieldLink "BatonKernel$Resource" (23 : Nat) "BatonKernel$Resource" "preempts" "Z") ∈ lw_g := lw_gd (lw_in1 (List.mem_of_getElem? (i := 138) (by decide +kernel))) rfl
theorem tw_1_139 : (Jvm.Cond.fieldLink "BatonKernel" (103 : Nat) "BatonKernel$Resource" "preempts" "Z") ∈ lw_g := lw_gd (lw_in1 (List.mem_of_getElem? (i := 139) (by decide +kernel))) rfl
theorem tw_1_140 : (Jvm.Cond.fieldLink "BatonKernel$Resource" (27 : Nat) "BatonKernel$Resource" "area" "J") ∈ lw_g := lw_gd (lw_in1 (List.mem_of_getElem? (i := 140) (by decide +kernel))) rfl
theorem tw_1_141 : (Jvm.Cond.fieldLink "BatonKernel" (188 : Nat) "BatonKernel$Resource" "area" "J") ∈ lw_g := lw_gd (lw_in1 (List.mem_of_getElem? (i := 141) (by decide +kernel))) rfl
theorem tw_1_142 : (Jvm.Cond.fieldLink "BatonKernel$Resource" (31 : Nat) "BatonKernel$Resource" "waited" "J") ∈ lw_g := lw_gd (lw_in1 (List.mem_of_getElem? (i := 142) (by decide +kernel))) rfl
theorem tw_1_143 : (Jvm.Cond.fieldLink "BatonKernel" (191 : Nat) "BatonKernel$Resource" "waited" "J") ∈ lw_g := lw_gd (lw_in1 (List.mem_of_getElem? (i := 143) (by decide +kernel))) rfl
theorem tw_1_144 : (Jvm.Cond.laysFinal "BatonKernel$Resource" "BatonKernel$Resource" "line" "LBatonKernel$Line;") ∈ lw_g := lw_gd (lw_in1 (List.mem_of_getElem? (i := 144) (by decide +kernel))) rfl
theorem tw_1_146 : (Jvm.Cond.lays "BatonKernel$Resource" "BatonKernel$Resource" "capacity" "I") ∈ lw_g := lw_gd (lw_in1 (List.mem_of_getElem? (i := 146) (by decide +kernel))) rfl
theorem tw_1_148 : (Jvm.Cond.lays "BatonKernel$Resource" "BatonKernel$Resource" "seized" "I") ∈ lw_g := lw_gd (lw_in1 (List.mem_of_getElem? (i := 148) (by decide +kernel))) rfl
theorem tw_1_150 : (Jvm.Cond.lays "BatonKernel$Resource" "BatonKernel$Resource" "preempts" "Z") ∈ lw_g := lw_gd (lw_in1 (List.mem_of_getElem? (i := 150) (by decide +kernel))) rfl
theorem tw_1_152 : (Jvm.Cond.lays "BatonKernel$Resource" "BatonKernel$Resource" "area" "J") ∈ lw_g := lw_gd (lw_in1 (List.mem_of_getElem? (i := 152) (by decide +kernel))) rfl
theorem tw_1_154 : (Jvm.Cond.lays "BatonKernel$Resource" "BatonKernel$Resource" "waited" "J") ∈ lw_g := lw_gd (lw_in1 (List.mem_of_getElem? (i := 154) (by decide +kernel))) rfl
theorem tw_1_157 : (Jvm.Cond.instantiable "BatonKernel$Tank" (2 : Nat)) ∈ lw_g := lw_gd (lw_in1 (List.mem_of_getElem? (i := 157) (by decide +kernel))) rfl
theorem tw_1_159 : (Jvm.Cond.instanceMethod ({ cls := "BatonKernel$Tank", name := "<init>", desc := "()V" } : Jvm.MethodName)) ∈ lw_g := lw_gd (lw_in1 (List.mem_of_getElem? (i := 159) (by decide +kernel))) rfl
theorem tw_1_161 : (Jvm.Cond.methodLink "BatonKernel$Tank" (3 : Nat) ({ cls := "java/lang/Object", name := "<init>", desc := "()V" } : Jvm.MethodName)) ∈ lw_g := lw_gd (lw_in1 (List.mem_of_getElem? (i := 161) (by decide +kernel))) rfl
theorem tw_1_162 : (Jvm.Cond.fieldLink "BatonKernel$Tank" (9 : Nat) "BatonKernel$Tank" "capacity" "I") ∈ lw_g := lw_gd (lw_in1 (List.mem_of_getElem? (i := 162) (by decide +kernel))) rfl
theorem tw_1_163 : (Jvm.Cond.fieldLink "BatonKernel" (113 : Nat) "BatonKernel$Tank" "capacity" "I") ∈ lw_g := lw_gd (lw_in1 (List.mem_of_getElem? (i := 163) (by decide +kernel))) rfl
theorem tw_1_164 : (Jvm.Cond.fieldLink "BatonKernel$Tank" (15 : Nat) "BatonKernel$Tank" "level" "I") ∈ lw_g := lw_gd (lw_in1 (List.mem_of_getElem? (i := 164) (by decide +kernel))) rfl
theorem tw_1_165 : (Jvm.Cond.fieldLink "BatonKernel" (114 : Nat) "BatonKernel$Tank" "level" "I") ∈ lw_g := lw_gd (lw_in1 (List.mem_of_getElem? (i := 165) (by decide +kernel))) rfl
theorem tw_1_166 : (Jvm.Cond.lays "BatonKernel$Tank" "BatonKernel$Tank" "capacity" "I") ∈ lw_g := lw_gd (lw_in1 (List.mem_of_getElem? (i := 166) (by decide +kernel))) rfl
theorem tw_1_168 : (Jvm.Cond.lays "BatonKernel$Tank" "BatonKernel$Tank" "level" "I") ∈ lw_g := lw_gd (lw_in1 (List.mem_of_getElem? (i := 168) (by decide +kernel))) rfl
theorem tw_1_171 : (Jvm.Cond.fieldLink "BatonKernel" (11 : Nat) "BatonKernel" "procs" "[LBatonKernel$Proc;") ∈ lw_g := lw_gd (lw_in1 (List.mem_of_getElem? (i := 171) (by decide +kernel))) rfl
theorem tw_1_172 : (Jvm.Cond.fieldLink "BatonKernel" (17 : Nat) "BatonKernel" "resources" "[LBatonKernel$Resource;") ∈ lw_g := lw_gd (lw_in1 (List.mem_of_getElem? (i := 172) (by decide +kernel))) rfl
theorem tw_1_173 : (Jvm.Cond.fieldLink "BatonKernel" (23 : Nat) "BatonKernel" "tanks" "[LBatonKernel$Tank;") ∈ lw_g := lw_gd (lw_in1 (List.mem_of_getElem? (i := 173) (by decide +kernel))) rfl
theorem tw_1_174 : (Jvm.Cond.fieldLink "BatonKernel" (30 : Nat) "BatonKernel" "conditions" "LBatonKernel$Line;") ∈ lw_g := lw_gd (lw_in1 (List.mem_of_getElem? (i := 174) (by decide +kernel))) rfl
theorem tw_1_175 : (Jvm.Cond.fieldLink "BatonKernel" (37 : Nat) "BatonKernel" "trace" "LBatonKernel$Trace;") ∈ lw_g := lw_gd (lw_in1 (List.mem_of_getElem? (i := 175) (by decide +kernel))) rfl
theorem tw_1_176 : (Jvm.Cond.fieldLink "BatonKernel" (41 : Nat) "BatonKernel" "losers" "[I") ∈ lw_g := lw_gd (lw_in1 (List.mem_of_getElem? (i := 176) (by decide +kernel))) rfl
theorem tw_1_177 : (Jvm.Cond.fieldLink "BatonKernel" (45 : Nat) "BatonKernel" "made" "I") ∈ lw_g := lw_gd (lw_in1 (List.mem_of_getElem? (i := 177) (by decide +kernel))) rfl
theorem tw_1_178 : (Jvm.Cond.fieldLink "BatonKernel" (49 : Nat) "BatonKernel" "clock" "J") ∈ lw_g := lw_gd (lw_in1 (List.mem_of_getElem? (i := 178) (by decide +kernel))) rfl
theorem tw_1_179 : (Jvm.Cond.fieldLink "BatonKernel" (53 : Nat) "BatonKernel" "entries" "J") ∈ lw_g := lw_gd (lw_in1 (List.mem_of_getElem? (i := 179) (by decide +kernel))) rfl
theorem tw_1_180 : (Jvm.Cond.laysFinal "BatonKernel" "BatonKernel" "procs" "[LBatonKernel$Proc;") ∈ lw_g := lw_gd (lw_in1 (List.mem_of_getElem? (i := 180) (by decide +kernel))) rfl
theorem tw_1_182 : (Jvm.Cond.laysFinal "BatonKernel" "BatonKernel" "resources" "[LBatonKernel$Resource;") ∈ lw_g := lw_gd (lw_in1 (List.mem_of_getElem? (i := 182) (by decide +kernel))) rfl
theorem tw_1_184 : (Jvm.Cond.laysFinal "BatonKernel" "BatonKernel" "tanks" "[LBatonKernel$Tank;") ∈ lw_g := lw_gd (lw_in1 (List.mem_of_getElem? (i := 184) (by decide +kernel))) rfl
theorem tw_1_186 : (Jvm.Cond.laysFinal "BatonKernel" "BatonKernel" "conditions" "LBatonKernel$Line;") ∈ lw_g := lw_gd (lw_in1 (List.mem_of_getElem? (i := 186) (by decide +kernel))) rfl
theorem tw_1_188 : (Jvm.Cond.laysFinal "BatonKernel" "BatonKernel" "trace" "LBatonKernel$Trace;") ∈ lw_g := lw_gd (lw_in1 (List.mem_of_getElem? (i := 188) (by decide +kernel))) rfl
theorem tw_1_190 : (Jvm.Cond.laysFinal "BatonKernel" "BatonKernel" "losers" "[I") ∈ lw_g := lw_gd (lw_in1 (List.mem_of_getElem? (i := 190) (by decide +kernel))) rfl
theorem tw_1_192 : (Jvm.Cond.lays "BatonKernel" "BatonKernel" "made" "I") ∈ lw_g := lw_gd (lw_in1 (List.mem_of_getElem? (i := 192) (by decide +kernel))) rfl
theorem tw_1_194 : (Jvm.Cond.lays "BatonKernel" "BatonKernel" "clock" "J") ∈ lw_g := lw_gd (lw_in1 (List.mem_of_getElem? (i := 194) (by decide +kernel))) rfl
theorem tw_1_196 : (Jvm.Cond.lays "BatonKernel" "BatonKernel" "entries" "J") ∈ lw_g := lw_gd (lw_in1 (List.mem_of_getElem? (i := 196) (by decide +kernel))) rfl
theorem tw_1_199 : (Jvm.Cond.methodLink "BatonKernelLaw" (13 : Nat) ({ cls := "BatonKernel", name := "process", desc := "(III)I" } : Jvm.MethodName)) ∈ lw_g := lw_gd (lw_in1 (List.mem_of_getElem? (i := 199) (by decide +kernel))) rfl
theorem tw_1_200 : (Jvm.Cond.instanceMethod ({ cls := "BatonKernel", name := "process", desc := "(III)I" } : Jvm.MethodName)) ∈ lw_g := lw_gd (lw_in1 (List.mem_of_getElem? (i := 200) (by decide +kernel))) rfl
theorem tw_1_201 : (Jvm.Cond.selects "BatonKernel" ({ cls := "BatonKernel", name := "process", desc := "(III)I" } : Jvm.MethodName) ({ cls := "BatonKernel", name := "process", desc := "(III)I" } : Jvm.MethodName)) ∈ lw_g := lw_gd (lw_in1 (List.mem_of_getElem? (i := 201) (by decide +kernel))) rfl
theorem tw_1_203 : (Jvm.Cond.methodLink "BatonKernel" (61 : Nat) ({ cls := "BatonKernel", name := "isWithin", desc := "(III)Z" } : Jvm.MethodName)) ∈ lw_g := lw_gd (lw_in1 (List.mem_of_getElem? (i := 203) (by decide +kernel))) rfl
theorem tw_1_204 : (Jvm.Cond.static ({ cls := "BatonKernel", name := "isWithin", desc := "(III)Z" } : Jvm.MethodName)) ∈ lw_g := lw_gd (lw_in1 (List.mem_of_getElem? (i := 204) (by decide +kernel))) rfl
theorem tw_1_206 : (Jvm.Cond.methodLink "BatonKernelLaw" (18 : Nat) ({ cls := "BatonKernel", name := "instruct", desc := "(IIII)Z" } : Jvm.MethodName)) ∈ lw_g := lw_gd (lw_in1 (List.mem_of_getElem? (i := 206) (by decide +kernel))) rfl
theorem tw_1_207 : (Jvm.Cond.instanceMethod ({ cls := "BatonKernel", name := "instruct", desc := "(IIII)Z" } : Jvm.MethodName)) ∈ lw_g := lw_gd (lw_in1 (List.mem_of_getElem? (i := 207) (by decide +kernel))) rfl
theorem tw_1_208 : (Jvm.Cond.selects "BatonKernel" ({ cls := "BatonKernel", name := "instruct", desc := "(IIII)Z" } : Jvm.MethodName) ({ cls := "BatonKernel", name := "instruct", desc := "(IIII)Z" } : Jvm.MethodName)) ∈ lw_g := lw_gd (lw_in1 (List.mem_of_getElem? (i := 208) (by decide +kernel))) rfl
theorem tw_1_210 : (Jvm.Cond.methodLink "BatonKernel" (77 : Nat) ({ cls := "BatonKernel", name := "isProcess", desc := "(I)Z" } : Jvm.MethodName)) ∈ lw_g := lw_gd (lw_in1 (List.mem_of_getElem? (i := 210) (by decide +kernel))) rfl
theorem tw_1_212 : (Jvm.Cond.instanceMethod ({ cls := "BatonKernel", name := "isProcess", desc := "(I)Z" } : Jvm.MethodName)) ∈ lw_g := lw_gd (lw_in1 (List.mem_of_getElem? (i := 212) (by decide +kernel))) rfl
theorem tw_1_214 : (Jvm.Cond.methodLink "BatonKernel" (81 : Nat) ({ cls := "BatonKernel", name := "isInstruction", desc := "(III)Z" } : Jvm.MethodName)) ∈ lw_g := lw_gd (lw_in1 (List.mem_of_getElem? (i := 214) (by decide +kernel))) rfl
theorem tw_1_215 : (Jvm.Cond.static ({ cls := "BatonKernel", name := "isInstruction", desc := "(III)Z" } : Jvm.MethodName)) ∈ lw_g := lw_gd (lw_in1 (List.mem_of_getElem? (i := 215) (by decide +kernel))) rfl
theorem tw_1_217 : (Jvm.Cond.constant "BatonKernel" (117 : Nat) (1000000 : Int32)) ∈ lw_g := lw_gd (lw_in1 (List.mem_of_getElem? (i := 217) (by decide +kernel))) rfl
theorem tw_1_218 : (Jvm.Cond.methodLink "BatonKernel" (94 : Nat) ({ cls := "BatonKernel", name := "isResource", desc := "(I)Z" } : Jvm.MethodName)) ∈ lw_g := lw_gd (lw_in1 (List.mem_of_getElem? (i := 218) (by decide +kernel))) rfl
theorem tw_1_219 : (Jvm.Cond.static ({ cls := "BatonKernel", name := "isResource", desc := "(I)Z" } : Jvm.MethodName)) ∈ lw_g := lw_gd (lw_in1 (List.mem_of_getElem? (i := 219) (by decide +kernel))) rfl
theorem tw_1_221 : (Jvm.Cond.methodLink "BatonKernel" (110 : Nat) ({ cls := "BatonKernel", name := "isTank", desc := "(I)Z" } : Jvm.MethodName)) ∈ lw_g := lw_gd (lw_in1 (List.mem_of_getElem? (i := 221) (by decide +kernel))) rfl
theorem tw_1_222 : (Jvm.Cond.static ({ cls := "BatonKernel", name := "isTank", desc := "(I)Z" } : Jvm.MethodName)) ∈ lw_g := lw_gd (lw_in1 (List.mem_of_getElem? (i := 222) (by decide +kernel))) rfl
theorem tw_1_224 : (Jvm.Cond.methodLink "BatonKernel" (90 : Nat) ({ cls := "BatonKernel$Proc", name := "append", desc := "(III)V" } : Jvm.MethodName)) ∈ lw_g := lw_gd (lw_in1 (List.mem_of_getElem? (i := 224) (by decide +kernel))) rfl
theorem tw_1_225 : (Jvm.Cond.instanceMethod ({ cls := "BatonKernel$Proc", name := "append", desc := "(III)V" } : Jvm.MethodName)) ∈ lw_g := lw_gd (lw_in1 (List.mem_of_getElem? (i := 225) (by decide +kernel))) rfl
theorem tw_1_226 : (Jvm.Cond.selects "BatonKernel$Proc" ({ cls := "BatonKernel$Proc", name := "append", desc := "(III)V" } : Jvm.MethodName) ({ cls := "BatonKernel$Proc", name := "append", desc := "(III)V" } : Jvm.MethodName)) ∈ lw_g := lw_gd (lw_in1 (List.mem_of_getElem? (i := 226) (by decide +kernel))) rfl
theorem tw_1_228 : (Jvm.Cond.methodLink "BatonKernelLaw" (23 : Nat) ({ cls := "BatonKernel", name := "resource", desc := "(IIZ)Z" } : Jvm.MethodName)) ∈ lw_g := lw_gd (lw_in1 (List.mem_of_getElem? (i := 228) (by decide +kernel))) rfl
theorem tw_1_229 : (Jvm.Cond.instanceMethod ({ cls := "BatonKernel", name := "resource", desc := "(IIZ)Z" } : Jvm.MethodName)) ∈ lw_g := lw_gd (lw_in1 (List.mem_of_getElem? (i := 229) (by decide +kernel))) rfl
theorem tw_1_230 : (Jvm.Cond.selects "BatonKernel" ({ cls := "BatonKernel", name := "resource", desc := "(IIZ)Z" } : Jvm.MethodName) ({ cls := "BatonKernel", name := "resource", desc := "(IIZ)Z" } : Jvm.MethodName)) ∈ lw_g := lw_gd (lw_in1 (List.mem_of_getElem? (i := 230) (by decide +kernel))) rfl
theorem tw_1_232 : (Jvm.Cond.methodLink "BatonKernel" (107 : Nat) ({ cls := "BatonKernel", name := "serve", desc := "(I)V" } : Jvm.MethodName)) ∈ lw_g := lw_gd (lw_in1 (List.mem_of_getElem? (i := 232) (by decide +kernel))) rfl
theorem tw_1_234 : (Jvm.Cond.instanceMethod ({ cls := "BatonKernel", name := "serve", desc := "(I)V" } : Jvm.MethodName)) ∈ lw_g := lw_gd (lw_in1 (List.mem_of_getElem? (i := 234) (by decide +kernel))) rfl
theorem tw_1_236 : (Jvm.Cond.methodLink "BatonKernel" (232 : Nat) ({ cls := "BatonKernel$Proc", name := "secondOperand", desc := "()I" } : Jvm.MethodName)) ∈ lw_g := lw_gd (lw_in1 (List.mem_of_getElem? (i := 236) (by decide +kernel))) rfl
theorem tw_1_237 : (Jvm.Cond.instanceMethod ({ cls := "BatonKernel$Proc", name := "secondOperand", desc := "()I" } : Jvm.MethodName)) ∈ lw_g := lw_gd (lw_in1 (List.mem_of_getElem? (i := 237) (by decide +kernel))) rfl
theorem tw_1_238 : (Jvm.Cond.selects "BatonKernel$Proc" ({ cls := "BatonKernel$Proc", name := "secondOperand", desc := "()I" } : Jvm.MethodName) ({ cls := "BatonKernel$Proc", name := "secondOperand", desc := "()I" } : Jvm.MethodName)) ∈ lw_g := lw_gd (lw_in1 (List.mem_of_getElem? (i := 238) (by decide +kernel))) rfl
theorem tw_2_0 : (Jvm.Cond.methodLink "BatonKernel" (179 : Nat) ({ cls := "BatonKernel$Resource", name := "unseized", desc := "()I" } : Jvm.MethodName)) ∈ lw_g := lw_gd (lw_in2 (List.mem_of_getElem? (i := 0) (by decide +kernel))) rfl
theorem tw_2_1 : (Jvm.Cond.instanceMethod ({ cls := "BatonKernel$Resource", name := "unseized", desc := "()I" } : Jvm.MethodName)) ∈ lw_g := lw_gd (lw_in2 (List.mem_of_getElem? (i := 1) (by decide +kernel))) rfl
theorem tw_2_2 : (Jvm.Cond.selects "BatonKernel$Resource" ({ cls := "BatonKernel$Resource", name := "unseized", desc := "()I" } : Jvm.MethodName) ({ cls := "BatonKernel$Resource", name := "unseized", desc := "()I" } : Jvm.MethodName)) ∈ lw_g := lw_gd (lw_in2 (List.mem_of_getElem? (i := 2) (by decide +kernel))) rfl
theorem tw_2_4 : (Jvm.Cond.methodLink "BatonKernel" (258 : Nat) ({ cls := "BatonKernel", name := "give", desc := "(LBatonKernel$Proc;II)V" } : Jvm.MethodName)) ∈ lw_g := lw_gd (lw_in2 (List.mem_of_getElem? (i := 4) (by decide +kernel))) rfl
theorem tw_2_6 : (Jvm.Cond.instanceMethod ({ cls := "BatonKernel", name := "give", desc := "(LBatonKernel$Proc;II)V" } : Jvm.MethodName)) ∈ lw_g := lw_gd (lw_in2 (List.mem_of_getElem? (i := 6) (by decide +kernel))) rfl
theorem tw_2_8 : (Jvm.Cond.methodLink "BatonKernel" (287 : Nat) ({ cls := "BatonKernel$Line", name := "drop", desc := "(I)V" } : Jvm.MethodName)) ∈ lw_g := lw_gd (lw_in2 (List.mem_of_getElem? (i := 8) (by decide +kernel))) rfl
theorem tw_2_9 : (Jvm.Cond.instanceMethod ({ cls := "BatonKernel$Line", name := "drop", desc := "(I)V" } : Jvm.MethodName)) ∈ lw_g := lw_gd (lw_in2 (List.mem_of_getElem? (i := 9) (by decide +kernel))) rfl
theorem tw_2_10 : (Jvm.Cond.selects "BatonKernel$Line" ({ cls := "BatonKernel$Line", name := "drop", desc := "(I)V" } : Jvm.MethodName) ({ cls := "BatonKernel$Line", name := "drop", desc := "(I)V" } : Jvm.MethodName)) ∈ lw_g := lw_gd (lw_in2 (List.mem_of_getElem? (i := 10) (by decide +kernel))) rfl
theorem tw_2_12 : (Jvm.Cond.methodLink "BatonKernel" (118 : Nat) ({ cls := "BatonKernel", name := "enter", desc := "(LBatonKernel$Proc;II)V" } : Jvm.MethodName)) ∈ lw_g := lw_gd (lw_in2 (List.mem_of_getElem? (i := 12) (by decide +kernel))) rfl
theorem tw_2_14 : (Jvm.Cond.instanceMethod ({ cls := "BatonKernel", name := "enter", desc := "(LBatonKernel$Proc;II)V" } : Jvm.MethodName)) ∈ lw_g := lw_gd (lw_in2 (List.mem_of_getElem? (i := 14) (by decide +kernel))) rfl
theorem tw_2_16 : (Jvm.Cond.methodLink "BatonKernelLaw" (28 : Nat) ({ cls := "BatonKernel", name := "tank", desc := "(III)Z" } : Jvm.MethodName)) ∈ lw_g := lw_gd (lw_in2 (List.mem_of_getElem? (i := 16) (by decide +kernel))) rfl
theorem tw_2_17 : (Jvm.Cond.instanceMethod ({ cls := "BatonKernel", name := "tank", desc := "(III)Z" } : Jvm.MethodName)) ∈ lw_g := lw_gd (lw_in2 (List.mem_of_getElem? (i := 17) (by decide +kernel))) rfl
theorem tw_2_18 : (Jvm.Cond.selects "BatonKernel" ({ cls := "BatonKernel", name := "tank", desc := "(III)Z" } : Jvm.MethodName) ({ cls := "BatonKernel", name := "tank", desc := "(III)Z" } : Jvm.MethodName)) ∈ lw_g := lw_gd (lw_in2 (List.mem_of_getElem? (i := 18) (by decide +kernel))) rfl
theorem tw_2_20 : (Jvm.Cond.methodLink "BatonKernelLaw" (33 : Nat) ({ cls := "BatonKernel", name := "activate", desc := "(II)Z" } : Jvm.MethodName)) ∈ lw_g := lw_gd (lw_in2 (List.mem_of_getElem? (i := 20) (by decide +kernel))) rfl
theorem tw_2_21 : (Jvm.Cond.instanceMethod ({ cls := "BatonKernel", name := "activate", desc := "(II)Z" } : Jvm.MethodName)) ∈ lw_g := lw_gd (lw_in2 (List.mem_of_getElem? (i := 21) (by decide +kernel))) rfl
theorem tw_2_22 : (Jvm.Cond.selects "BatonKernel" ({ cls := "BatonKernel", name := "activate", desc := "(II)Z" } : Jvm.MethodName) ({ cls := "BatonKernel", name := "activate", desc := "(II)Z" } : Jvm.MethodName)) ∈ lw_g := lw_gd (lw_in2 (List.mem_of_getElem? (i := 22) (by decide +kernel))) rfl
theorem tw_2_24 : (Jvm.Cond.methodLink "BatonKernelLaw" (38 : Nat) ({ cls := "BatonKernel", name := "interrupt", desc := "(I)Z" } : Jvm.MethodName)) ∈ lw_g := lw_gd (lw_in2 (List.mem_of_getElem? (i := 24) (by decide +kernel))) rfl
theorem tw_2_25 : (Jvm.Cond.instanceMethod ({ cls := "BatonKernel", name := "interrupt", desc := "(I)Z" } : Jvm.MethodName)) ∈ lw_g := lw_gd (lw_in2 (List.mem_of_getElem? (i := 25) (by decide +kernel))) rfl
theorem tw_2_26 : (Jvm.Cond.selects "BatonKernel" ({ cls := "BatonKernel", name := "interrupt", desc := "(I)Z" } : Jvm.MethodName) ({ cls := "BatonKernel", name := "interrupt", desc := "(I)Z" } : Jvm.MethodName)) ∈ lw_g := lw_gd (lw_in2 (List.mem_of_getElem? (i := 26) (by decide +kernel))) rfl
theorem tw_2_28 : (Jvm.Cond.methodLink "BatonKernel" (122 : Nat) ({ cls := "BatonKernel$Proc", name := "isBreakable", desc := "()Z" } : Jvm.MethodName)) ∈ lw_g := lw_gd (lw_in2 (List.mem_of_getElem? (i := 28) (by decide +kernel))) rfl
theorem tw_2_29 : (Jvm.Cond.instanceMethod ({ cls := "BatonKernel$Proc", name := "isBreakable", desc := "()Z" } : Jvm.MethodName)) ∈ lw_g := lw_gd (lw_in2 (List.mem_of_getElem? (i := 29) (by decide +kernel))) rfl
theorem tw_2_30 : (Jvm.Cond.selects "BatonKernel$Proc" ({ cls := "BatonKernel$Proc", name := "isBreakable", desc := "()Z" } : Jvm.MethodName) ({ cls := "BatonKernel$Proc", name := "isBreakable", desc := "()Z" } : Jvm.MethodName)) ∈ lw_g := lw_gd (lw_in2 (List.mem_of_getElem? (i := 30) (by decide +kernel))) rfl
theorem tw_2_32 : (Jvm.Cond.methodLink "BatonKernel" (126 : Nat) ({ cls := "BatonKernel", name := "lineOf", desc := "(LBatonKernel$Proc;)I" } : Jvm.MethodName)) ∈ lw_g := lw_gd (lw_in2 (List.mem_of_getElem? (i := 32) (by decide +kernel))) rfl
theorem tw_2_34 : (Jvm.Cond.instanceMethod ({ cls := "BatonKernel", name := "lineOf", desc := "(LBatonKernel$Proc;)I" } : Jvm.MethodName)) ∈ lw_g := lw_gd (lw_in2 (List.mem_of_getElem? (i := 34) (by decide +kernel))) rfl
theorem tw_2_36 : (Jvm.Cond.methodLink "BatonKernel" (220 : Nat) ({ cls := "BatonKernel$Proc", name := "firstOperand", desc := "()I" } : Jvm.MethodName)) ∈ lw_g := lw_gd (lw_in2 (List.mem_of_getElem? (i := 36) (by decide +kernel))) rfl
theorem tw_2_37 : (Jvm.Cond.instanceMethod ({ cls := "BatonKernel$Proc", name := "firstOperand", desc := "()I" } : Jvm.MethodName)) ∈ lw_g := lw_gd (lw_in2 (List.mem_of_getElem? (i := 37) (by decide +kernel))) rfl
theorem tw_2_38 : (Jvm.Cond.selects "BatonKernel$Proc" ({ cls := "BatonKernel$Proc", name := "firstOperand", desc := "()I" } : Jvm.MethodName) ({ cls := "BatonKernel$Proc", name := "firstOperand", desc := "()I" } : Jvm.MethodName)) ∈ lw_g := lw_gd (lw_in2 (List.mem_of_getElem? (i := 38) (by decide +kernel))) rfl
theorem tw_2_40 : (Jvm.Cond.methodLink "BatonKernel" (130 : Nat) ({ cls := "BatonKernel", name := "leave", desc := "(LBatonKernel$Proc;)V" } : Jvm.MethodName)) ∈ lw_g := lw_gd (lw_in2 (List.mem_of_getElem? (i := 40) (by decide +kernel))) rfl
theorem tw_2_42 : (Jvm.Cond.instanceMethod ({ cls := "BatonKernel", name := "leave", desc := "(LBatonKernel$Proc;)V" } : Jvm.MethodName)) ∈ lw_g := lw_gd (lw_in2 (List.mem_of_getElem? (i := 42) (by decide +kernel))) rfl
theorem tw_2_44 : (Jvm.Cond.methodLink "BatonKernelLaw" (43 : Nat) ({ cls := "BatonKernel", name := "kill", desc := "(I)Z" } : Jvm.MethodName)) ∈ lw_g := lw_gd (lw_in2 (List.mem_of_getElem? (i := 44) (by decide +kernel))) rfl
theorem tw_2_45 : (Jvm.Cond.instanceMethod ({ cls := "BatonKernel", name := "kill", desc := "(I)Z" } : Jvm.MethodName)) ∈ lw_g := lw_gd (lw_in2 (List.mem_of_getElem? (i := 45) (by decide +kernel))) rfl
theorem tw_2_46 : (Jvm.Cond.selects "BatonKernel" ({ cls := "BatonKernel", name := "kill", desc := "(I)Z" } : Jvm.MethodName) ({ cls := "BatonKernel", name := "kill", desc := "(I)Z" } : Jvm.MethodName)) ∈ lw_g := lw_gd (lw_in2 (List.mem_of_getElem? (i := 46) (by decide +kernel))) rfl
theorem tw_2_48 : (Jvm.Cond.methodLink "BatonKernel" (137 : Nat) ({ cls := "BatonKernel$Proc", name := "isOver", desc := "()Z" } : Jvm.MethodName)) ∈ lw_g := lw_gd (lw_in2 (List.mem_of_getElem? (i := 48) (by decide +kernel))) rfl
theorem tw_2_49 : (Jvm.Cond.instanceMethod ({ cls := "BatonKernel$Proc", name := "isOver", desc := "()Z" } : Jvm.MethodName)) ∈ lw_g := lw_gd (lw_in2 (List.mem_of_getElem? (i := 49) (by decide +kernel))) rfl
theorem tw_2_50 : (Jvm.Cond.selects "BatonKernel$Proc" ({ cls := "BatonKernel$Proc", name := "isOver", desc := "()Z" } : Jvm.MethodName) ({ cls := "BatonKernel$Proc", name := "isOver", desc := "()Z" } : Jvm.MethodName)) ∈ lw_g := lw_gd (lw_in2 (List.mem_of_getElem? (i := 50) (by decide +kernel))) rfl
theorem tw_2_52 : (Jvm.Cond.methodLink "BatonKernel" (149 : Nat) ({ cls := "BatonKernel", name := "giveBack", desc := "(LBatonKernel$Proc;II)V" } : Jvm.MethodName)) ∈ lw_g := lw_gd (lw_in2 (List.mem_of_getElem? (i := 52) (by decide +kernel))) rfl
theorem tw_2_54 : (Jvm.Cond.instanceMethod ({ cls := "BatonKernel", name := "giveBack", desc := "(LBatonKernel$Proc;II)V" } : Jvm.MethodName)) ∈ lw_g := lw_gd (lw_in2 (List.mem_of_getElem? (i := 54) (by decide +kernel))) rfl
theorem tw_2_56 : (Jvm.Cond.methodLink "BatonKernel" (282 : Nat) ({ cls := "java/lang/Math", name := "min", desc := "(II)I" } : Jvm.MethodName)) ∈ lw_g := lw_gd (lw_in2 (List.mem_of_getElem? (i := 56) (by decide +kernel))) rfl
theorem tw_2_57 : (Jvm.Cond.static ({ cls := "java/lang/Math", name := "min", desc := "(II)I" } : Jvm.MethodName)) ∈ lw_g := lw_gd (lw_in2 (List.mem_of_getElem? (i := 57) (by decide +kernel))) rfl
theorem tw_2_59 : (Jvm.Cond.methodLink "BatonKernel" (279 : Nat) ({ cls := "BatonKernel", name := "takeBack", desc := "(LBatonKernel$Proc;II)V" } : Jvm.MethodName)) ∈ lw_g := lw_gd (lw_in2 (List.mem_of_getElem? (i := 59) (by decide +kernel))) rfl
theorem tw_2_61 : (Jvm.Cond.instanceMethod ({ cls := "BatonKernel", name := "takeBack", desc := "(LBatonKernel$Proc;II)V" } : Jvm.MethodName)) ∈ lw_g := lw_gd (lw_in2 (List.mem_of_getElem? (i := 61) (by decide +kernel))) rfl
theorem tw_2_63 : (Jvm.Cond.methodLink "BatonKernelLaw" (49 : Nat) ({ cls := "BatonKernel", name := "run", desc := "(IJ)I" } : Jvm.MethodName)) ∈ lw_g := lw_gd (lw_in2 (List.mem_of_getElem? (i := 63) (by decide +kernel))) rfl
theorem tw_2_64 : (Jvm.Cond.instanceMethod ({ cls := "BatonKernel", name := "run", desc := "(IJ)I" } : Jvm.MethodName)) ∈ lw_g := lw_gd (lw_in2 (List.mem_of_getElem? (i := 64) (by decide +kernel))) rfl
theorem tw_2_65 : (Jvm.Cond.selects "BatonKernel" ({ cls := "BatonKernel", name := "run", desc := "(IJ)I" } : Jvm.MethodName) ({ cls := "BatonKernel", name := "run", desc := "(IJ)I" } : Jvm.MethodName)) ∈ lw_g := lw_gd (lw_in2 (List.mem_of_getElem? (i := 65) (by decide +kernel))) rfl
theorem tw_2_67 : (Jvm.Cond.constantLong "BatonKernel" (152 : Nat) (1000000000000 : Int64)) ∈ lw_g := lw_gd (lw_in2 (List.mem_of_getElem? (i := 67) (by decide +kernel))) rfl
theorem tw_2_68 : (Jvm.Cond.methodLink "BatonKernel" (154 : Nat) ({ cls := "BatonKernel", name := "firstEntry", desc := "()I" } : Jvm.MethodName)) ∈ lw_g := lw_gd (lw_in2 (List.mem_of_getElem? (i := 68) (by decide +kernel))) rfl
theorem tw_2_70 : (Jvm.Cond.instanceMethod ({ cls := "BatonKernel", name := "firstEntry", desc := "()I" } : Jvm.MethodName)) ∈ lw_g := lw_gd (lw_in2 (List.mem_of_getElem? (i := 70) (by decide +kernel))) rfl
theorem tw_2_72 : (Jvm.Cond.methodLink "BatonKernel" (204 : Nat) ({ cls := "BatonKernel$Proc", name := "isBefore", desc := "(LBatonKernel$Proc;)Z" } : Jvm.MethodName)) ∈ lw_g := lw_gd (lw_in2 (List.mem_of_getElem? (i := 72) (by decide +kernel))) rfl
theorem tw_2_73 : (Jvm.Cond.instanceMethod ({ cls := "BatonKernel$Proc", name := "isBefore", desc := "(LBatonKernel$Proc;)Z" } : Jvm.MethodName)) ∈ lw_g := lw_gd (lw_in2 (List.mem_of_getElem? (i := 73) (by decide +kernel))) rfl
theorem tw_2_74 : (Jvm.Cond.selects "BatonKernel$Proc" ({ cls := "BatonKernel$Proc", name := "isBefore", desc := "(LBatonKernel$Proc;)Z" } : Jvm.MethodName) ({ cls := "BatonKernel$Proc", name := "isBefore", desc := "(LBatonKernel$Proc;)Z" } : Jvm.MethodName)) ∈ lw_g := lw_gd (lw_in2 (List.mem_of_getElem? (i := 74) (by decide +kernel))) rfl
theorem tw_2_76 : (Jvm.Cond.methodLink "BatonKernel" (161 : Nat) ({ cls := "BatonKernel", name := "begin", desc := "(LBatonKernel$Proc;)V" } : Jvm.MethodName)) ∈ lw_g := lw_gd (lw_in2 (List.mem_of_getElem? (i := 76) (by decide +kernel))) rfl
theorem tw_2_78 : (Jvm.Cond.instanceMethod ({ cls := "BatonKernel", name := "begin", desc := "(LBatonKernel$Proc;)V" } : Jvm.MethodName)) ∈ lw_g := lw_gd (lw_in2 (List.mem_of_getElem? (i := 78) (by decide +kernel))) rfl
theorem tw_2_80 : (Jvm.Cond.methodLink "BatonKernel" (170 : Nat) ({ cls := "BatonKernel", name := "moveClock", desc := "(J)V" } : Jvm.MethodName)) ∈ lw_g := lw_gd (lw_in2 (List.mem_of_getElem? (i := 80) (by decide +kernel))) rfl
theorem tw_2_82 : (Jvm.Cond.instanceMethod ({ cls := "BatonKernel", name := "moveClock", desc := "(J)V" } : Jvm.MethodName)) ∈ lw_g := lw_gd (lw_in2 (List.mem_of_getElem? (i := 82) (by decide +kernel))) rfl
theorem tw_2_84 : (Jvm.Cond.methodLink "BatonKernel" (208 : Nat) ({ cls := "BatonKernel$Trace", name := "add", desc := "(I)V" } : Jvm.MethodName)) ∈ lw_g := lw_gd (lw_in2 (List.mem_of_getElem? (i := 84) (by decide +kernel))) rfl
theorem tw_2_85 : (Jvm.Cond.instanceMethod ({ cls := "BatonKernel$Trace", name := "add", desc := "(I)V" } : Jvm.MethodName)) ∈ lw_g := lw_gd (lw_in2 (List.mem_of_getElem? (i := 85) (by decide +kernel))) rfl
theorem tw_2_86 : (Jvm.Cond.selects "BatonKernel$Trace" ({ cls := "BatonKernel$Trace", name := "add", desc := "(I)V" } : Jvm.MethodName) ({ cls := "BatonKernel$Trace", name := "add", desc := "(I)V" } : Jvm.MethodName)) ∈ lw_g := lw_gd (lw_in2 (List.mem_of_getElem? (i := 86) (by decide +kernel))) rfl
theorem tw_2_88 : (Jvm.Cond.methodLink "BatonKernel$Trace" (22 : Nat) ({ cls := "java/lang/Math", name := "min", desc := "(II)I" } : Jvm.MethodName)) ∈ lw_g := lw_gd (lw_in2 (List.mem_of_getElem? (i := 88) (by decide +kernel))) rfl
theorem tw_2_89 : (Jvm.Cond.methodLink "BatonKernel" (164 : Nat) ({ cls := "BatonKernel", name := "doTurn", desc := "(LBatonKernel$Proc;)V" } : Jvm.MethodName)) ∈ lw_g := lw_gd (lw_in2 (List.mem_of_getElem? (i := 89) (by decide +kernel))) rfl
theorem tw_2_91 : (Jvm.Cond.instanceMethod ({ cls := "BatonKernel", name := "doTurn", desc := "(LBatonKernel$Proc;)V" } : Jvm.MethodName)) ∈ lw_g := lw_gd (lw_in2 (List.mem_of_getElem? (i := 91) (by decide +kernel))) rfl
theorem tw_2_93 : (Jvm.Cond.methodLink "BatonKernel" (211 : Nat) ({ cls := "BatonKernel", name := "perform", desc := "(LBatonKernel$Proc;)Z" } : Jvm.MethodName)) ∈ lw_g := lw_gd (lw_in2 (List.mem_of_getElem? (i := 93) (by decide +kernel))) rfl
theorem tw_2_95 : (Jvm.Cond.instanceMethod ({ cls := "BatonKernel", name := "perform", desc := "(LBatonKernel$Proc;)Z" } : Jvm.MethodName)) ∈ lw_g := lw_gd (lw_in2 (List.mem_of_getElem? (i := 95) (by decide +kernel))) rfl
theorem tw_2_97 : (Jvm.Cond.methodLink "BatonKernel" (223 : Nat) ({ cls := "BatonKernel", name := "seizeFree", desc := "(LBatonKernel$Proc;)Z" } : Jvm.MethodName)) ∈ lw_g := lw_gd (lw_in2 (List.mem_of_getElem? (i := 97) (by decide +kernel))) rfl
theorem tw_2_99 : (Jvm.Cond.instanceMethod ({ cls := "BatonKernel", name := "seizeFree", desc := "(LBatonKernel$Proc;)Z" } : Jvm.MethodName)) ∈ lw_g := lw_gd (lw_in2 (List.mem_of_getElem? (i := 99) (by decide +kernel))) rfl
theorem tw_2_101 : (Jvm.Cond.methodLink "BatonKernel" (254 : Nat) ({ cls := "BatonKernel", name := "countBefore", desc := "(II)I" } : Jvm.MethodName)) ∈ lw_g := lw_gd (lw_in2 (List.mem_of_getElem? (i := 101) (by decide +kernel))) rfl
theorem tw_2_103 : (Jvm.Cond.instanceMethod ({ cls := "BatonKernel", name := "countBefore", desc := "(II)I" } : Jvm.MethodName)) ∈ lw_g := lw_gd (lw_in2 (List.mem_of_getElem? (i := 103) (by decide +kernel))) rfl
theorem tw_2_105 : (Jvm.Cond.methodLink "BatonKernel" (226 : Nat) ({ cls := "BatonKernel", name := "seizeByForce", desc := "(LBatonKernel$Proc;)Z" } : Jvm.MethodName)) ∈ lw_g := lw_gd (lw_in2 (List.mem_of_getElem? (i := 105) (by decide +kernel))) rfl
theorem tw_2_107 : (Jvm.Cond.instanceMethod ({ cls := "BatonKernel", name := "seizeByForce", desc := "(LBatonKernel$Proc;)Z" } : Jvm.MethodName)) ∈ lw_g := lw_gd (lw_in2 (List.mem_of_getElem? (i := 107) (by decide +kernel))) rfl
theorem tw_2_109 : (Jvm.Cond.methodLink "BatonKernel" (261 : Nat) ({ cls := "BatonKernel", name := "withinReach", desc := "(LBatonKernel$Proc;I)I" } : Jvm.MethodName)) ∈ lw_g := lw_gd (lw_in2 (List.mem_of_getElem? (i := 109) (by decide +kernel))) rfl
theorem tw_2_111 : (Jvm.Cond.instanceMethod ({ cls := "BatonKernel", name := "withinReach", desc := "(LBatonKernel$Proc;I)I" } : Jvm.MethodName)) ∈ lw_g := lw_gd (lw_in2 (List.mem_of_getElem? (i := 111) (by decide +kernel))) rfl
theorem tw_2_113 : (Jvm.Cond.methodLink "BatonKernel" (265 : Nat) ({ cls := "BatonKernel", name := "takeFromLosers", desc := "(LBatonKernel$Proc;II)I" } : Jvm.MethodName)) ∈ lw_g := lw_gd (lw_in2 (List.mem_of_getElem? (i := 113) (by decide +kernel))) rfl
theorem tw_2_115 : (Jvm.Cond.instanceMethod ({ cls := "BatonKernel", name := "takeFromLosers", desc := "(LBatonKernel$Proc;II)I" } : Jvm.MethodName)) ∈ lw_g := lw_gd (lw_in2 (List.mem_of_getElem? (i := 115) (by decide +kernel))) rfl
theorem tw_2_117 : (Jvm.Cond.methodLink "BatonKernel" (276 : Nat) ({ cls := "BatonKernel", name := "nextLoser", desc := "(LBatonKernel$Proc;I)I" } : Jvm.MethodName)) ∈ lw_g := lw_gd (lw_in2 (List.mem_of_getElem? (i := 117) (by decide +kernel))) rfl
theorem tw_2_119 : (Jvm.Cond.instanceMethod ({ cls := "BatonKernel", name := "nextLoser", desc := "(LBatonKernel$Proc;I)I" } : Jvm.MethodName)) ∈ lw_g := lw_gd (lw_in2 (List.mem_of_getElem? (i := 119) (by decide +kernel))) rfl
theorem tw_2_121 : (Jvm.Cond.methodLink "BatonKernel" (245 : Nat) ({ cls := "BatonKernel", name := "interrupt", desc := "(I)Z" } : Jvm.MethodName)) ∈ lw_g := lw_gd (lw_in2 (List.mem_of_getElem? (i := 121) (by decide +kernel))) rfl
theorem tw_2_122 : (Jvm.Cond.methodLink "BatonKernel" (229 : Nat) ({ cls := "BatonKernel", name := "standInLine", desc := "(LBatonKernel$Proc;)Z" } : Jvm.MethodName)) ∈ lw_g := lw_gd (lw_in2 (List.mem_of_getElem? (i := 122) (by decide +kernel))) rfl
theorem tw_2_124 : (Jvm.Cond.instanceMethod ({ cls := "BatonKernel", name := "standInLine", desc := "(LBatonKernel$Proc;)Z" } : Jvm.MethodName)) ∈ lw_g := lw_gd (lw_in2 (List.mem_of_getElem? (i := 124) (by decide +kernel))) rfl
theorem tw_2_126 : (Jvm.Cond.methodLink "BatonKernel" (269 : Nat) ({ cls := "BatonKernel$Line", name := "insert", desc := "(II)V" } : Jvm.MethodName)) ∈ lw_g := lw_gd (lw_in2 (List.mem_of_getElem? (i := 126) (by decide +kernel))) rfl
theorem tw_2_127 : (Jvm.Cond.instanceMethod ({ cls := "BatonKernel$Line", name := "insert", desc := "(II)V" } : Jvm.MethodName)) ∈ lw_g := lw_gd (lw_in2 (List.mem_of_getElem? (i := 127) (by decide +kernel))) rfl
theorem tw_2_128 : (Jvm.Cond.selects "BatonKernel$Line" ({ cls := "BatonKernel$Line", name := "insert", desc := "(II)V" } : Jvm.MethodName) ({ cls := "BatonKernel$Line", name := "insert", desc := "(II)V" } : Jvm.MethodName)) ∈ lw_g := lw_gd (lw_in2 (List.mem_of_getElem? (i := 128) (by decide +kernel))) rfl
theorem tw_2_130 : (Jvm.Cond.methodLink "BatonKernel" (235 : Nat) ({ cls := "BatonKernel", name := "meetCondition", desc := "(LBatonKernel$Proc;)Z" } : Jvm.MethodName)) ∈ lw_g := lw_gd (lw_in2 (List.mem_of_getElem? (i := 130) (by decide +kernel))) rfl
theorem tw_2_132 : (Jvm.Cond.instanceMethod ({ cls := "BatonKernel", name := "meetCondition", desc := "(LBatonKernel$Proc;)Z" } : Jvm.MethodName)) ∈ lw_g := lw_gd (lw_in2 (List.mem_of_getElem? (i := 132) (by decide +kernel))) rfl
theorem tw_2_134 : (Jvm.Cond.methodLink "BatonKernel" (290 : Nat) ({ cls := "BatonKernel$Tank", name := "put", desc := "(I)Z" } : Jvm.MethodName)) ∈ lw_g := lw_gd (lw_in2 (List.mem_of_getElem? (i := 134) (by decide +kernel))) rfl
theorem tw_2_135 : (Jvm.Cond.instanceMethod ({ cls := "BatonKernel$Tank", name := "put", desc := "(I)Z" } : Jvm.MethodName)) ∈ lw_g := lw_gd (lw_in2 (List.mem_of_getElem? (i := 135) (by decide +kernel))) rfl
theorem tw_2_136 : (Jvm.Cond.selects "BatonKernel$Tank" ({ cls := "BatonKernel$Tank", name := "put", desc := "(I)Z" } : Jvm.MethodName) ({ cls := "BatonKernel$Tank", name := "put", desc := "(I)Z" } : Jvm.MethodName)) ∈ lw_g := lw_gd (lw_in2 (List.mem_of_getElem? (i := 136) (by decide +kernel))) rfl
theorem tw_2_138 : (Jvm.Cond.methodLink "BatonKernel" (293 : Nat) ({ cls := "BatonKernel$Tank", name := "take", desc := "(I)Z" } : Jvm.MethodName)) ∈ lw_g := lw_gd (lw_in2 (List.mem_of_getElem? (i := 138) (by decide +kernel))) rfl
theorem tw_2_139 : (Jvm.Cond.instanceMethod ({ cls := "BatonKernel$Tank", name := "take", desc := "(I)Z" } : Jvm.MethodName)) ∈ lw_g := lw_gd (lw_in2 (List.mem_of_getElem? (i := 139) (by decide +kernel))) rfl
theorem tw_2_140 : (Jvm.Cond.selects "BatonKernel$Tank" ({ cls := "BatonKernel$Tank", name := "take", desc := "(I)Z" } : Jvm.MethodName) ({ cls := "BatonKernel$Tank", name := "take", desc := "(I)Z" } : Jvm.MethodName)) ∈ lw_g := lw_gd (lw_in2 (List.mem_of_getElem? (i := 140) (by decide +kernel))) rfl
theorem tw_2_142 : (Jvm.Cond.methodLink "BatonKernel" (238 : Nat) ({ cls := "BatonKernel", name := "waitForCondition", desc := "(LBatonKernel$Proc;)Z" } : Jvm.MethodName)) ∈ lw_g := lw_gd (lw_in2 (List.mem_of_getElem? (i := 142) (by decide +kernel))) rfl
theorem tw_2_144 : (Jvm.Cond.instanceMethod ({ cls := "BatonKernel", name := "waitForCondition", desc := "(LBatonKernel$Proc;)Z" } : Jvm.MethodName)) ∈ lw_g := lw_gd (lw_in2 (List.mem_of_getElem? (i := 144) (by decide +kernel))) rfl
theorem tw_2_146 : (Jvm.Cond.methodLink "BatonKernel" (241 : Nat) ({ cls := "BatonKernel", name := "activate", desc := "(II)Z" } : Jvm.MethodName)) ∈ lw_g := lw_gd (lw_in2 (List.mem_of_getElem? (i := 146) (by decide +kernel))) rfl
theorem tw_2_147 : (Jvm.Cond.methodLink "BatonKernel" (248 : Nat) ({ cls := "BatonKernel", name := "kill", desc := "(I)Z" } : Jvm.MethodName)) ∈ lw_g := lw_gd (lw_in2 (List.mem_of_getElem? (i := 147) (by decide +kernel))) rfl
theorem tw_2_148 : (Jvm.Cond.methodLink "BatonKernel" (214 : Nat) ({ cls := "BatonKernel$Proc", name := "beginRound", desc := "()Z" } : Jvm.MethodName)) ∈ lw_g := lw_gd (lw_in2 (List.mem_of_getElem? (i := 148) (by decide +kernel))) rfl
theorem tw_2_149 : (Jvm.Cond.instanceMethod ({ cls := "BatonKernel$Proc", name := "beginRound", desc := "()Z" } : Jvm.MethodName)) ∈ lw_g := lw_gd (lw_in2 (List.mem_of_getElem? (i := 149) (by decide +kernel))) rfl
theorem tw_2_150 : (Jvm.Cond.selects "BatonKernel$Proc" ({ cls := "BatonKernel$Proc", name := "beginRound", desc := "()Z" } : Jvm.MethodName) ({ cls := "BatonKernel$Proc", name := "beginRound", desc := "()Z" } : Jvm.MethodName)) ∈ lw_g := lw_gd (lw_in2 (List.mem_of_getElem? (i := 150) (by decide +kernel))) rfl
theorem tw_2_152 : (Jvm.Cond.methodLink "BatonKernel" (167 : Nat) ({ cls := "BatonKernel", name := "goOverConditions", desc := "()V" } : Jvm.MethodName)) ∈ lw_g := lw_gd (lw_in2 (List.mem_of_getElem? (i := 152) (by decide +kernel))) rfl
theorem tw_2_154 : (Jvm.Cond.instanceMethod ({ cls := "BatonKernel", name := "goOverConditions", desc := "()V" } : Jvm.MethodName)) ∈ lw_g := lw_gd (lw_in2 (List.mem_of_getElem? (i := 154) (by decide +kernel))) rfl
theorem tw_2_156 : (Jvm.Cond.methodLink "BatonKernelLaw" (54 : Nat) ({ cls := "BatonKernel", name := "now", desc := "()J" } : Jvm.MethodName)) ∈ lw_g := lw_gd (lw_in2 (List.mem_of_getElem? (i := 156) (by decide +kernel))) rfl
theorem tw_2_157 : (Jvm.Cond.instanceMethod ({ cls := "BatonKernel", name := "now", desc := "()J" } : Jvm.MethodName)) ∈ lw_g := lw_gd (lw_in2 (List.mem_of_getElem? (i := 157) (by decide +kernel))) rfl
theorem tw_2_158 : (Jvm.Cond.selects "BatonKernel" ({ cls := "BatonKernel", name := "now", desc := "()J" } : Jvm.MethodName) ({ cls := "BatonKernel", name := "now", desc := "()J" } : Jvm.MethodName)) ∈ lw_g := lw_gd (lw_in2 (List.mem_of_getElem? (i := 158) (by decide +kernel))) rfl
theorem tw_2_160 : (Jvm.Cond.methodLink "BatonKernelLaw" (59 : Nat) ({ cls := "BatonKernel", name := "next", desc := "()J" } : Jvm.MethodName)) ∈ lw_g := lw_gd (lw_in2 (List.mem_of_getElem? (i := 160) (by decide +kernel))) rfl
theorem tw_2_161 : (Jvm.Cond.instanceMethod ({ cls := "BatonKernel", name := "next", desc := "()J" } : Jvm.MethodName)) ∈ lw_g := lw_gd (lw_in2 (List.mem_of_getElem? (i := 161) (by decide +kernel))) rfl
theorem tw_2_162 : (Jvm.Cond.selects "BatonKernel" ({ cls := "BatonKernel", name := "next", desc := "()J" } : Jvm.MethodName) ({ cls := "BatonKernel", name := "next", desc := "()J" } : Jvm.MethodName)) ∈ lw_g := lw_gd (lw_in2 (List.mem_of_getElem? (i := 162) (by decide +kernel))) rfl
theorem tw_2_164 : (Jvm.Cond.constantLong "BatonKernel" (174 : Nat) (-1 : Int64)) ∈ lw_g := lw_gd (lw_in2 (List.mem_of_getElem? (i := 164) (by decide +kernel))) rfl
theorem tw_2_165 : (Jvm.Cond.methodLink "BatonKernelLaw" (63 : Nat) ({ cls := "BatonKernel", name := "state", desc := "(I)I" } : Jvm.MethodName)) ∈ lw_g := lw_gd (lw_in2 (List.mem_of_getElem? (i := 165) (by decide +kernel))) rfl
theorem tw_2_166 : (Jvm.Cond.instanceMethod ({ cls := "BatonKernel", name := "state", desc := "(I)I" } : Jvm.MethodName)) ∈ lw_g := lw_gd (lw_in2 (List.mem_of_getElem? (i := 166) (by decide +kernel))) rfl
theorem tw_2_167 : (Jvm.Cond.selects "BatonKernel" ({ cls := "BatonKernel", name := "state", desc := "(I)I" } : Jvm.MethodName) ({ cls := "BatonKernel", name := "state", desc := "(I)I" } : Jvm.MethodName)) ∈ lw_g := lw_gd (lw_in2 (List.mem_of_getElem? (i := 167) (by decide +kernel))) rfl
theorem tw_2_169 : (Jvm.Cond.methodLink "BatonKernelLaw" (68 : Nat) ({ cls := "BatonKernel", name := "place", desc := "(I)I" } : Jvm.MethodName)) ∈ lw_g := lw_gd (lw_in2 (List.mem_of_getElem? (i := 169) (by decide +kernel))) rfl
theorem tw_2_170 : (Jvm.Cond.instanceMethod ({ cls := "BatonKernel", name := "place", desc := "(I)I" } : Jvm.MethodName)) ∈ lw_g := lw_gd (lw_in2 (List.mem_of_getElem? (i := 170) (by decide +kernel))) rfl
theorem tw_2_171 : (Jvm.Cond.selects "BatonKernel" ({ cls := "BatonKernel", name := "place", desc := "(I)I" } : Jvm.MethodName) ({ cls := "BatonKernel", name := "place", desc := "(I)I" } : Jvm.MethodName)) ∈ lw_g := lw_gd (lw_in2 (List.mem_of_getElem? (i := 171) (by decide +kernel))) rfl
theorem tw_2_173 : (Jvm.Cond.methodLink "BatonKernelLaw" (72 : Nat) ({ cls := "BatonKernel", name := "held", desc := "(II)I" } : Jvm.MethodName)) ∈ lw_g := lw_gd (lw_in2 (List.mem_of_getElem? (i := 173) (by decide +kernel))) rfl
theorem tw_2_174 : (Jvm.Cond.instanceMethod ({ cls := "BatonKernel", name := "held", desc := "(II)I" } : Jvm.MethodName)) ∈ lw_g := lw_gd (lw_in2 (List.mem_of_getElem? (i := 174) (by decide +kernel))) rfl
theorem tw_2_175 : (Jvm.Cond.selects "BatonKernel" ({ cls := "BatonKernel", name := "held", desc := "(II)I" } : Jvm.MethodName) ({ cls := "BatonKernel", name := "held", desc := "(II)I" } : Jvm.MethodName)) ∈ lw_g := lw_gd (lw_in2 (List.mem_of_getElem? (i := 175) (by decide +kernel))) rfl
theorem tw_2_177 : (Jvm.Cond.methodLink "BatonKernelLaw" (77 : Nat) ({ cls := "BatonKernel", name := "free", desc := "(I)I" } : Jvm.MethodName)) ∈ lw_g := lw_gd (lw_in2 (List.mem_of_getElem? (i := 177) (by decide +kernel))) rfl
theorem tw_2_178 : (Jvm.Cond.instanceMethod ({ cls := "BatonKernel", name := "free", desc := "(I)I" } : Jvm.MethodName)) ∈ lw_g := lw_gd (lw_in2 (List.mem_of_getElem? (i := 178) (by decide +kernel))) rfl
theorem tw_2_179 : (Jvm.Cond.selects "BatonKernel" ({ cls := "BatonKernel", name := "free", desc := "(I)I" } : Jvm.MethodName) ({ cls := "BatonKernel", name := "free", desc := "(I)I" } : Jvm.MethodName)) ∈ lw_g := lw_gd (lw_in2 (List.mem_of_getElem? (i := 179) (by decide +kernel))) rfl
theorem tw_2_181 : (Jvm.Cond.methodLink "BatonKernelLaw" (81 : Nat) ({ cls := "BatonKernel", name := "waiting", desc := "(I)I" } : Jvm.MethodName)) ∈ lw_g := lw_gd (lw_in2 (List.mem_of_getElem? (i := 181) (by decide +kernel))) rfl
theorem tw_2_182 : (Jvm.Cond.instanceMethod ({ cls := "BatonKernel", name := "waiting", desc := "(I)I" } : Jvm.MethodName)) ∈ lw_g := lw_gd (lw_in2 (List.mem_of_getElem? (i := 182) (by decide +kernel))) rfl
theorem tw_2_183 : (Jvm.Cond.selects "BatonKernel" ({ cls := "BatonKernel", name := "waiting", desc := "(I)I" } : Jvm.MethodName) ({ cls := "BatonKernel", name := "waiting", desc := "(I)I" } : Jvm.MethodName)) ∈ lw_g := lw_gd (lw_in2 (List.mem_of_getElem? (i := 183) (by decide +kernel))) rfl
theorem tw_2_185 : (Jvm.Cond.methodLink "BatonKernelLaw" (85 : Nat) ({ cls := "BatonKernel", name := "area", desc := "(I)J" } : Jvm.MethodName)) ∈ lw_g := lw_gd (lw_in2 (List.mem_of_getElem? (i := 185) (by decide +kernel))) rfl
theorem tw_2_186 : (Jvm.Cond.instanceMethod ({ cls := "BatonKernel", name := "area", desc := "(I)J" } : Jvm.MethodName)) ∈ lw_g := lw_gd (lw_in2 (List.mem_of_getElem? (i := 186) (by decide +kernel))) rfl
theorem tw_2_187 : (Jvm.Cond.selects "BatonKernel" ({ cls := "BatonKernel", name := "area", desc := "(I)J" } : Jvm.MethodName) ({ cls := "BatonKernel", name := "area", desc := "(I)J" } : Jvm.MethodName)) ∈ lw_g := lw_gd (lw_in2 (List.mem_of_getElem? (i := 187) (by decide +kernel))) rfl
theorem tw_2_189 : (Jvm.Cond.methodLink "BatonKernelLaw" (90 : Nat) ({ cls := "BatonKernel", name := "waited", desc := "(I)J" } : Jvm.MethodName)) ∈ lw_g := lw_gd (lw_in2 (List.mem_of_getElem? (i := 189) (by decide +kernel))) rfl
theorem tw_2_190 : (Jvm.Cond.instanceMethod ({ cls := "BatonKernel", name := "waited", desc := "(I)J" } : Jvm.MethodName)) ∈ lw_g := lw_gd (lw_in2 (List.mem_of_getElem? (i := 190) (by decide +kernel))) rfl
theorem tw_2_191 : (Jvm.Cond.selects "BatonKernel" ({ cls := "BatonKernel", name := "waited", desc := "(I)J" } : Jvm.MethodName) ({ cls := "BatonKernel", name := "waited", desc := "(I)J" } : Jvm.MethodName)) ∈ lw_g := lw_gd (lw_in2 (List.mem_of_getElem? (i := 191) (by decide +kernel))) rfl
theorem tw_2_193 : (Jvm.Cond.methodLink "BatonKernelLaw" (94 : Nat) ({ cls := "BatonKernel", name := "level", desc := "(I)I" } : Jvm.MethodName)) ∈ lw_g := lw_gd (lw_in2 (List.mem_of_getElem? (i := 193) (by decide +kernel))) rfl
theorem tw_2_194 : (Jvm.Cond.instanceMethod ({ cls := "BatonKernel", name := "level", desc := "(I)I" } : Jvm.MethodName)) ∈ lw_g := lw_gd (lw_in2 (List.mem_of_getElem? (i := 194) (by decide +kernel))) rfl
theorem tw_2_195 : (Jvm.Cond.selects "BatonKernel" ({ cls := "BatonKernel", name := "level", desc := "(I)I" } : Jvm.MethodName) ({ cls := "BatonKernel", name := "level", desc := "(I)I" } : Jvm.MethodName)) ∈ lw_g := lw_gd (lw_in2 (List.mem_of_getElem? (i := 195) (by decide +kernel))) rfl
theorem tw_2_197 : (Jvm.Cond.methodLink "BatonKernelLaw" (98 : Nat) ({ cls := "BatonKernel", name := "stuck", desc := "()Z" } : Jvm.MethodName)) ∈ lw_g := lw_gd (lw_in2 (List.mem_of_getElem? (i := 197) (by decide +kernel))) rfl
theorem tw_2_198 : (Jvm.Cond.instanceMethod ({ cls := "BatonKernel", name := "stuck", desc := "()Z" } : Jvm.MethodName)) ∈ lw_g := lw_gd (lw_in2 (List.mem_of_getElem? (i := 198) (by decide +kernel))) rfl
theorem tw_2_199 : (Jvm.Cond.selects "BatonKernel" ({ cls := "BatonKernel", name := "stuck", desc := "()Z" } : Jvm.MethodName) ({ cls := "BatonKernel", name := "stuck", desc := "()Z" } : Jvm.MethodName)) ∈ lw_g := lw_gd (lw_in2 (List.mem_of_getElem? (i := 199) (by decide +kernel))) rfl
theorem tw_2_201 : (Jvm.Cond.methodLink "BatonKernelLaw" (103 : Nat) ({ cls := "BatonKernel", name := "traced", desc := "(I)I" } : Jvm.MethodName)) ∈ lw_g := lw_gd (lw_in2 (List.mem_of_getElem? (i := 201) (by decide +kernel))) rfl
theorem tw_2_202 : (Jvm.Cond.instanceMethod ({ cls := "BatonKernel", name := "traced", desc := "(I)I" } : Jvm.MethodName)) ∈ lw_g := lw_gd (lw_in2 (List.mem_of_getElem? (i := 202) (by decide +kernel))) rfl
theorem tw_2_203 : (Jvm.Cond.selects "BatonKernel" ({ cls := "BatonKernel", name := "traced", desc := "(I)I" } : Jvm.MethodName) ({ cls := "BatonKernel", name := "traced", desc := "(I)I" } : Jvm.MethodName)) ∈ lw_g := lw_gd (lw_in2 (List.mem_of_getElem? (i := 203) (by decide +kernel))) rfl
theorem tw_2_205 : (Jvm.Cond.methodLink "BatonKernel" (194 : Nat) ({ cls := "BatonKernel$Trace", name := "before", desc := "(I)I" } : Jvm.MethodName)) ∈ lw_g := lw_gd (lw_in2 (List.mem_of_getElem? (i := 205) (by decide +kernel))) rfl
theorem tw_2_206 : (Jvm.Cond.instanceMethod ({ cls := "BatonKernel$Trace", name := "before", desc := "(I)I" } : Jvm.MethodName)) ∈ lw_g := lw_gd (lw_in2 (List.mem_of_getElem? (i := 206) (by decide +kernel))) rfl
theorem tw_2_207 : (Jvm.Cond.selects "BatonKernel$Trace" ({ cls := "BatonKernel$Trace", name := "before", desc := "(I)I" } : Jvm.MethodName) ({ cls := "BatonKernel$Trace", name := "before", desc := "(I)I" } : Jvm.MethodName)) ∈ lw_g := lw_gd (lw_in2 (List.mem_of_getElem? (i := 207) (by decide +kernel))) rfl
theorem tw_2_209 : (Jvm.Cond.classLink "BatonKernelLaw" (10 : Nat) "BatonKernelModel") ∈ lw_g := lw_gd (lw_in2 (List.mem_of_getElem? (i := 209) (by decide +kernel))) rfl
theorem tw_2_210 : (Jvm.Cond.instantiable "BatonKernelModel" (27 : Nat)) ∈ lw_g := lw_gd (lw_in2 (List.mem_of_getElem? (i := 210) (by decide +kernel))) rfl
theorem tw_2_211 : (Jvm.Cond.methodLink "BatonKernelLaw" (12 : Nat) ({ cls := "BatonKernelModel", name := "<init>", desc := "()V" } : Jvm.MethodName)) ∈ lw_g := lw_gd (lw_in2 (List.mem_of_getElem? (i := 211) (by decide +kernel))) rfl
theorem tw_2_212 : (Jvm.Cond.instanceMethod ({ cls := "BatonKernelModel", name := "<init>", desc := "()V" } : Jvm.MethodName)) ∈ lw_g := lw_gd (lw_in2 (List.mem_of_getElem? (i := 212) (by decide +kernel))) rfl
theorem tw_2_214 : (Jvm.Cond.methodLink "BatonKernelModel" (1 : Nat) ({ cls := "java/lang/Object", name := "<init>", desc := "()V" } : Jvm.MethodName)) ∈ lw_g := lw_gd (lw_in2 (List.mem_of_getElem? (i := 214) (by decide +kernel))) rfl
theorem tw_2_215 : (Jvm.Cond.fieldLink "BatonKernelModel" (78 : Nat) "BatonKernelModel" "count" "I") ∈ lw_g := lw_gd (lw_in2 (List.mem_of_getElem? (i := 215) (by decide +kernel))) rfl
theorem tw_2_216 : (Jvm.Cond.fieldLink "BatonKernelModel" (102 : Nat) "BatonKernelModel" "order" "I") ∈ lw_g := lw_gd (lw_in2 (List.mem_of_getElem? (i := 216) (by decide +kernel))) rfl
theorem tw_2_217 : (Jvm.Cond.fieldLink "BatonKernelModel" (134 : Nat) "BatonKernelModel" "coming" "I") ∈ lw_g := lw_gd (lw_in2 (List.mem_of_getElem? (i := 217) (by decide +kernel))) rfl
theorem tw_2_218 : (Jvm.Cond.fieldLink "BatonKernelModel" (168 : Nat) "BatonKernelModel" "events" "I") ∈ lw_g := lw_gd (lw_in2 (List.mem_of_getElem? (i := 218) (by decide +kernel))) rfl
theorem tw_2_219 : (Jvm.Cond.fieldLink "BatonKernelModel" (118 : Nat) "BatonKernelModel" "clock" "J") ∈ lw_g := lw_gd (lw_in2 (List.mem_of_getElem? (i := 219) (by decide +kernel))) rfl
theorem tw_2_220 : (Jvm.Cond.fieldLink "BatonKernelModel" (7 : Nat) "BatonKernelModel" "priority" "[I") ∈ lw_g := lw_gd (lw_in2 (List.mem_of_getElem? (i := 220) (by decide +kernel))) rfl
theorem tw_2_221 : (Jvm.Cond.fieldLink "BatonKernelModel" (13 : Nat) "BatonKernelModel" "rounds" "[I") ∈ lw_g := lw_gd (lw_in2 (List.mem_of_getElem? (i := 221) (by decide +kernel))) rfl
theorem tw_2_222 : (Jvm.Cond.fieldLink "BatonKernelModel" (16 : Nat) "BatonKernelModel" "handler" "[I") ∈ lw_g := lw_gd (lw_in2 (List.mem_of_getElem? (i := 222) (by decide +kernel))) rfl
theorem tw_2_223 : (Jvm.Cond.fieldLink "BatonKernelModel" (19 : Nat) "BatonKernelModel" "length" "[I") ∈ lw_g := lw_gd (lw_in2 (List.mem_of_getElem? (i := 223) (by decide +kernel))) rfl
theorem tw_2_224 : (Jvm.Cond.fieldLink "BatonKernelModel" (22 : Nat) "BatonKernelModel" "spot" "[I") ∈ lw_g := lw_gd (lw_in2 (List.mem_of_getElem? (i := 224) (by decide +kernel))) rfl
theorem tw_2_225 : (Jvm.Cond.fieldLink "BatonKernelModel" (25 : Nat) "BatonKernelModel" "mode" "[I") ∈ lw_g := lw_gd (lw_in2 (List.mem_of_getElem? (i := 225) (by decide +kernel))) rfl
theorem tw_2_226 : (Jvm.Cond.fieldLink "BatonKernelModel" (28 : Nat) "BatonKernelModel" "time" "[J") ∈ lw_g := lw_gd (lw_in2 (List.mem_of_getElem? (i := 226) (by decide +kernel))) rfl
theorem tw_2_227 : (Jvm.Cond.fieldLink "BatonKernelModel" (32 : Nat) "BatonKernelModel" "entry" "[I") ∈ lw_g := lw_gd (lw_in2 (List.mem_of_getElem? (i := 227) (by decide +kernel))) rfl
theorem tw_2_228 : (Jvm.Cond.fieldLink "BatonKernelModel" (35 : Nat) "BatonKernelModel" "came" "[I") ∈ lw_g := lw_gd (lw_in2 (List.mem_of_getElem? (i := 228) (by decide +kernel))) rfl
theorem tw_2_229 : (Jvm.Cond.fieldLink "BatonKernelModel" (38 : Nat) "BatonKernelModel" "since" "[J") ∈ lw_g := lw_gd (lw_in2 (List.mem_of_getElem? (i := 229) (by decide +kernel))) rfl
theorem tw_2_230 : (Jvm.Cond.fieldLink "BatonKernelModel" (41 : Nat) "BatonKernelModel" "op" "[I") ∈ lw_g := lw_gd (lw_in2 (List.mem_of_getElem? (i := 230) (by decide +kernel))) rfl
theorem tw_2_231 : (Jvm.Cond.fieldLink "BatonKernelModel" (44 : Nat) "BatonKernelModel" "argA" "[I") ∈ lw_g := lw_gd (lw_in2 (List.mem_of_getElem? (i := 231) (by decide +kernel))) rfl
theorem tw_2_232 : (Jvm.Cond.fieldLink "BatonKernelModel" (47 : Nat) "BatonKernelModel" "argB" "[I") ∈ lw_g := lw_gd (lw_in2 (List.mem_of_getElem? (i := 232) (by decide +kernel))) rfl
theorem tw_2_233 : (Jvm.Cond.fieldLink "BatonKernelModel" (50 : Nat) "BatonKernelModel" "has" "[I") ∈ lw_g := lw_gd (lw_in2 (List.mem_of_getElem? (i := 233) (by decide +kernel))) rfl
theorem tw_2_234 : (Jvm.Cond.fieldLink "BatonKernelModel" (53 : Nat) "BatonKernelModel" "units" "[I") ∈ lw_g := lw_gd (lw_in2 (List.mem_of_getElem? (i := 234) (by decide +kernel))) rfl
theorem tw_2_235 : (Jvm.Cond.fieldLink "BatonKernelModel" (56 : Nat) "BatonKernelModel" "strong" "[Z") ∈ lw_g := lw_gd (lw_in2 (List.mem_of_getElem? (i := 235) (by decide +kernel))) rfl
theorem tw_2_236 : (Jvm.Cond.fieldLink "BatonKernelModel" (60 : Nat) "BatonKernelModel" "sum" "[J") ∈ lw_g := lw_gd (lw_in2 (List.mem_of_getElem? (i := 236) (by decide +kernel))) rfl
theorem tw_2_237 : (Jvm.Cond.fieldLink "BatonKernelModel" (63 : Nat) "BatonKernelModel" "lined" "[J") ∈ lw_g := lw_gd (lw_in2 (List.mem_of_getElem? (i := 237) (by decide +kernel))) rfl
theorem tw_2_238 : (Jvm.Cond.fieldLink "BatonKernelModel" (66 : Nat) "BatonKernelModel" "most" "[I") ∈ lw_g := lw_gd (lw_in2 (List.mem_of_getElem? (i := 238) (by decide +kernel))) rfl
theorem tw_2_239 : (Jvm.Cond.fieldLink "BatonKernelModel" (69 : Nat) "BatonKernelModel" "full" "[I") ∈ lw_g := lw_gd (lw_in2 (List.mem_of_getElem? (i := 239) (by decide +kernel))) rfl
theorem tw_3_0 : (Jvm.Cond.fieldLink "BatonKernelModel" (72 : Nat) "BatonKernelModel" "lost" "[I") ∈ lw_g := lw_gd (lw_in3 (List.mem_of_getElem? (i := 0) (by decide +kernel))) rfl
theorem tw_3_1 : (Jvm.Cond.fieldLink "BatonKernelModel" (75 : Nat) "BatonKernelModel" "trace" "[I") ∈ lw_g := lw_gd (lw_in3 (List.mem_of_getElem? (i := 1) (by decide +kernel))) rfl
theorem tw_3_2 : (Jvm.Cond.lays "BatonKernelModel" "BatonKernelModel" "count" "I") ∈ lw_g := lw_gd (lw_in3 (List.mem_of_getElem? (i := 2) (by decide +kernel))) rfl
theorem tw_3_4 : (Jvm.Cond.lays "BatonKernelModel" "BatonKernelModel" "order" "I") ∈ lw_g := lw_gd (lw_in3 (List.mem_of_getElem? (i := 4) (by decide +kernel))) rfl
theorem tw_3_6 : (Jvm.Cond.lays "BatonKernelModel" "BatonKernelModel" "coming" "I") ∈ lw_g := lw_gd (lw_in3 (List.mem_of_getElem? (i := 6) (by decide +kernel))) rfl
theorem tw_3_8 : (Jvm.Cond.lays "BatonKernelModel" "BatonKernelModel" "events" "I") ∈ lw_g := lw_gd (lw_in3 (List.mem_of_getElem? (i := 8) (by decide +kernel))) rfl
theorem tw_3_10 : (Jvm.Cond.lays "BatonKernelModel" "BatonKernelModel" "clock" "J") ∈ lw_g := lw_gd (lw_in3 (List.mem_of_getElem? (i := 10) (by decide +kernel))) rfl
theorem tw_3_12 : (Jvm.Cond.lays "BatonKernelModel" "BatonKernelModel" "priority" "[I") ∈ lw_g := lw_gd (lw_in3 (List.mem_of_getElem? (i := 12) (by decide +kernel))) rfl
theorem tw_3_14 : (Jvm.Cond.lays "BatonKernelModel" "BatonKernelModel" "rounds" "[I") ∈ lw_g := lw_gd (lw_in3 (List.mem_of_getElem? (i := 14) (by decide +kernel))) rfl
theorem tw_3_16 : (Jvm.Cond.lays "BatonKernelModel" "BatonKernelModel" "handler" "[I") ∈ lw_g := lw_gd (lw_in3 (List.mem_of_getElem? (i := 16) (by decide +kernel))) rfl
theorem tw_3_18 : (Jvm.Cond.lays "BatonKernelModel" "BatonKernelModel" "length" "[I") ∈ lw_g := lw_gd (lw_in3 (List.mem_of_getElem? (i := 18) (by decide +kernel))) rfl
theorem tw_3_20 : (Jvm.Cond.lays "BatonKernelModel" "BatonKernelModel" "spot" "[I") ∈ lw_g := lw_gd (lw_in3 (List.mem_of_getElem? (i := 20) (by decide +kernel))) rfl
theorem tw_3_22 : (Jvm.Cond.lays "BatonKernelModel" "BatonKernelModel" "mode" "[I") ∈ lw_g := lw_gd (lw_in3 (List.mem_of_getElem? (i := 22) (by decide +kernel))) rfl
theorem tw_3_24 : (Jvm.Cond.lays "BatonKernelModel" "BatonKernelModel" "time" "[J") ∈ lw_g := lw_gd (lw_in3 (List.mem_of_getElem? (i := 24) (by decide +kernel))) rfl
theorem tw_3_26 : (Jvm.Cond.lays "BatonKernelModel" "BatonKernelModel" "entry" "[I") ∈ lw_g := lw_gd (lw_in3 (List.mem_of_getElem? (i := 26) (by decide +kernel))) rfl
theorem tw_3_28 : (Jvm.Cond.lays "BatonKernelModel" "BatonKernelModel" "came" "[I") ∈ lw_g := lw_gd (lw_in3 (List.mem_of_getElem? (i := 28) (by decide +kernel))) rfl
theorem tw_3_30 : (Jvm.Cond.lays "BatonKernelModel" "BatonKernelModel" "since" "[J") ∈ lw_g := lw_gd (lw_in3 (List.mem_of_getElem? (i := 30) (by decide +kernel))) rfl
theorem tw_3_32 : (Jvm.Cond.lays "BatonKernelModel" "BatonKernelModel" "op" "[I") ∈ lw_g := lw_gd (lw_in3 (List.mem_of_getElem? (i := 32) (by decide +kernel))) rfl
theorem tw_3_34 : (Jvm.Cond.lays "BatonKernelModel" "BatonKernelModel" "argA" "[I") ∈ lw_g := lw_gd (lw_in3 (List.mem_of_getElem? (i := 34) (by decide +kernel))) rfl
theorem tw_3_36 : (Jvm.Cond.lays "BatonKernelModel" "BatonKernelModel" "argB" "[I") ∈ lw_g := lw_gd (lw_in3 (List.mem_of_getElem? (i := 36) (by decide +kernel))) rfl
theorem tw_3_38 : (Jvm.Cond.lays "BatonKernelModel" "BatonKernelModel" "has" "[I") ∈ lw_g := lw_gd (lw_in3 (List.mem_of_getElem? (i := 38) (by decide +kernel))) rfl
theorem tw_3_40 : (Jvm.Cond.lays "BatonKernelModel" "BatonKernelModel" "units" "[I") ∈ lw_g := lw_gd (lw_in3 (List.mem_of_getElem? (i := 40) (by decide +kernel))) rfl
theorem tw_3_42 : (Jvm.Cond.lays "BatonKernelModel" "BatonKernelModel" "strong" "[Z") ∈ lw_g := lw_gd (lw_in3 (List.mem_of_getElem? (i := 42) (by decide +kernel))) rfl
theorem tw_3_44 : (Jvm.Cond.lays "BatonKernelModel" "BatonKernelModel" "sum" "[J") ∈ lw_g := lw_gd (lw_in3 (List.mem_of_getElem? (i := 44) (by decide +kernel))) rfl
theorem tw_3_46 : (Jvm.Cond.lays "BatonKernelModel" "BatonKernelModel" "lined" "[J") ∈ lw_g := lw_gd (lw_in3 (List.mem_of_getElem? (i := 46) (by decide +kernel))) rfl
theorem tw_3_48 : (Jvm.Cond.lays "BatonKernelModel" "BatonKernelModel" "most" "[I") ∈ lw_g := lw_gd (lw_in3 (List.mem_of_getElem? (i := 48) (by decide +kernel))) rfl
theorem tw_3_50 : (Jvm.Cond.lays "BatonKernelModel" "BatonKernelModel" "full" "[I") ∈ lw_g := lw_gd (lw_in3 (List.mem_of_getElem? (i := 50) (by decide +kernel))) rfl
theorem tw_3_52 : (Jvm.Cond.lays "BatonKernelModel" "BatonKernelModel" "lost" "[I") ∈ lw_g := lw_gd (lw_in3 (List.mem_of_getElem? (i := 52) (by decide +kernel))) rfl
theorem tw_3_54 : (Jvm.Cond.lays "BatonKernelModel" "BatonKernelModel" "trace" "[I") ∈ lw_g := lw_gd (lw_in3 (List.mem_of_getElem? (i := 54) (by decide +kernel))) rfl
theorem tw_3_57 : (Jvm.Cond.arrayClass Jvm.ClassFile.FieldType.long) ∈ lw_g := lw_gd (lw_in3 (List.mem_of_getElem? (i := 57) (by decide +kernel))) rfl
theorem tw_3_58 : (Jvm.Cond.arrayClass Jvm.ClassFile.FieldType.boolean) ∈ lw_g := lw_gd (lw_in3 (List.mem_of_getElem? (i := 58) (by decide +kernel))) rfl
theorem tw_3_59 : (Jvm.Cond.methodLink "BatonKernelLaw" (17 : Nat) ({ cls := "BatonKernelModel", name := "process", desc := "(III)I" } : Jvm.MethodName)) ∈ lw_g := lw_gd (lw_in3 (List.mem_of_getElem? (i := 59) (by decide +kernel))) rfl
theorem tw_3_60 : (Jvm.Cond.instanceMethod ({ cls := "BatonKernelModel", name := "process", desc := "(III)I" } : Jvm.MethodName)) ∈ lw_g := lw_gd (lw_in3 (List.mem_of_getElem? (i := 60) (by decide +kernel))) rfl
theorem tw_3_61 : (Jvm.Cond.selects "BatonKernelModel" ({ cls := "BatonKernelModel", name := "process", desc := "(III)I" } : Jvm.MethodName) ({ cls := "BatonKernelModel", name := "process", desc := "(III)I" } : Jvm.MethodName)) ∈ lw_g := lw_gd (lw_in3 (List.mem_of_getElem? (i := 61) (by decide +kernel))) rfl
theorem tw_3_63 : (Jvm.Cond.methodLink "BatonKernelLaw" (22 : Nat) ({ cls := "BatonKernelModel", name := "instruct", desc := "(IIII)Z" } : Jvm.MethodName)) ∈ lw_g := lw_gd (lw_in3 (List.mem_of_getElem? (i := 63) (by decide +kernel))) rfl
theorem tw_3_64 : (Jvm.Cond.instanceMethod ({ cls := "BatonKernelModel", name := "instruct", desc := "(IIII)Z" } : Jvm.MethodName)) ∈ lw_g := lw_gd (lw_in3 (List.mem_of_getElem? (i := 64) (by decide +kernel))) rfl
theorem tw_3_65 : (Jvm.Cond.selects "BatonKernelModel" ({ cls := "BatonKernelModel", name := "instruct", desc := "(IIII)Z" } : Jvm.MethodName) ({ cls := "BatonKernelModel", name := "instruct", desc := "(IIII)Z" } : Jvm.MethodName)) ∈ lw_g := lw_gd (lw_in3 (List.mem_of_getElem? (i := 65) (by decide +kernel))) rfl
theorem tw_3_67 : (Jvm.Cond.methodLink "BatonKernelModel" (87 : Nat) ({ cls := "BatonKernelModel", name := "none", desc := "(I)Z" } : Jvm.MethodName)) ∈ lw_g := lw_gd (lw_in3 (List.mem_of_getElem? (i := 67) (by decide +kernel))) rfl
theorem tw_3_69 : (Jvm.Cond.instanceMethod ({ cls := "BatonKernelModel", name := "none", desc := "(I)Z" } : Jvm.MethodName)) ∈ lw_g := lw_gd (lw_in3 (List.mem_of_getElem? (i := 69) (by decide +kernel))) rfl
theorem tw_3_71 : (Jvm.Cond.methodLink "BatonKernelModel" (83 : Nat) ({ cls := "BatonKernelModel", name := "within", desc := "(III)Z" } : Jvm.MethodName)) ∈ lw_g := lw_gd (lw_in3 (List.mem_of_getElem? (i := 71) (by decide +kernel))) rfl
theorem tw_3_73 : (Jvm.Cond.instanceMethod ({ cls := "BatonKernelModel", name := "within", desc := "(III)Z" } : Jvm.MethodName)) ∈ lw_g := lw_gd (lw_in3 (List.mem_of_getElem? (i := 73) (by decide +kernel))) rfl
theorem tw_3_75 : (Jvm.Cond.methodLink "BatonKernelModel" (91 : Nat) ({ cls := "BatonKernelModel", name := "fits", desc := "(III)Z" } : Jvm.MethodName)) ∈ lw_g := lw_gd (lw_in3 (List.mem_of_getElem? (i := 75) (by decide +kernel))) rfl
theorem tw_3_77 : (Jvm.Cond.instanceMethod ({ cls := "BatonKernelModel", name := "fits", desc := "(III)Z" } : Jvm.MethodName)) ∈ lw_g := lw_gd (lw_in3 (List.mem_of_getElem? (i := 77) (by decide +kernel))) rfl
theorem tw_3_79 : (Jvm.Cond.constant "BatonKernelModel" (82 : Nat) (1000000 : Int32)) ∈ lw_g := lw_gd (lw_in3 (List.mem_of_getElem? (i := 79) (by decide +kernel))) rfl
theorem tw_3_80 : (Jvm.Cond.methodLink "BatonKernelLaw" (27 : Nat) ({ cls := "BatonKernelModel", name := "resource", desc := "(IIZ)Z" } : Jvm.MethodName)) ∈ lw_g := lw_gd (lw_in3 (List.mem_of_getElem? (i := 80) (by decide +kernel))) rfl
theorem tw_3_81 : (Jvm.Cond.instanceMethod ({ cls := "BatonKernelModel", name := "resource", desc := "(IIZ)Z" } : Jvm.MethodName)) ∈ lw_g := lw_gd (lw_in3 (List.mem_of_getElem? (i := 81) (by decide +kernel))) rfl
theorem tw_3_82 : (Jvm.Cond.selects "BatonKernelModel" ({ cls := "BatonKernelModel", name := "resource", desc := "(IIZ)Z" } : Jvm.MethodName) ({ cls := "BatonKernelModel", name := "resource", desc := "(IIZ)Z" } : Jvm.MethodName)) ∈ lw_g := lw_gd (lw_in3 (List.mem_of_getElem? (i := 82) (by decide +kernel))) rfl
theorem tw_3_84 : (Jvm.Cond.methodLink "BatonKernelModel" (94 : Nat) ({ cls := "BatonKernelModel", name := "seized", desc := "(I)I" } : Jvm.MethodName)) ∈ lw_g := lw_gd (lw_in3 (List.mem_of_getElem? (i := 84) (by decide +kernel))) rfl
theorem tw_3_86 : (Jvm.Cond.instanceMethod ({ cls := "BatonKernelModel", name := "seized", desc := "(I)I" } : Jvm.MethodName)) ∈ lw_g := lw_gd (lw_in3 (List.mem_of_getElem? (i := 86) (by decide +kernel))) rfl
theorem tw_3_88 : (Jvm.Cond.methodLink "BatonKernelModel" (98 : Nat) ({ cls := "BatonKernelModel", name := "serve", desc := "(I)V" } : Jvm.MethodName)) ∈ lw_g := lw_gd (lw_in3 (List.mem_of_getElem? (i := 88) (by decide +kernel))) rfl
theorem tw_3_90 : (Jvm.Cond.instanceMethod ({ cls := "BatonKernelModel", name := "serve", desc := "(I)V" } : Jvm.MethodName)) ∈ lw_g := lw_gd (lw_in3 (List.mem_of_getElem? (i := 90) (by decide +kernel))) rfl
theorem tw_3_92 : (Jvm.Cond.methodLink "BatonKernelModel" (112 : Nat) ({ cls := "BatonKernelModel", name := "head", desc := "(I)I" } : Jvm.MethodName)) ∈ lw_g := lw_gd (lw_in3 (List.mem_of_getElem? (i := 92) (by decide +kernel))) rfl
theorem tw_3_94 : (Jvm.Cond.instanceMethod ({ cls := "BatonKernelModel", name := "head", desc := "(I)I" } : Jvm.MethodName)) ∈ lw_g := lw_gd (lw_in3 (List.mem_of_getElem? (i := 94) (by decide +kernel))) rfl
theorem tw_3_96 : (Jvm.Cond.methodLink "BatonKernelModel" (109 : Nat) ({ cls := "BatonKernelModel", name := "done", desc := "(I)I" } : Jvm.MethodName)) ∈ lw_g := lw_gd (lw_in3 (List.mem_of_getElem? (i := 96) (by decide +kernel))) rfl
theorem tw_3_98 : (Jvm.Cond.instanceMethod ({ cls := "BatonKernelModel", name := "done", desc := "(I)I" } : Jvm.MethodName)) ∈ lw_g := lw_gd (lw_in3 (List.mem_of_getElem? (i := 98) (by decide +kernel))) rfl
theorem tw_3_100 : (Jvm.Cond.methodLink "BatonKernelModel" (115 : Nat) ({ cls := "BatonKernelModel", name := "rest", desc := "(I)I" } : Jvm.MethodName)) ∈ lw_g := lw_gd (lw_in3 (List.mem_of_getElem? (i := 100) (by decide +kernel))) rfl
theorem tw_3_102 : (Jvm.Cond.instanceMethod ({ cls := "BatonKernelModel", name := "rest", desc := "(I)I" } : Jvm.MethodName)) ∈ lw_g := lw_gd (lw_in3 (List.mem_of_getElem? (i := 102) (by decide +kernel))) rfl
theorem tw_3_104 : (Jvm.Cond.methodLink "BatonKernelModel" (122 : Nat) ({ cls := "BatonKernelModel", name := "enter", desc := "(IIJ)V" } : Jvm.MethodName)) ∈ lw_g := lw_gd (lw_in3 (List.mem_of_getElem? (i := 104) (by decide +kernel))) rfl
theorem tw_3_106 : (Jvm.Cond.instanceMethod ({ cls := "BatonKernelModel", name := "enter", desc := "(IIJ)V" } : Jvm.MethodName)) ∈ lw_g := lw_gd (lw_in3 (List.mem_of_getElem? (i := 106) (by decide +kernel))) rfl
theorem tw_3_108 : (Jvm.Cond.methodLink "BatonKernelLaw" (32 : Nat) ({ cls := "BatonKernelModel", name := "tank", desc := "(III)Z" } : Jvm.MethodName)) ∈ lw_g := lw_gd (lw_in3 (List.mem_of_getElem? (i := 108) (by decide +kernel))) rfl
theorem tw_3_109 : (Jvm.Cond.instanceMethod ({ cls := "BatonKernelModel", name := "tank", desc := "(III)Z" } : Jvm.MethodName)) ∈ lw_g := lw_gd (lw_in3 (List.mem_of_getElem? (i := 109) (by decide +kernel))) rfl
theorem tw_3_110 : (Jvm.Cond.selects "BatonKernelModel" ({ cls := "BatonKernelModel", name := "tank", desc := "(III)Z" } : Jvm.MethodName) ({ cls := "BatonKernelModel", name := "tank", desc := "(III)Z" } : Jvm.MethodName)) ∈ lw_g := lw_gd (lw_in3 (List.mem_of_getElem? (i := 110) (by decide +kernel))) rfl
theorem tw_3_112 : (Jvm.Cond.methodLink "BatonKernelLaw" (53 : Nat) ({ cls := "BatonKernelModel", name := "run", desc := "(IJ)I" } : Jvm.MethodName)) ∈ lw_g := lw_gd (lw_in3 (List.mem_of_getElem? (i := 112) (by decide +kernel))) rfl
theorem tw_3_113 : (Jvm.Cond.instanceMethod ({ cls := "BatonKernelModel", name := "run", desc := "(IJ)I" } : Jvm.MethodName)) ∈ lw_g := lw_gd (lw_in3 (List.mem_of_getElem? (i := 113) (by decide +kernel))) rfl
theorem tw_3_114 : (Jvm.Cond.selects "BatonKernelModel" ({ cls := "BatonKernelModel", name := "run", desc := "(IJ)I" } : Jvm.MethodName) ({ cls := "BatonKernelModel", name := "run", desc := "(IJ)I" } : Jvm.MethodName)) ∈ lw_g := lw_gd (lw_in3 (List.mem_of_getElem? (i := 114) (by decide +kernel))) rfl
theorem tw_3_116 : (Jvm.Cond.constantLong "BatonKernelModel" (177 : Nat) (1000000000000 : Int64)) ∈ lw_g := lw_gd (lw_in3 (List.mem_of_getElem? (i := 116) (by decide +kernel))) rfl
theorem tw_3_117 : (Jvm.Cond.methodLink "BatonKernelModel" (179 : Nat) ({ cls := "BatonKernelModel", name := "first", desc := "()I" } : Jvm.MethodName)) ∈ lw_g := lw_gd (lw_in3 (List.mem_of_getElem? (i := 117) (by decide +kernel))) rfl
theorem tw_3_119 : (Jvm.Cond.instanceMethod ({ cls := "BatonKernelModel", name := "first", desc := "()I" } : Jvm.MethodName)) ∈ lw_g := lw_gd (lw_in3 (List.mem_of_getElem? (i := 119) (by decide +kernel))) rfl
theorem tw_3_121 : (Jvm.Cond.methodLink "BatonKernelModel" (105 : Nat) ({ cls := "BatonKernelModel", name := "sooner", desc := "(II)Z" } : Jvm.MethodName)) ∈ lw_g := lw_gd (lw_in3 (List.mem_of_getElem? (i := 121) (by decide +kernel))) rfl
theorem tw_3_123 : (Jvm.Cond.instanceMethod ({ cls := "BatonKernelModel", name := "sooner", desc := "(II)Z" } : Jvm.MethodName)) ∈ lw_g := lw_gd (lw_in3 (List.mem_of_getElem? (i := 123) (by decide +kernel))) rfl
theorem tw_3_125 : (Jvm.Cond.methodLink "BatonKernelModel" (183 : Nat) ({ cls := "BatonKernelModel", name := "event", desc := "(I)V" } : Jvm.MethodName)) ∈ lw_g := lw_gd (lw_in3 (List.mem_of_getElem? (i := 125) (by decide +kernel))) rfl
theorem tw_3_127 : (Jvm.Cond.instanceMethod ({ cls := "BatonKernelModel", name := "event", desc := "(I)V" } : Jvm.MethodName)) ∈ lw_g := lw_gd (lw_in3 (List.mem_of_getElem? (i := 127) (by decide +kernel))) rfl
theorem tw_3_129 : (Jvm.Cond.methodLink "BatonKernelModel" (164 : Nat) ({ cls := "BatonKernelModel", name := "advance", desc := "(J)V" } : Jvm.MethodName)) ∈ lw_g := lw_gd (lw_in3 (List.mem_of_getElem? (i := 129) (by decide +kernel))) rfl
theorem tw_3_131 : (Jvm.Cond.instanceMethod ({ cls := "BatonKernelModel", name := "advance", desc := "(J)V" } : Jvm.MethodName)) ∈ lw_g := lw_gd (lw_in3 (List.mem_of_getElem? (i := 131) (by decide +kernel))) rfl
theorem tw_3_133 : (Jvm.Cond.methodLink "BatonKernelModel" (171 : Nat) ({ cls := "BatonKernelModel", name := "turn", desc := "(I)V" } : Jvm.MethodName)) ∈ lw_g := lw_gd (lw_in3 (List.mem_of_getElem? (i := 133) (by decide +kernel))) rfl
theorem tw_3_135 : (Jvm.Cond.instanceMethod ({ cls := "BatonKernelModel", name := "turn", desc := "(I)V" } : Jvm.MethodName)) ∈ lw_g := lw_gd (lw_in3 (List.mem_of_getElem? (i := 135) (by decide +kernel))) rfl
theorem tw_3_137 : (Jvm.Cond.methodLink "BatonKernelModel" (161 : Nat) ({ cls := "BatonKernelModel", name := "perform", desc := "(II)Z" } : Jvm.MethodName)) ∈ lw_g := lw_gd (lw_in3 (List.mem_of_getElem? (i := 137) (by decide +kernel))) rfl
theorem tw_3_139 : (Jvm.Cond.instanceMethod ({ cls := "BatonKernelModel", name := "perform", desc := "(II)Z" } : Jvm.MethodName)) ∈ lw_g := lw_gd (lw_in3 (List.mem_of_getElem? (i := 139) (by decide +kernel))) rfl
theorem tw_3_141 : (Jvm.Cond.methodLink "BatonKernelModel" (149 : Nat) ({ cls := "BatonKernelModel", name := "seize", desc := "(III)Z" } : Jvm.MethodName)) ∈ lw_g := lw_gd (lw_in3 (List.mem_of_getElem? (i := 141) (by decide +kernel))) rfl
theorem tw_3_143 : (Jvm.Cond.instanceMethod ({ cls := "BatonKernelModel", name := "seize", desc := "(III)Z" } : Jvm.MethodName)) ∈ lw_g := lw_gd (lw_in3 (List.mem_of_getElem? (i := 143) (by decide +kernel))) rfl
theorem tw_3_145 : (Jvm.Cond.methodLink "BatonKernelModel" (126 : Nat) ({ cls := "BatonKernelModel", name := "reach", desc := "(II)I" } : Jvm.MethodName)) ∈ lw_g := lw_gd (lw_in3 (List.mem_of_getElem? (i := 145) (by decide +kernel))) rfl
theorem tw_3_147 : (Jvm.Cond.instanceMethod ({ cls := "BatonKernelModel", name := "reach", desc := "(II)I" } : Jvm.MethodName)) ∈ lw_g := lw_gd (lw_in3 (List.mem_of_getElem? (i := 147) (by decide +kernel))) rfl
theorem tw_3_149 : (Jvm.Cond.methodLink "BatonKernelModel" (130 : Nat) ({ cls := "BatonKernelModel", name := "preempt", desc := "(III)V" } : Jvm.MethodName)) ∈ lw_g := lw_gd (lw_in3 (List.mem_of_getElem? (i := 149) (by decide +kernel))) rfl
theorem tw_3_151 : (Jvm.Cond.instanceMethod ({ cls := "BatonKernelModel", name := "preempt", desc := "(III)V" } : Jvm.MethodName)) ∈ lw_g := lw_gd (lw_in3 (List.mem_of_getElem? (i := 151) (by decide +kernel))) rfl
theorem tw_3_153 : (Jvm.Cond.methodLink "BatonKernelModel" (137 : Nat) ({ cls := "BatonKernelModel", name := "victim", desc := "(II)I" } : Jvm.MethodName)) ∈ lw_g := lw_gd (lw_in3 (List.mem_of_getElem? (i := 153) (by decide +kernel))) rfl
theorem tw_3_155 : (Jvm.Cond.instanceMethod ({ cls := "BatonKernelModel", name := "victim", desc := "(II)I" } : Jvm.MethodName)) ∈ lw_g := lw_gd (lw_in3 (List.mem_of_getElem? (i := 155) (by decide +kernel))) rfl
theorem tw_3_157 : (Jvm.Cond.methodLink "BatonKernelModel" (140 : Nat) ({ cls := "BatonKernelModel", name := "interrupt", desc := "(I)Z" } : Jvm.MethodName)) ∈ lw_g := lw_gd (lw_in3 (List.mem_of_getElem? (i := 157) (by decide +kernel))) rfl
theorem tw_3_158 : (Jvm.Cond.instanceMethod ({ cls := "BatonKernelModel", name := "interrupt", desc := "(I)Z" } : Jvm.MethodName)) ∈ lw_g := lw_gd (lw_in3 (List.mem_of_getElem? (i := 158) (by decide +kernel))) rfl
theorem tw_3_159 : (Jvm.Cond.selects "BatonKernelModel" ({ cls := "BatonKernelModel", name := "interrupt", desc := "(I)Z" } : Jvm.MethodName) ({ cls := "BatonKernelModel", name := "interrupt", desc := "(I)Z" } : Jvm.MethodName)) ∈ lw_g := lw_gd (lw_in3 (List.mem_of_getElem? (i := 159) (by decide +kernel))) rfl
theorem tw_3_161 : (Jvm.Cond.methodLink "BatonKernelModel" (152 : Nat) ({ cls := "BatonKernelModel", name := "release", desc := "(III)V" } : Jvm.MethodName)) ∈ lw_g := lw_gd (lw_in3 (List.mem_of_getElem? (i := 161) (by decide +kernel))) rfl
theorem tw_3_163 : (Jvm.Cond.instanceMethod ({ cls := "BatonKernelModel", name := "release", desc := "(III)V" } : Jvm.MethodName)) ∈ lw_g := lw_gd (lw_in3 (List.mem_of_getElem? (i := 163) (by decide +kernel))) rfl
theorem tw_3_165 : (Jvm.Cond.methodLink "BatonKernelModel" (155 : Nat) ({ cls := "BatonKernelModel", name := "activate", desc := "(II)Z" } : Jvm.MethodName)) ∈ lw_g := lw_gd (lw_in3 (List.mem_of_getElem? (i := 165) (by decide +kernel))) rfl
theorem tw_3_166 : (Jvm.Cond.instanceMethod ({ cls := "BatonKernelModel", name := "activate", desc := "(II)Z" } : Jvm.MethodName)) ∈ lw_g := lw_gd (lw_in3 (List.mem_of_getElem? (i := 166) (by decide +kernel))) rfl
theorem tw_3_167 : (Jvm.Cond.selects "BatonKernelModel" ({ cls := "BatonKernelModel", name := "activate", desc := "(II)Z" } : Jvm.MethodName) ({ cls := "BatonKernelModel", name := "activate", desc := "(II)Z" } : Jvm.MethodName)) ∈ lw_g := lw_gd (lw_in3 (List.mem_of_getElem? (i := 167) (by decide +kernel))) rfl
theorem tw_3_169 : (Jvm.Cond.methodLink "BatonKernelModel" (158 : Nat) ({ cls := "BatonKernelModel", name := "kill", desc := "(I)Z" } : Jvm.MethodName)) ∈ lw_g := lw_gd (lw_in3 (List.mem_of_getElem? (i := 169) (by decide +kernel))) rfl
theorem tw_3_170 : (Jvm.Cond.instanceMethod ({ cls := "BatonKernelModel", name := "kill", desc := "(I)Z" } : Jvm.MethodName)) ∈ lw_g := lw_gd (lw_in3 (List.mem_of_getElem? (i := 170) (by decide +kernel))) rfl
theorem tw_3_171 : (Jvm.Cond.selects "BatonKernelModel" ({ cls := "BatonKernelModel", name := "kill", desc := "(I)Z" } : Jvm.MethodName) ({ cls := "BatonKernelModel", name := "kill", desc := "(I)Z" } : Jvm.MethodName)) ∈ lw_g := lw_gd (lw_in3 (List.mem_of_getElem? (i := 171) (by decide +kernel))) rfl
theorem tw_3_173 : (Jvm.Cond.methodLink "BatonKernelModel" (143 : Nat) ({ cls := "BatonKernelModel", name := "holds", desc := "(I)Z" } : Jvm.MethodName)) ∈ lw_g := lw_gd (lw_in3 (List.mem_of_getElem? (i := 173) (by decide +kernel))) rfl
theorem tw_3_175 : (Jvm.Cond.instanceMethod ({ cls := "BatonKernelModel", name := "holds", desc := "(I)Z" } : Jvm.MethodName)) ∈ lw_g := lw_gd (lw_in3 (List.mem_of_getElem? (i := 175) (by decide +kernel))) rfl
theorem tw_3_177 : (Jvm.Cond.methodLink "BatonKernelModel" (146 : Nat) ({ cls := "BatonKernelModel", name := "pour", desc := "(I)V" } : Jvm.MethodName)) ∈ lw_g := lw_gd (lw_in3 (List.mem_of_getElem? (i := 177) (by decide +kernel))) rfl
theorem tw_3_179 : (Jvm.Cond.instanceMethod ({ cls := "BatonKernelModel", name := "pour", desc := "(I)V" } : Jvm.MethodName)) ∈ lw_g := lw_gd (lw_in3 (List.mem_of_getElem? (i := 179) (by decide +kernel))) rfl
theorem tw_3_181 : (Jvm.Cond.methodLink "BatonKernelModel" (174 : Nat) ({ cls := "BatonKernelModel", name := "goOver", desc := "()V" } : Jvm.MethodName)) ∈ lw_g := lw_gd (lw_in3 (List.mem_of_getElem? (i := 181) (by decide +kernel))) rfl
theorem tw_3_183 : (Jvm.Cond.instanceMethod ({ cls := "BatonKernelModel", name := "goOver", desc := "()V" } : Jvm.MethodName)) ∈ lw_g := lw_gd (lw_in3 (List.mem_of_getElem? (i := 183) (by decide +kernel))) rfl
theorem tw_3_185 : (Jvm.Cond.methodLink "BatonKernelLaw" (37 : Nat) ({ cls := "BatonKernelModel", name := "activate", desc := "(II)Z" } : Jvm.MethodName)) ∈ lw_g := lw_gd (lw_in3 (List.mem_of_getElem? (i := 185) (by decide +kernel))) rfl
theorem tw_3_186 : (Jvm.Cond.methodLink "BatonKernelLaw" (42 : Nat) ({ cls := "BatonKernelModel", name := "interrupt", desc := "(I)Z" } : Jvm.MethodName)) ∈ lw_g := lw_gd (lw_in3 (List.mem_of_getElem? (i := 186) (by decide +kernel))) rfl
theorem tw_3_187 : (Jvm.Cond.methodLink "BatonKernelLaw" (46 : Nat) ({ cls := "BatonKernelModel", name := "kill", desc := "(I)Z" } : Jvm.MethodName)) ∈ lw_g := lw_gd (lw_in3 (List.mem_of_getElem? (i := 187) (by decide +kernel))) rfl
theorem tw_3_188 : (Jvm.Cond.methodLink "BatonKernelLaw" (58 : Nat) ({ cls := "BatonKernelModel", name := "now", desc := "()J" } : Jvm.MethodName)) ∈ lw_g := lw_gd (lw_in3 (List.mem_of_getElem? (i := 188) (by decide +kernel))) rfl
theorem tw_3_189 : (Jvm.Cond.instanceMethod ({ cls := "BatonKernelModel", name := "now", desc := "()J" } : Jvm.MethodName)) ∈ lw_g := lw_gd (lw_in3 (List.mem_of_getElem? (i := 189) (by decide +kernel))) rfl
theorem tw_3_190 : (Jvm.Cond.selects "BatonKernelModel" ({ cls := "BatonKernelModel", name := "now", desc := "()J" } : Jvm.MethodName) ({ cls := "BatonKernelModel", name := "now", desc := "()J" } : Jvm.MethodName)) ∈ lw_g := lw_gd (lw_in3 (List.mem_of_getElem? (i := 190) (by decide +kernel))) rfl
theorem tw_3_192 : (Jvm.Cond.methodLink "BatonKernelLaw" (62 : Nat) ({ cls := "BatonKernelModel", name := "next", desc := "()J" } : Jvm.MethodName)) ∈ lw_g := lw_gd (lw_in3 (List.mem_of_getElem? (i := 192) (by decide +kernel))) rfl
theorem tw_3_193 : (Jvm.Cond.instanceMethod ({ cls := "BatonKernelModel", name := "next", desc := "()J" } : Jvm.MethodName)) ∈ lw_g := lw_gd (lw_in3 (List.mem_of_getElem? (i := 193) (by decide +kernel))) rfl
theorem tw_3_194 : (Jvm.Cond.selects "BatonKernelModel" ({ cls := "BatonKernelModel", name := "next", desc := "()J" } : Jvm.MethodName) ({ cls := "BatonKernelModel", name := "next", desc := "()J" } : Jvm.MethodName)) ∈ lw_g := lw_gd (lw_in3 (List.mem_of_getElem? (i := 194) (by decide +kernel))) rfl
theorem tw_3_196 : (Jvm.Cond.constantLong "BatonKernelModel" (186 : Nat) (-1 : Int64)) ∈ lw_g := lw_gd (lw_in3 (List.mem_of_getElem? (i := 196) (by decide +kernel))) rfl
theorem tw_3_197 : (Jvm.Cond.methodLink "BatonKernelLaw" (67 : Nat) ({ cls := "BatonKernelModel", name := "state", desc := "(I)I" } : Jvm.MethodName)) ∈ lw_g := lw_gd (lw_in3 (List.mem_of_getElem? (i := 197) (by decide +kernel))) rfl
theorem tw_3_198 : (Jvm.Cond.instanceMethod ({ cls := "BatonKernelModel", name := "state", desc := "(I)I" } : Jvm.MethodName)) ∈ lw_g := lw_gd (lw_in3 (List.mem_of_getElem? (i := 198) (by decide +kernel))) rfl
theorem tw_3_199 : (Jvm.Cond.selects "BatonKernelModel" ({ cls := "BatonKernelModel", name := "state", desc := "(I)I" } : Jvm.MethodName) ({ cls := "BatonKernelModel", name := "state", desc := "(I)I" } : Jvm.MethodName)) ∈ lw_g := lw_gd (lw_in3 (List.mem_of_getElem? (i := 199) (by decide +kernel))) rfl
theorem tw_3_201 : (Jvm.Cond.methodLink "BatonKernelLaw" (71 : Nat) ({ cls := "BatonKernelModel", name := "place", desc := "(I)I" } : Jvm.MethodName)) ∈ lw_g := lw_gd (lw_in3 (List.mem_of_getElem? (i := 201) (by decide +kernel))) rfl
theorem tw_3_202 : (Jvm.Cond.instanceMethod ({ cls := "BatonKernelModel", name := "place", desc := "(I)I" } : Jvm.MethodName)) ∈ lw_g := lw_gd (lw_in3 (List.mem_of_getElem? (i := 202) (by decide +kernel))) rfl
theorem tw_3_203 : (Jvm.Cond.selects "BatonKernelModel" ({ cls := "BatonKernelModel", name := "place", desc := "(I)I" } : Jvm.MethodName) ({ cls := "BatonKernelModel", name := "place", desc := "(I)I" } : Jvm.MethodName)) ∈ lw_g := lw_gd (lw_in3 (List.mem_of_getElem? (i := 203) (by decide +kernel))) rfl
theorem tw_3_205 : (Jvm.Cond.methodLink "BatonKernelLaw" (76 : Nat) ({ cls := "BatonKernelModel", name := "held", desc := "(II)I" } : Jvm.MethodName)) ∈ lw_g := lw_gd (lw_in3 (List.mem_of_getElem? (i := 205) (by decide +kernel))) rfl
theorem tw_3_206 : (Jvm.Cond.instanceMethod ({ cls := "BatonKernelModel", name := "held", desc := "(II)I" } : Jvm.MethodName)) ∈ lw_g := lw_gd (lw_in3 (List.mem_of_getElem? (i := 206) (by decide +kernel))) rfl
theorem tw_3_207 : (Jvm.Cond.selects "BatonKernelModel" ({ cls := "BatonKernelModel", name := "held", desc := "(II)I" } : Jvm.MethodName) ({ cls := "BatonKernelModel", name := "held", desc := "(II)I" } : Jvm.MethodName)) ∈ lw_g := lw_gd (lw_in3 (List.mem_of_getElem? (i := 207) (by decide +kernel))) rfl
theorem tw_3_209 : (Jvm.Cond.methodLink "BatonKernelLaw" (80 : Nat) ({ cls := "BatonKernelModel", name := "free", desc := "(I)I" } : Jvm.MethodName)) ∈ lw_g := lw_gd (lw_in3 (List.mem_of_getElem? (i := 209) (by decide +kernel))) rfl
theorem tw_3_210 : (Jvm.Cond.instanceMethod ({ cls := "BatonKernelModel", name := "free", desc := "(I)I" } : Jvm.MethodName)) ∈ lw_g := lw_gd (lw_in3 (List.mem_of_getElem? (i := 210) (by decide +kernel))) rfl
theorem tw_3_211 : (Jvm.Cond.selects "BatonKernelModel" ({ cls := "BatonKernelModel", name := "free", desc := "(I)I" } : Jvm.MethodName) ({ cls := "BatonKernelModel", name := "free", desc := "(I)I" } : Jvm.MethodName)) ∈ lw_g := lw_gd (lw_in3 (List.mem_of_getElem? (i := 211) (by decide +kernel))) rfl
theorem tw_3_213 : (Jvm.Cond.methodLink "BatonKernelLaw" (84 : Nat) ({ cls := "BatonKernelModel", name := "waiting", desc := "(I)I" } : Jvm.MethodName)) ∈ lw_g := lw_gd (lw_in3 (List.mem_of_getElem? (i := 213) (by decide +kernel))) rfl
theorem tw_3_214 : (Jvm.Cond.instanceMethod ({ cls := "BatonKernelModel", name := "waiting", desc := "(I)I" } : Jvm.MethodName)) ∈ lw_g := lw_gd (lw_in3 (List.mem_of_getElem? (i := 214) (by decide +kernel))) rfl
theorem tw_3_215 : (Jvm.Cond.selects "BatonKernelModel" ({ cls := "BatonKernelModel", name := "waiting", desc := "(I)I" } : Jvm.MethodName) ({ cls := "BatonKernelModel", name := "waiting", desc := "(I)I" } : Jvm.MethodName)) ∈ lw_g := lw_gd (lw_in3 (List.mem_of_getElem? (i := 215) (by decide +kernel))) rfl
theorem tw_3_217 : (Jvm.Cond.methodLink "BatonKernelLaw" (89 : Nat) ({ cls := "BatonKernelModel", name := "area", desc := "(I)J" } : Jvm.MethodName)) ∈ lw_g := lw_gd (lw_in3 (List.mem_of_getElem? (i := 217) (by decide +kernel))) rfl
theorem tw_3_218 : (Jvm.Cond.instanceMethod ({ cls := "BatonKernelModel", name := "area", desc := "(I)J" } : Jvm.MethodName)) ∈ lw_g := lw_gd (lw_in3 (List.mem_of_getElem? (i := 218) (by decide +kernel))) rfl
theorem tw_3_219 : (Jvm.Cond.selects "BatonKernelModel" ({ cls := "BatonKernelModel", name := "area", desc := "(I)J" } : Jvm.MethodName) ({ cls := "BatonKernelModel", name := "area", desc := "(I)J" } : Jvm.MethodName)) ∈ lw_g := lw_gd (lw_in3 (List.mem_of_getElem? (i := 219) (by decide +kernel))) rfl
theorem tw_3_221 : (Jvm.Cond.methodLink "BatonKernelLaw" (93 : Nat) ({ cls := "BatonKernelModel", name := "waited", desc := "(I)J" } : Jvm.MethodName)) ∈ lw_g := lw_gd (lw_in3 (List.mem_of_getElem? (i := 221) (by decide +kernel))) rfl
theorem tw_3_222 : (Jvm.Cond.instanceMethod ({ cls := "BatonKernelModel", name := "waited", desc := "(I)J" } : Jvm.MethodName)) ∈ lw_g := lw_gd (lw_in3 (List.mem_of_getElem? (i := 222) (by decide +kernel))) rfl
theorem tw_3_223 : (Jvm.Cond.selects "BatonKernelModel" ({ cls := "BatonKernelModel", name := "waited", desc := "(I)J" } : Jvm.MethodName) ({ cls := "BatonKernelModel", name := "waited", desc := "(I)J" } : Jvm.MethodName)) ∈ lw_g := lw_gd (lw_in3 (List.mem_of_getElem? (i := 223) (by decide +kernel))) rfl
theorem tw_3_225 : (Jvm.Cond.methodLink "BatonKernelLaw" (97 : Nat) ({ cls := "BatonKernelModel", name := "level", desc := "(I)I" } : Jvm.MethodName)) ∈ lw_g := lw_gd (lw_in3 (List.mem_of_getElem? (i := 225) (by decide +kernel))) rfl
theorem tw_3_226 : (Jvm.Cond.instanceMethod ({ cls := "BatonKernelModel", name := "level", desc := "(I)I" } : Jvm.MethodName)) ∈ lw_g := lw_gd (lw_in3 (List.mem_of_getElem? (i := 226) (by decide +kernel))) rfl
theorem tw_3_227 : (Jvm.Cond.selects "BatonKernelModel" ({ cls := "BatonKernelModel", name := "level", desc := "(I)I" } : Jvm.MethodName) ({ cls := "BatonKernelModel", name := "level", desc := "(I)I" } : Jvm.MethodName)) ∈ lw_g := lw_gd (lw_in3 (List.mem_of_getElem? (i := 227) (by decide +kernel))) rfl
theorem tw_3_229 : (Jvm.Cond.methodLink "BatonKernelLaw" (102 : Nat) ({ cls := "BatonKernelModel", name := "stuck", desc := "()Z" } : Jvm.MethodName)) ∈ lw_g := lw_gd (lw_in3 (List.mem_of_getElem? (i := 229) (by decide +kernel))) rfl
theorem tw_3_230 : (Jvm.Cond.instanceMethod ({ cls := "BatonKernelModel", name := "stuck", desc := "()Z" } : Jvm.MethodName)) ∈ lw_g := lw_gd (lw_in3 (List.mem_of_getElem? (i := 230) (by decide +kernel))) rfl
theorem tw_3_231 : (Jvm.Cond.selects "BatonKernelModel" ({ cls := "BatonKernelModel", name := "stuck", desc := "()Z" } : Jvm.MethodName) ({ cls := "BatonKernelModel", name := "stuck", desc := "()Z" } : Jvm.MethodName)) ∈ lw_g := lw_gd (lw_in3 (List.mem_of_getElem? (i := 231) (by decide +kernel))) rfl
theorem tw_3_233 : (Jvm.Cond.methodLink "BatonKernelLaw" (106 : Nat) ({ cls := "BatonKernelModel", name := "traced", desc := "(I)I" } : Jvm.MethodName)) ∈ lw_g := lw_gd (lw_in3 (List.mem_of_getElem? (i := 233) (by decide +kernel))) rfl
theorem tw_3_234 : (Jvm.Cond.instanceMethod ({ cls := "BatonKernelModel", name := "traced", desc := "(I)I" } : Jvm.MethodName)) ∈ lw_g := lw_gd (lw_in3 (List.mem_of_getElem? (i := 234) (by decide +kernel))) rfl
theorem tw_3_235 : (Jvm.Cond.selects "BatonKernelModel" ({ cls := "BatonKernelModel", name := "traced", desc := "(I)I" } : Jvm.MethodName) ({ cls := "BatonKernelModel", name := "traced", desc := "(I)I" } : Jvm.MethodName)) ∈ lw_g := lw_gd (lw_in3 (List.mem_of_getElem? (i := 235) (by decide +kernel))) rfl
theorem tw_3_237 : (Jvm.Cond.constantLong "BatonKernelLaw" (47 : Nat) (4294967295 : Int64)) ∈ lw_g := lw_gd (lw_in3 (List.mem_of_getElem? (i := 237) (by decide +kernel))) rfl
set_option maxRecDepth 20000 in
theorem tc_K_init : Cond.code by_K_init bc_K_init 2 none ∈ lw_g := lw_gd (lw_in1 (List.mem_of_getElem? (i := 13) rfl)) rfl
set_option maxRecDepth 20000 in
theorem tc_K_process : Cond.code by_K_process bc_K_process 5 (some .int) ∈ lw_g := lw_gd (lw_in1 (List.mem_of_getElem? (i := 202) rfl)) rfl
set_option maxRecDepth 20000 in
theorem tc_K_instruct : Cond.code by_K_instruct bc_K_instruct 6 (some .boolean) ∈ lw_g := lw_gd (lw_in1 (List.mem_of_getElem? (i := 209) rfl)) rfl
set_option maxRecDepth 20000 in
theorem tc_K_resource : Cond.code by_K_resource bc_K_resource 4 (some .boolean) ∈ lw_g := lw_gd (lw_in1 (List.mem_of_getElem? (i := 231) rfl)) rfl
set_option maxRecDepth 20000 in
theorem tc_K_tank : Cond.code by_K_tank bc_K_tank 4 (some .boolean) ∈ lw_g := lw_gd (lw_in2 (List.mem_of_getElem? (i := 19) rfl)) rfl
set_option maxRecDepth 20000 in
theorem tc_K_activate : Cond.code by_K_activate bc_K_activate 4 (some .boolean) ∈ lw_g := lw_gd (lw_in2 (List.mem_of_getElem? (i := 23) rfl)) rfl
set_option maxRecDepth 20000 in
theorem tc_K_interrupt : Cond.code by_K_interrupt bc_K_interrupt 4 (some .boolean) ∈ lw_g := lw_gd (lw_in2 (List.mem_of_getElem? (i := 27) rfl)) rfl
set_option maxRecDepth 20000 in
theorem tc_K_kill : Cond.code by_K_kill bc_K_kill 5 (some .boolean) ∈ lw_g := lw_gd (lw_in2 (List.mem_of_getElem? (i := 47) rfl)) rfl
set_option maxRecDepth 20000 in
theorem tc_K_run : Cond.code by_K_run bc_K_run 6 (some .int) ∈ lw_g := lw_gd (lw_in2 (List.mem_of_getElem? (i := 66) rfl)) rfl
set_option maxRecDepth 20000 in
theorem tc_K_now : Cond.code by_K_now bc_K_now 1 (some .long) ∈ lw_g := lw_gd (lw_in2 (List.mem_of_getElem? (i := 159) rfl)) rfl
set_option maxRecDepth 20000 in
theorem tc_K_next : Cond.code by_K_next bc_K_next 2 (some .long) ∈ lw_g := lw_gd (lw_in2 (List.mem_of_getElem? (i := 163) rfl)) rfl
set_option maxRecDepth 20000 in
theorem tc_K_state : Cond.code by_K_state bc_K_state 2 (some .int) ∈ lw_g := lw_gd (lw_in2 (List.mem_of_getElem? (i := 168) rfl)) rfl
set_option maxRecDepth 20000 in
theorem tc_K_place : Cond.code by_K_place bc_K_place 2 (some .int) ∈ lw_g := lw_gd (lw_in2 (List.mem_of_getElem? (i := 172) rfl)) rfl
set_option maxRecDepth 20000 in
theorem tc_K_held : Cond.code by_K_held bc_K_held 3 (some .int) ∈ lw_g := lw_gd (lw_in2 (List.mem_of_getElem? (i := 176) rfl)) rfl
set_option maxRecDepth 20000 in
theorem tc_K_free : Cond.code by_K_free bc_K_free 2 (some .int) ∈ lw_g := lw_gd (lw_in2 (List.mem_of_getElem? (i := 180) rfl)) rfl
set_option maxRecDepth 20000 in
theorem tc_K_waiting : Cond.code by_K_waiting bc_K_waiting 2 (some .int) ∈ lw_g := lw_gd (lw_in2 (List.mem_of_getElem? (i := 184) rfl)) rfl
set_option maxRecDepth 20000 in
theorem tc_K_area : Cond.code by_K_area bc_K_area 2 (some .long) ∈ lw_g := lw_gd (lw_in2 (List.mem_of_getElem? (i := 188) rfl)) rfl
set_option maxRecDepth 20000 in
theorem tc_K_waited : Cond.code by_K_waited bc_K_waited 2 (some .long) ∈ lw_g := lw_gd (lw_in2 (List.mem_of_getElem? (i := 192) rfl)) rfl
set_option maxRecDepth 20000 in
theorem tc_K_level : Cond.code by_K_level bc_K_level 2 (some .int) ∈ lw_g := lw_gd (lw_in2 (List.mem_of_getElem? (i := 196) rfl)) rfl
set_option maxRecDepth 20000 in
theorem tc_K_stuck : Cond.code by_K_stuck bc_K_stuck 3 (some .boolean) ∈ lw_g := lw_gd (lw_in2 (List.mem_of_getElem? (i := 200) rfl)) rfl
set_option maxRecDepth 20000 in
theorem tc_K_traced : Cond.code by_K_traced bc_K_traced 2 (some .int) ∈ lw_g := lw_gd (lw_in2 (List.mem_of_getElem? (i := 204) rfl)) rfl
set_option maxRecDepth 20000 in
theorem tc_K_isWithin : Cond.code by_K_isWithin bc_K_isWithin 3 (some .boolean) ∈ lw_g := lw_gd (lw_in1 (List.mem_of_getElem? (i := 205) rfl)) rfl
set_option maxRecDepth 20000 in
theorem tc_K_isResource : Cond.code by_K_isResource bc_K_isResource 1 (some .boolean) ∈ lw_g := lw_gd (lw_in1 (List.mem_of_getElem? (i := 220) rfl)) rfl
set_option maxRecDepth 20000 in
theorem tc_K_isTank : Cond.code by_K_isTank bc_K_isTank 1 (some .boolean) ∈ lw_g := lw_gd (lw_in1 (List.mem_of_getElem? (i := 223) rfl)) rfl
set_option maxRecDepth 20000 in
theorem tc_K_isProcess : Cond.code by_K_isProcess bc_K_isProcess 2 (some .boolean) ∈ lw_g := lw_gd (lw_in1 (List.mem_of_getElem? (i := 213) rfl)) rfl
theorem ts_K_isProcess : Cond.selects bR_K by_K_isProcess by_K_isProcess ∈ lw_g := lw_gd (lw_sel (q := (by_K_isProcess, 9)) (by decide +kernel)) rfl
set_option maxRecDepth 20000 in
theorem tc_K_isInstruction : Cond.code by_K_isInstruction bc_K_isInstruction 3 (some .boolean) ∈ lw_g := lw_gd (lw_in1 (List.mem_of_getElem? (i := 216) rfl)) rfl
set_option maxRecDepth 20000 in
theorem tc_K_moveClock : Cond.code by_K_moveClock bc_K_moveClock 4 none ∈ lw_g := lw_gd (lw_in2 (List.mem_of_getElem? (i := 83) rfl)) rfl
theorem ts_K_moveClock : Cond.selects bR_K by_K_moveClock by_K_moveClock ∈ lw_g := lw_gd (lw_sel (q := (by_K_moveClock, 9)) (by decide +kernel)) rfl
set_option maxRecDepth 20000 in
theorem tc_K_enter : Cond.code by_K_enter bc_K_enter 4 none ∈ lw_g := lw_gd (lw_in2 (List.mem_of_getElem? (i := 15) rfl)) rfl
theorem ts_K_enter : Cond.selects bR_K by_K_enter by_K_enter ∈ lw_g := lw_gd (lw_sel (q := (by_K_enter, 9)) (by decide +kernel)) rfl
set_option maxRecDepth 20000 in
theorem tc_K_firstEntry : Cond.code by_K_firstEntry bc_K_firstEntry 3 (some .int) ∈ lw_g := lw_gd (lw_in2 (List.mem_of_getElem? (i := 71) rfl)) rfl
theorem ts_K_firstEntry : Cond.selects bR_K by_K_firstEntry by_K_firstEntry ∈ lw_g := lw_gd (lw_sel (q := (by_K_firstEntry, 9)) (by decide +kernel)) rfl
set_option maxRecDepth 20000 in
theorem tc_K_begin : Cond.code by_K_begin bc_K_begin 2 none ∈ lw_g := lw_gd (lw_in2 (List.mem_of_getElem? (i := 79) rfl)) rfl
theorem ts_K_begin : Cond.selects bR_K by_K_begin by_K_begin ∈ lw_g := lw_gd (lw_sel (q := (by_K_begin, 9)) (by decide +kernel)) rfl
set_option maxRecDepth 20000 in
theorem tc_K_doTurn : Cond.code by_K_doTurn bc_K_doTurn 4 none ∈ lw_g := lw_gd (lw_in2 (List.mem_of_getElem? (i := 92) rfl)) rfl
theorem ts_K_doTurn : Cond.selects bR_K by_K_doTurn by_K_doTurn ∈ lw_g := lw_gd (lw_sel (q := (by_K_doTurn, 9)) (by decide +kernel)) rfl
set_option maxRecDepth 20000 in
theorem tc_K_perform : Cond.code by_K_perform bc_K_perform 3 (some .boolean) ∈ lw_g := lw_gd (lw_in2 (List.mem_of_getElem? (i := 96) rfl)) rfl
theorem ts_K_perform : Cond.selects bR_K by_K_perform by_K_perform ∈ lw_g := lw_gd (lw_sel (q := (by_K_perform, 9)) (by decide +kernel)) rfl
set_option maxRecDepth 20000 in
theorem tc_K_countBefore : Cond.code by_K_countBefore bc_K_countBefore 5 (some .int) ∈ lw_g := lw_gd (lw_in2 (List.mem_of_getElem? (i := 104) rfl)) rfl
theorem ts_K_countBefore : Cond.selects bR_K by_K_countBefore by_K_countBefore ∈ lw_g := lw_gd (lw_sel (q := (by_K_countBefore, 9)) (by decide +kernel)) rfl
set_option maxRecDepth 20000 in
theorem tc_K_seizeFree : Cond.code by_K_seizeFree bc_K_seizeFree 4 (some .boolean) ∈ lw_g := lw_gd (lw_in2 (List.mem_of_getElem? (i := 100) rfl)) rfl
theorem ts_K_seizeFree : Cond.selects bR_K by_K_seizeFree by_K_seizeFree ∈ lw_g := lw_gd (lw_sel (q := (by_K_seizeFree, 9)) (by decide +kernel)) rfl
set_option maxRecDepth 20000 in
theorem tc_K_seizeByForce : Cond.code by_K_seizeByForce bc_K_seizeByForce 6 (some .boolean) ∈ lw_g := lw_gd (lw_in2 (List.mem_of_getElem? (i := 108) rfl)) rfl
theorem ts_K_seizeByForce : Cond.selects bR_K by_K_seizeByForce by_K_seizeByForce ∈ lw_g := lw_gd (lw_sel (q := (by_K_seizeByForce, 9)) (by decide +kernel)) rfl
set_option maxRecDepth 20000 in
theorem tc_K_standInLine : Cond.code by_K_standInLine bc_K_standInLine 3 (some .boolean) ∈ lw_g := lw_gd (lw_in2 (List.mem_of_getElem? (i := 125) rfl)) rfl
theorem ts_K_standInLine : Cond.selects bR_K by_K_standInLine by_K_standInLine ∈ lw_g := lw_gd (lw_sel (q := (by_K_standInLine, 9)) (by decide +kernel)) rfl
set_option maxRecDepth 20000 in
theorem tc_K_withinReach : Cond.code by_K_withinReach bc_K_withinReach 5 (some .int) ∈ lw_g := lw_gd (lw_in2 (List.mem_of_getElem? (i := 112) rfl)) rfl
theorem ts_K_withinReach : Cond.selects bR_K by_K_withinReach by_K_withinReach ∈ lw_g := lw_gd (lw_sel (q := (by_K_withinReach, 9)) (by decide +kernel)) rfl
set_option maxRecDepth 20000 in
theorem tc_K_takeFromLosers : Cond.code by_K_takeFromLosers bc_K_takeFromLosers 6 (some .int) ∈ lw_g := lw_gd (lw_in2 (List.mem_of_getElem? (i := 116) rfl)) rfl
theorem ts_K_takeFromLosers : Cond.selects bR_K by_K_takeFromLosers by_K_takeFromLosers ∈ lw_g := lw_gd (lw_sel (q := (by_K_takeFromLosers, 9)) (by decide +kernel)) rfl
set_option maxRecDepth 20000 in
theorem tc_K_nextLoser : Cond.code by_K_nextLoser bc_K_nextLoser 6 (some .int) ∈ lw_g := lw_gd (lw_in2 (List.mem_of_getElem? (i := 120) rfl)) rfl
theorem ts_K_nextLoser : Cond.selects bR_K by_K_nextLoser by_K_nextLoser ∈ lw_g := lw_gd (lw_sel (q := (by_K_nextLoser, 9)) (by decide +kernel)) rfl
set_option maxRecDepth 20000 in
theorem tc_K_give : Cond.code by_K_give bc_K_give 4 none ∈ lw_g := lw_gd (lw_in2 (List.mem_of_getElem? (i := 7) rfl)) rfl
theorem ts_K_give : Cond.selects bR_K by_K_give by_K_give ∈ lw_g := lw_gd (lw_sel (q := (by_K_give, 9)) (by decide +kernel)) rfl
set_option maxRecDepth 20000 in
theorem tc_K_takeBack : Cond.code by_K_takeBack bc_K_takeBack 4 none ∈ lw_g := lw_gd (lw_in2 (List.mem_of_getElem? (i := 62) rfl)) rfl
theorem ts_K_takeBack : Cond.selects bR_K by_K_takeBack by_K_takeBack ∈ lw_g := lw_gd (lw_sel (q := (by_K_takeBack, 9)) (by decide +kernel)) rfl
set_option maxRecDepth 20000 in
theorem tc_K_giveBack : Cond.code by_K_giveBack bc_K_giveBack 4 none ∈ lw_g := lw_gd (lw_in2 (List.mem_of_getElem? (i := 55) rfl)) rfl
theorem ts_K_giveBack : Cond.selects bR_K by_K_giveBack by_K_giveBack ∈ lw_g := lw_gd (lw_sel (q := (by_K_giveBack, 9)) (by decide +kernel)) rfl
set_option maxRecDepth 20000 in
theorem tc_K_serve : Cond.code by_K_serve bc_K_serve 5 none ∈ lw_g := lw_gd (lw_in1 (List.mem_of_getElem? (i := 235) rfl)) rfl
theorem ts_K_serve : Cond.selects bR_K by_K_serve by_K_serve ∈ lw_g := lw_gd (lw_sel (q := (by_K_serve, 9)) (by decide +kernel)) rfl
set_option maxRecDepth 20000 in
theorem tc_K_meetCondition : Cond.code by_K_meetCondition bc_K_meetCondition 3 (some .boolean) ∈ lw_g := lw_gd (lw_in2 (List.mem_of_getElem? (i := 133) rfl)) rfl
theorem ts_K_meetCondition : Cond.selects bR_K by_K_meetCondition by_K_meetCondition ∈ lw_g := lw_gd (lw_sel (q := (by_K_meetCondition, 9)) (by decide +kernel)) rfl
set_option maxRecDepth 20000 in
theorem tc_K_waitForCondition : Cond.code by_K_waitForCondition bc_K_waitForCondition 2 (some .boolean) ∈ lw_g := lw_gd (lw_in2 (List.mem_of_getElem? (i := 145) rfl)) rfl
theorem ts_K_waitForCondition : Cond.selects bR_K by_K_waitForCondition by_K_waitForCondition ∈ lw_g := lw_gd (lw_sel (q := (by_K_waitForCondition, 9)) (by decide +kernel)) rfl
set_option maxRecDepth 20000 in
theorem tc_K_goOverConditions : Cond.code by_K_goOverConditions bc_K_goOverConditions 4 none ∈ lw_g := lw_gd (lw_in2 (List.mem_of_getElem? (i := 155) rfl)) rfl
theorem ts_K_goOverConditions : Cond.selects bR_K by_K_goOverConditions by_K_goOverConditions ∈ lw_g := lw_gd (lw_sel (q := (by_K_goOverConditions, 9)) (by decide +kernel)) rfl
set_option maxRecDepth 20000 in
theorem tc_K_lineOf : Cond.code by_K_lineOf bc_K_lineOf 2 (some .int) ∈ lw_g := lw_gd (lw_in2 (List.mem_of_getElem? (i := 35) rfl)) rfl
theorem ts_K_lineOf : Cond.selects bR_K by_K_lineOf by_K_lineOf ∈ lw_g := lw_gd (lw_sel (q := (by_K_lineOf, 9)) (by decide +kernel)) rfl
set_option maxRecDepth 20000 in
theorem tc_K_leave : Cond.code by_K_leave bc_K_leave 2 none ∈ lw_g := lw_gd (lw_in2 (List.mem_of_getElem? (i := 43) rfl)) rfl
theorem ts_K_leave : Cond.selects bR_K by_K_leave by_K_leave ∈ lw_g := lw_gd (lw_sel (q := (by_K_leave, 9)) (by decide +kernel)) rfl
set_option maxRecDepth 20000 in
theorem tc_M_init : Cond.code by_M_init bc_M_init 2 none ∈ lw_g := lw_gd (lw_in2 (List.mem_of_getElem? (i := 213) rfl)) rfl
set_option maxRecDepth 20000 in
theorem tc_M_process : Cond.code by_M_process bc_M_process 4 (some .int) ∈ lw_g := lw_gd (lw_in3 (List.mem_of_getElem? (i := 62) rfl)) rfl
set_option maxRecDepth 20000 in
theorem tc_M_within : Cond.code by_M_within bc_M_within 4 (some .boolean) ∈ lw_g := lw_gd (lw_in3 (List.mem_of_getElem? (i := 74) rfl)) rfl
theorem ts_M_within : Cond.selects bR_M by_M_within by_M_within ∈ lw_g := lw_gd (lw_sel (q := (by_M_within, 27)) (by decide +kernel)) rfl
set_option maxRecDepth 20000 in
theorem tc_M_fits : Cond.code by_M_fits bc_M_fits 4 (some .boolean) ∈ lw_g := lw_gd (lw_in3 (List.mem_of_getElem? (i := 78) rfl)) rfl
theorem ts_M_fits : Cond.selects bR_M by_M_fits by_M_fits ∈ lw_g := lw_gd (lw_sel (q := (by_M_fits, 27)) (by decide +kernel)) rfl
set_option maxRecDepth 20000 in
theorem tc_M_none : Cond.code by_M_none bc_M_none 2 (some .boolean) ∈ lw_g := lw_gd (lw_in3 (List.mem_of_getElem? (i := 70) rfl)) rfl
theorem ts_M_none : Cond.selects bR_M by_M_none by_M_none ∈ lw_g := lw_gd (lw_sel (q := (by_M_none, 27)) (by decide +kernel)) rfl
set_option maxRecDepth 20000 in
theorem tc_M_instruct : Cond.code by_M_instruct bc_M_instruct 6 (some .boolean) ∈ lw_g := lw_gd (lw_in3 (List.mem_of_getElem? (i := 66) rfl)) rfl
set_option maxRecDepth 20000 in
theorem tc_M_resource : Cond.code by_M_resource bc_M_resource 4 (some .boolean) ∈ lw_g := lw_gd (lw_in3 (List.mem_of_getElem? (i := 83) rfl)) rfl
set_option maxRecDepth 20000 in
theorem tc_M_tank : Cond.code by_M_tank bc_M_tank 4 (some .boolean) ∈ lw_g := lw_gd (lw_in3 (List.mem_of_getElem? (i := 111) rfl)) rfl
set_option maxRecDepth 20000 in
theorem tc_M_enter : Cond.code by_M_enter bc_M_enter 5 none ∈ lw_g := lw_gd (lw_in3 (List.mem_of_getElem? (i := 107) rfl)) rfl
theorem ts_M_enter : Cond.selects bR_M by_M_enter by_M_enter ∈ lw_g := lw_gd (lw_sel (q := (by_M_enter, 27)) (by decide +kernel)) rfl
set_option maxRecDepth 20000 in
theorem tc_M_sooner : Cond.code by_M_sooner bc_M_sooner 3 (some .boolean) ∈ lw_g := lw_gd (lw_in3 (List.mem_of_getElem? (i := 124) rfl)) rfl
theorem ts_M_sooner : Cond.selects bR_M by_M_sooner by_M_sooner ∈ lw_g := lw_gd (lw_sel (q := (by_M_sooner, 27)) (by decide +kernel)) rfl
set_option maxRecDepth 20000 in
theorem tc_M_first : Cond.code by_M_first bc_M_first 3 (some .int) ∈ lw_g := lw_gd (lw_in3 (List.mem_of_getElem? (i := 120) rfl)) rfl
theorem ts_M_first : Cond.selects bR_M by_M_first by_M_first ∈ lw_g := lw_gd (lw_sel (q := (by_M_first, 27)) (by decide +kernel)) rfl
set_option maxRecDepth 20000 in
theorem tc_M_seized : Cond.code by_M_seized bc_M_seized 4 (some .int) ∈ lw_g := lw_gd (lw_in3 (List.mem_of_getElem? (i := 87) rfl)) rfl
theorem ts_M_seized : Cond.selects bR_M by_M_seized by_M_seized ∈ lw_g := lw_gd (lw_sel (q := (by_M_seized, 27)) (by decide +kernel)) rfl
set_option maxRecDepth 20000 in
theorem tc_M_rest : Cond.code by_M_rest bc_M_rest 2 (some .int) ∈ lw_g := lw_gd (lw_in3 (List.mem_of_getElem? (i := 103) rfl)) rfl
theorem ts_M_rest : Cond.selects bR_M by_M_rest by_M_rest ∈ lw_g := lw_gd (lw_sel (q := (by_M_rest, 27)) (by decide +kernel)) rfl
set_option maxRecDepth 20000 in
theorem tc_M_done : Cond.code by_M_done bc_M_done 2 (some .int) ∈ lw_g := lw_gd (lw_in3 (List.mem_of_getElem? (i := 99) rfl)) rfl
theorem ts_M_done : Cond.selects bR_M by_M_done by_M_done ∈ lw_g := lw_gd (lw_sel (q := (by_M_done, 27)) (by decide +kernel)) rfl
set_option maxRecDepth 20000 in
theorem tc_M_head : Cond.code by_M_head bc_M_head 4 (some .int) ∈ lw_g := lw_gd (lw_in3 (List.mem_of_getElem? (i := 95) rfl)) rfl
theorem ts_M_head : Cond.selects bR_M by_M_head by_M_head ∈ lw_g := lw_gd (lw_sel (q := (by_M_head, 27)) (by decide +kernel)) rfl
set_option maxRecDepth 20000 in
theorem tc_M_serve : Cond.code by_M_serve bc_M_serve 4 none ∈ lw_g := lw_gd (lw_in3 (List.mem_of_getElem? (i := 91) rfl)) rfl
theorem ts_M_serve : Cond.selects bR_M by_M_serve by_M_serve ∈ lw_g := lw_gd (lw_sel (q := (by_M_serve, 27)) (by decide +kernel)) rfl
set_option maxRecDepth 20000 in
theorem tc_M_seize : Cond.code by_M_seize bc_M_seize 6 (some .boolean) ∈ lw_g := lw_gd (lw_in3 (List.mem_of_getElem? (i := 144) rfl)) rfl
theorem ts_M_seize : Cond.selects bR_M by_M_seize by_M_seize ∈ lw_g := lw_gd (lw_sel (q := (by_M_seize, 27)) (by decide +kernel)) rfl
set_option maxRecDepth 20000 in
theorem tc_M_reach : Cond.code by_M_reach bc_M_reach 5 (some .int) ∈ lw_g := lw_gd (lw_in3 (List.mem_of_getElem? (i := 148) rfl)) rfl
theorem ts_M_reach : Cond.selects bR_M by_M_reach by_M_reach ∈ lw_g := lw_gd (lw_sel (q := (by_M_reach, 27)) (by decide +kernel)) rfl
set_option maxRecDepth 20000 in
theorem tc_M_victim : Cond.code by_M_victim bc_M_victim 5 (some .int) ∈ lw_g := lw_gd (lw_in3 (List.mem_of_getElem? (i := 156) rfl)) rfl
theorem ts_M_victim : Cond.selects bR_M by_M_victim by_M_victim ∈ lw_g := lw_gd (lw_sel (q := (by_M_victim, 27)) (by decide +kernel)) rfl
set_option maxRecDepth 20000 in
theorem tc_M_preempt : Cond.code by_M_preempt bc_M_preempt 7 none ∈ lw_g := lw_gd (lw_in3 (List.mem_of_getElem? (i := 152) rfl)) rfl
theorem ts_M_preempt : Cond.selects bR_M by_M_preempt by_M_preempt ∈ lw_g := lw_gd (lw_sel (q := (by_M_preempt, 27)) (by decide +kernel)) rfl
set_option maxRecDepth 20000 in
theorem tc_M_release : Cond.code by_M_release bc_M_release 5 none ∈ lw_g := lw_gd (lw_in3 (List.mem_of_getElem? (i := 164) rfl)) rfl
theorem ts_M_release : Cond.selects bR_M by_M_release by_M_release ∈ lw_g := lw_gd (lw_sel (q := (by_M_release, 27)) (by decide +kernel)) rfl
set_option maxRecDepth 20000 in
theorem tc_M_holds : Cond.code by_M_holds bc_M_holds 3 (some .boolean) ∈ lw_g := lw_gd (lw_in3 (List.mem_of_getElem? (i := 176) rfl)) rfl
theorem ts_M_holds : Cond.selects bR_M by_M_holds by_M_holds ∈ lw_g := lw_gd (lw_sel (q := (by_M_holds, 27)) (by decide +kernel)) rfl
set_option maxRecDepth 20000 in
theorem tc_M_pour : Cond.code by_M_pour bc_M_pour 2 none ∈ lw_g := lw_gd (lw_in3 (List.mem_of_getElem? (i := 180) rfl)) rfl
theorem ts_M_pour : Cond.selects bR_M by_M_pour by_M_pour ∈ lw_g := lw_gd (lw_sel (q := (by_M_pour, 27)) (by decide +kernel)) rfl
set_option maxRecDepth 20000 in
theorem tc_M_goOver : Cond.code by_M_goOver bc_M_goOver 5 none ∈ lw_g := lw_gd (lw_in3 (List.mem_of_getElem? (i := 184) rfl)) rfl
theorem ts_M_goOver : Cond.selects bR_M by_M_goOver by_M_goOver ∈ lw_g := lw_gd (lw_sel (q := (by_M_goOver, 27)) (by decide +kernel)) rfl
set_option maxRecDepth 20000 in
theorem tc_M_perform : Cond.code by_M_perform bc_M_perform 4 (some .boolean) ∈ lw_g := lw_gd (lw_in3 (List.mem_of_getElem? (i := 140) rfl)) rfl
theorem ts_M_perform : Cond.selects bR_M by_M_perform by_M_perform ∈ lw_g := lw_gd (lw_sel (q := (by_M_perform, 27)) (by decide +kernel)) rfl
set_option maxRecDepth 20000 in
theorem tc_M_turn : Cond.code by_M_turn bc_M_turn 3 none ∈ lw_g := lw_gd (lw_in3 (List.mem_of_getElem? (i := 136) rfl)) rfl
theorem ts_M_turn : Cond.selects bR_M by_M_turn by_M_turn ∈ lw_g := lw_gd (lw_sel (q := (by_M_turn, 27)) (by decide +kernel)) rfl
set_option maxRecDepth 20000 in
theorem tc_M_advance : Cond.code by_M_advance bc_M_advance 4 none ∈ lw_g := lw_gd (lw_in3 (List.mem_of_getElem? (i := 132) rfl)) rfl
theorem ts_M_advance : Cond.selects bR_M by_M_advance by_M_advance ∈ lw_g := lw_gd (lw_sel (q := (by_M_advance, 27)) (by decide +kernel)) rfl
set_option maxRecDepth 20000 in
theorem tc_M_event : Cond.code by_M_event bc_M_event 3 none ∈ lw_g := lw_gd (lw_in3 (List.mem_of_getElem? (i := 128) rfl)) rfl
theorem ts_M_event : Cond.selects bR_M by_M_event by_M_event ∈ lw_g := lw_gd (lw_sel (q := (by_M_event, 27)) (by decide +kernel)) rfl
set_option maxRecDepth 20000 in
theorem tc_M_run : Cond.code by_M_run bc_M_run 6 (some .int) ∈ lw_g := lw_gd (lw_in3 (List.mem_of_getElem? (i := 115) rfl)) rfl
set_option maxRecDepth 20000 in
theorem tc_M_activate : Cond.code by_M_activate bc_M_activate 3 (some .boolean) ∈ lw_g := lw_gd (lw_in3 (List.mem_of_getElem? (i := 168) rfl)) rfl
set_option maxRecDepth 20000 in
theorem tc_M_interrupt : Cond.code by_M_interrupt bc_M_interrupt 3 (some .boolean) ∈ lw_g := lw_gd (lw_in3 (List.mem_of_getElem? (i := 160) rfl)) rfl
set_option maxRecDepth 20000 in
theorem tc_M_kill : Cond.code by_M_kill bc_M_kill 4 (some .boolean) ∈ lw_g := lw_gd (lw_in3 (List.mem_of_getElem? (i := 172) rfl)) rfl
set_option maxRecDepth 20000 in
theorem tc_M_now : Cond.code by_M_now bc_M_now 1 (some .long) ∈ lw_g := lw_gd (lw_in3 (List.mem_of_getElem? (i := 191) rfl)) rfl
set_option maxRecDepth 20000 in
theorem tc_M_next : Cond.code by_M_next bc_M_next 2 (some .long) ∈ lw_g := lw_gd (lw_in3 (List.mem_of_getElem? (i := 195) rfl)) rfl
set_option maxRecDepth 20000 in
theorem tc_M_state : Cond.code by_M_state bc_M_state 2 (some .int) ∈ lw_g := lw_gd (lw_in3 (List.mem_of_getElem? (i := 200) rfl)) rfl
set_option maxRecDepth 20000 in
theorem tc_M_place : Cond.code by_M_place bc_M_place 2 (some .int) ∈ lw_g := lw_gd (lw_in3 (List.mem_of_getElem? (i := 204) rfl)) rfl
set_option maxRecDepth 20000 in
theorem tc_M_held : Cond.code by_M_held bc_M_held 3 (some .int) ∈ lw_g := lw_gd (lw_in3 (List.mem_of_getElem? (i := 208) rfl)) rfl
set_option maxRecDepth 20000 in
theorem tc_M_free : Cond.code by_M_free bc_M_free 2 (some .int) ∈ lw_g := lw_gd (lw_in3 (List.mem_of_getElem? (i := 212) rfl)) rfl
set_option maxRecDepth 20000 in
theorem tc_M_waiting : Cond.code by_M_waiting bc_M_waiting 5 (some .int) ∈ lw_g := lw_gd (lw_in3 (List.mem_of_getElem? (i := 216) rfl)) rfl
set_option maxRecDepth 20000 in
theorem tc_M_area : Cond.code by_M_area bc_M_area 2 (some .long) ∈ lw_g := lw_gd (lw_in3 (List.mem_of_getElem? (i := 220) rfl)) rfl
set_option maxRecDepth 20000 in
theorem tc_M_waited : Cond.code by_M_waited bc_M_waited 2 (some .long) ∈ lw_g := lw_gd (lw_in3 (List.mem_of_getElem? (i := 224) rfl)) rfl
set_option maxRecDepth 20000 in
theorem tc_M_level : Cond.code by_M_level bc_M_level 2 (some .int) ∈ lw_g := lw_gd (lw_in3 (List.mem_of_getElem? (i := 228) rfl)) rfl
set_option maxRecDepth 20000 in
theorem tc_M_stuck : Cond.code by_M_stuck bc_M_stuck 3 (some .boolean) ∈ lw_g := lw_gd (lw_in3 (List.mem_of_getElem? (i := 232) rfl)) rfl
set_option maxRecDepth 20000 in
theorem tc_M_traced : Cond.code by_M_traced bc_M_traced 2 (some .int) ∈ lw_g := lw_gd (lw_in3 (List.mem_of_getElem? (i := 236) rfl)) rfl
set_option maxRecDepth 20000 in
theorem tc_L_init : Cond.code by_L_init bc_L_init 1 none ∈ lw_g := lw_gd (lw_in1 (List.mem_of_getElem? (i := 27) rfl)) rfl
set_option maxRecDepth 20000 in
theorem tc_L_insert : Cond.code by_L_insert bc_L_insert 4 none ∈ lw_g := lw_gd (lw_in2 (List.mem_of_getElem? (i := 129) rfl)) rfl
set_option maxRecDepth 20000 in
theorem tc_L_drop : Cond.code by_L_drop bc_L_drop 4 none ∈ lw_g := lw_gd (lw_in2 (List.mem_of_getElem? (i := 11) rfl)) rfl
set_option maxRecDepth 20000 in
theorem tc_P_init : Cond.code by_P_init bc_P_init 2 none ∈ lw_g := lw_gd (lw_in1 (List.mem_of_getElem? (i := 58) rfl)) rfl
set_option maxRecDepth 20000 in
theorem tc_P_append : Cond.code by_P_append bc_P_append 4 none ∈ lw_g := lw_gd (lw_in1 (List.mem_of_getElem? (i := 227) rfl)) rfl
set_option maxRecDepth 20000 in
theorem tc_P_firstOperand : Cond.code by_P_firstOperand bc_P_firstOperand 1 (some .int) ∈ lw_g := lw_gd (lw_in2 (List.mem_of_getElem? (i := 39) rfl)) rfl
set_option maxRecDepth 20000 in
theorem tc_P_secondOperand : Cond.code by_P_secondOperand bc_P_secondOperand 1 (some .int) ∈ lw_g := lw_gd (lw_in1 (List.mem_of_getElem? (i := 239) rfl)) rfl
set_option maxRecDepth 20000 in
theorem tc_P_isOver : Cond.code by_P_isOver bc_P_isOver 1 (some .boolean) ∈ lw_g := lw_gd (lw_in2 (List.mem_of_getElem? (i := 51) rfl)) rfl
set_option maxRecDepth 20000 in
theorem tc_P_isBreakable : Cond.code by_P_isBreakable bc_P_isBreakable 1 (some .boolean) ∈ lw_g := lw_gd (lw_in2 (List.mem_of_getElem? (i := 31) rfl)) rfl
set_option maxRecDepth 20000 in
theorem tc_P_isBefore : Cond.code by_P_isBefore bc_P_isBefore 2 (some .boolean) ∈ lw_g := lw_gd (lw_in2 (List.mem_of_getElem? (i := 75) rfl)) rfl
set_option maxRecDepth 20000 in
theorem tc_P_beginRound : Cond.code by_P_beginRound bc_P_beginRound 1 (some .boolean) ∈ lw_g := lw_gd (lw_in2 (List.mem_of_getElem? (i := 151) rfl)) rfl
set_option maxRecDepth 20000 in
theorem tc_E_init : Cond.code by_E_init bc_E_init 1 none ∈ lw_g := lw_gd (lw_in1 (List.mem_of_getElem? (i := 128) rfl)) rfl
set_option maxRecDepth 20000 in
theorem tc_E_unseized : Cond.code by_E_unseized bc_E_unseized 1 (some .int) ∈ lw_g := lw_gd (lw_in2 (List.mem_of_getElem? (i := 3) rfl)) rfl
set_option maxRecDepth 20000 in
theorem tc_T_init : Cond.code by_T_init bc_T_init 1 none ∈ lw_g := lw_gd (lw_in1 (List.mem_of_getElem? (i := 160) rfl)) rfl
set_option maxRecDepth 20000 in
theorem tc_T_put : Cond.code by_T_put bc_T_put 2 (some .boolean) ∈ lw_g := lw_gd (lw_in2 (List.mem_of_getElem? (i := 137) rfl)) rfl
set_option maxRecDepth 20000 in
theorem tc_T_take : Cond.code by_T_take bc_T_take 2 (some .boolean) ∈ lw_g := lw_gd (lw_in2 (List.mem_of_getElem? (i := 141) rfl)) rfl
set_option maxRecDepth 20000 in
theorem tc_C_init : Cond.code by_C_init bc_C_init 1 none ∈ lw_g := lw_gd (lw_in1 (List.mem_of_getElem? (i := 43) rfl)) rfl
set_option maxRecDepth 20000 in
theorem tc_C_add : Cond.code by_C_add bc_C_add 2 none ∈ lw_g := lw_gd (lw_in2 (List.mem_of_getElem? (i := 87) rfl)) rfl
set_option maxRecDepth 20000 in
theorem tc_C_before : Cond.code by_C_before bc_C_before 2 (some .int) ∈ lw_g := lw_gd (lw_in2 (List.mem_of_getElem? (i := 208) rfl)) rfl
set_option maxRecDepth 20000 in
theorem tw_min : Cond.code Lib.Math.min.name Lib.Math.min.code 2 (some .int) ∈ lw_g := lw_gd (lw_in2 (List.mem_of_getElem? (i := 58) rfl)) rfl
theorem bin_K : ∀ w ∈ u_ws bR_K bT_K 9, w ∈ lw_g := fun w hw => by
  obtain ⟨k, hk, rfl⟩ := List.mem_map.mp hw
  have hk := List.mem_range.mp hk
  match k, hk with
  | 0, _ => exact tw_1_180
  | 1, _ => exact tw_1_182
  | 2, _ => exact tw_1_184
  | 3, _ => exact tw_1_186
  | 4, _ => exact tw_1_188
  | 5, _ => exact tw_1_190
  | 6, _ => exact tw_1_192
  | 7, _ => exact tw_1_194
  | 8, _ => exact tw_1_196
  | k + 9, hk => exact absurd hk (by omega)
theorem bin_M : ∀ w ∈ u_ws bR_M bT_M 27, w ∈ lw_g := fun w hw => by
  obtain ⟨k, hk, rfl⟩ := List.mem_map.mp hw
  have hk := List.mem_range.mp hk
  match k, hk with
  | 0, _ => exact tw_3_2
  | 1, _ => exact tw_3_4
  | 2, _ => exact tw_3_6
  | 3, _ => exact tw_3_8
  | 4, _ => exact tw_3_10
  | 5, _ => exact tw_3_12
  | 6, _ => exact tw_3_14
  | 7, _ => exact tw_3_16
  | 8, _ => exact tw_3_18
  | 9, _ => exact tw_3_20
  | 10, _ => exact tw_3_22
  | 11, _ => exact tw_3_24
  | 12, _ => exact tw_3_26
  | 13, _ => exact tw_3_28
  | 14, _ => exact tw_3_30
  | 15, _ => exact tw_3_32
  | 16, _ => exact tw_3_34
  | 17, _ => exact tw_3_36
  | 18, _ => exact tw_3_38
  | 19, _ => exact tw_3_40
  | 20, _ => exact tw_3_42
  | 21, _ => exact tw_3_44
  | 22, _ => exact tw_3_46
  | 23, _ => exact tw_3_48
  | 24, _ => exact tw_3_50
  | 25, _ => exact tw_3_52
  | 26, _ => exact tw_3_54
  | k + 27, hk => exact absurd hk (by omega)
theorem bin_L : ∀ w ∈ u_ws bR_L bT_L 2, w ∈ lw_g := fun w hw => by
  obtain ⟨k, hk, rfl⟩ := List.mem_map.mp hw
  have hk := List.mem_range.mp hk
  match k, hk with
  | 0, _ => exact tw_1_33
  | 1, _ => exact tw_1_35
  | k + 2, hk => exact absurd hk (by omega)
theorem bin_P : ∀ w ∈ u_ws bR_P bT_P 16, w ∈ lw_g := fun w hw => by
  obtain ⟨k, hk, rfl⟩ := List.mem_map.mp hw
  have hk := List.mem_range.mp hk
  match k, hk with
  | 0, _ => exact tw_1_92
  | 1, _ => exact tw_1_94
  | 2, _ => exact tw_1_96
  | 3, _ => exact tw_1_98
  | 4, _ => exact tw_1_100
  | 5, _ => exact tw_1_102
  | 6, _ => exact tw_1_104
  | 7, _ => exact tw_1_106
  | 8, _ => exact tw_1_108
  | 9, _ => exact tw_1_110
  | 10, _ => exact tw_1_112
  | 11, _ => exact tw_1_114
  | 12, _ => exact tw_1_116
  | 13, _ => exact tw_1_118
  | 14, _ => exact tw_1_120
  | 15, _ => exact tw_1_122
  | k + 16, hk => exact absurd hk (by omega)
theorem bin_E : ∀ w ∈ u_ws bR_E bT_E 6, w ∈ lw_g := fun w hw => by
  obtain ⟨k, hk, rfl⟩ := List.mem_map.mp hw
  have hk := List.mem_range.mp hk
  match k, hk with
  | 0, _ => exact tw_1_144
  | 1, _ => exact tw_1_146
  | 2, _ => exact tw_1_148
  | 3, _ => exact tw_1_150
  | 4, _ => exact tw_1_152
  | 5, _ => exact tw_1_154
  | k + 6, hk => exact absurd hk (by omega)
theorem bin_T : ∀ w ∈ u_ws bR_T bT_T 2, w ∈ lw_g := fun w hw => by
  obtain ⟨k, hk, rfl⟩ := List.mem_map.mp hw
  have hk := List.mem_range.mp hk
  match k, hk with
  | 0, _ => exact tw_1_166
  | 1, _ => exact tw_1_168
  | k + 2, hk => exact absurd hk (by omega)
theorem bin_C : ∀ w ∈ u_ws bR_C bT_C 3, w ∈ lw_g := fun w hw => by
  obtain ⟨k, hk, rfl⟩ := List.mem_map.mp hw
  have hk := List.mem_range.mp hk
  match k, hk with
  | 0, _ => exact tw_1_48
  | 1, _ => exact tw_1_50
  | 2, _ => exact tw_1_52
  | k + 3, hk => exact absurd hk (by omega)
