abbrev bR_K : String := "BatonKernel"
def bT_K : u_T := fun k => match k with
  | 0 => ("BatonKernel", "procs", "[LBatonKernel$Proc;", true)
  | 1 => ("BatonKernel", "resources", "[LBatonKernel$Resource;", true)
  | 2 => ("BatonKernel", "tanks", "[LBatonKernel$Tank;", true)
  | 3 => ("BatonKernel", "conditions", "LBatonKernel$Line;", true)
  | 4 => ("BatonKernel", "trace", "LBatonKernel$Trace;", true)
  | 5 => ("BatonKernel", "losers", "[I", true)
  | 6 => ("BatonKernel", "made", "I", false)
  | 7 => ("BatonKernel", "clock", "J", false)
  | _ => ("BatonKernel", "entries", "J", false)
def bty_K : Nat → FieldType := fun k => match k with
  | 0 => .array (.object "BatonKernel$Proc")
  | 1 => .array (.object "BatonKernel$Resource")
  | 2 => .array (.object "BatonKernel$Tank")
  | 3 => .object "BatonKernel$Line"
  | 4 => .object "BatonKernel$Trace"
  | 5 => .array .int
  | 6 => .int
  | 7 => .long
  | _ => .long
theorem bn_K : ∀ a, a < 9 → ∀ b, b < 9 → a ≠ b → (bT_K a).2.1 ≠ (bT_K b).2.1 := by decide +kernel
theorem bo_K : ∀ k, k < 9 → parseFieldDescriptor (bT_K k).2.2.1 = some (bty_K k) := by decide +kernel
theorem bcl_K (k : Nat) : (bT_K k).1 = bR_K := by unfold bT_K; split <;> rfl
abbrev bc_K_init : ByteArray := prog_1_method_1_code
abbrev by_K_init : MethodName := ⟨bR_K, "<init>", "()V"⟩
abbrev brm_K_init : Room := { frames := 3, cells := 84, slots := 801, locals := 61 }
theorem bh_K_init : by_K_init.cls = bR_K ∧ by_K_init.cls ≠ "java/lang/invoke/MethodHandle" ∧ by_K_init.cls ≠ "java/lang/invoke/VarHandle" ∧ (parseMethodDescriptor by_K_init.desc).map (fun d => d.parameters.length) = some 0 := by decide +kernel
abbrev bc_K_process : ByteArray := prog_1_method_2_code
abbrev by_K_process : MethodName := ⟨bR_K, "process", "(III)I"⟩
abbrev brm_K_process : Room := { frames := 1, cells := 0, slots := 0, locals := 22 }
theorem bh_K_process : by_K_process.cls = bR_K ∧ by_K_process.cls ≠ "java/lang/invoke/MethodHandle" ∧ by_K_process.cls ≠ "java/lang/invoke/VarHandle" ∧ (parseMethodDescriptor by_K_process.desc).map (fun d => d.parameters.length) = some 3 := by decide +kernel
abbrev bc_K_instruct : ByteArray := prog_1_method_3_code
abbrev by_K_instruct : MethodName := ⟨bR_K, "instruct", "(IIII)Z"⟩
abbrev brm_K_instruct : Room := { frames := 3, cells := 0, slots := 0, locals := 64 }
theorem bh_K_instruct : by_K_instruct.cls = bR_K ∧ by_K_instruct.cls ≠ "java/lang/invoke/MethodHandle" ∧ by_K_instruct.cls ≠ "java/lang/invoke/VarHandle" ∧ (parseMethodDescriptor by_K_instruct.desc).map (fun d => d.parameters.length) = some 4 := by decide +kernel
abbrev bc_K_resource : ByteArray := prog_1_method_4_code
abbrev by_K_resource : MethodName := ⟨bR_K, "resource", "(IIZ)Z"⟩
abbrev brm_K_resource : Room := { frames := 2, cells := 0, slots := 0, locals := 47 }
theorem bh_K_resource : by_K_resource.cls = bR_K ∧ by_K_resource.cls ≠ "java/lang/invoke/MethodHandle" ∧ by_K_resource.cls ≠ "java/lang/invoke/VarHandle" ∧ (parseMethodDescriptor by_K_resource.desc).map (fun d => d.parameters.length) = some 3 := by decide +kernel
abbrev bc_K_tank : ByteArray := prog_1_method_5_code
abbrev by_K_tank : MethodName := ⟨bR_K, "tank", "(III)Z"⟩
abbrev brm_K_tank : Room := { frames := 2, cells := 0, slots := 0, locals := 42 }
theorem bh_K_tank : by_K_tank.cls = bR_K ∧ by_K_tank.cls ≠ "java/lang/invoke/MethodHandle" ∧ by_K_tank.cls ≠ "java/lang/invoke/VarHandle" ∧ (parseMethodDescriptor by_K_tank.desc).map (fun d => d.parameters.length) = some 3 := by decide +kernel
abbrev bc_K_activate : ByteArray := prog_1_method_6_code
abbrev by_K_activate : MethodName := ⟨bR_K, "activate", "(II)Z"⟩
abbrev brm_K_activate : Room := { frames := 1, cells := 0, slots := 0, locals := 23 }
theorem bh_K_activate : by_K_activate.cls = bR_K ∧ by_K_activate.cls ≠ "java/lang/invoke/MethodHandle" ∧ by_K_activate.cls ≠ "java/lang/invoke/VarHandle" ∧ (parseMethodDescriptor by_K_activate.desc).map (fun d => d.parameters.length) = some 2 := by decide +kernel
abbrev bc_K_interrupt : ByteArray := prog_1_method_7_code
abbrev by_K_interrupt : MethodName := ⟨bR_K, "interrupt", "(I)Z"⟩
abbrev brm_K_interrupt : Room := { frames := 2, cells := 0, slots := 0, locals := 47 }
theorem bh_K_interrupt : by_K_interrupt.cls = bR_K ∧ by_K_interrupt.cls ≠ "java/lang/invoke/MethodHandle" ∧ by_K_interrupt.cls ≠ "java/lang/invoke/VarHandle" ∧ (parseMethodDescriptor by_K_interrupt.desc).map (fun d => d.parameters.length) = some 1 := by decide +kernel
abbrev bc_K_kill : ByteArray := prog_1_method_8_code
abbrev by_K_kill : MethodName := ⟨bR_K, "kill", "(I)Z"⟩
abbrev brm_K_kill : Room := { frames := 3, cells := 0, slots := 0, locals := 70 }
theorem bh_K_kill : by_K_kill.cls = bR_K ∧ by_K_kill.cls ≠ "java/lang/invoke/MethodHandle" ∧ by_K_kill.cls ≠ "java/lang/invoke/VarHandle" ∧ (parseMethodDescriptor by_K_kill.desc).map (fun d => d.parameters.length) = some 1 := by decide +kernel
abbrev bc_K_run : ByteArray := prog_1_method_9_code
abbrev by_K_run : MethodName := ⟨bR_K, "run", "(IJ)I"⟩
abbrev brm_K_run : Room := { frames := 6, cells := 0, slots := 0, locals := 140 }
theorem bh_K_run : by_K_run.cls = bR_K ∧ by_K_run.cls ≠ "java/lang/invoke/MethodHandle" ∧ by_K_run.cls ≠ "java/lang/invoke/VarHandle" ∧ (parseMethodDescriptor by_K_run.desc).map (fun d => d.parameters.length) = some 2 := by decide +kernel
abbrev bc_K_now : ByteArray := prog_1_method_10_code
abbrev by_K_now : MethodName := ⟨bR_K, "now", "()J"⟩
abbrev brm_K_now : Room := { frames := 0, cells := 0, slots := 0, locals := 0 }
theorem bh_K_now : by_K_now.cls = bR_K ∧ by_K_now.cls ≠ "java/lang/invoke/MethodHandle" ∧ by_K_now.cls ≠ "java/lang/invoke/VarHandle" ∧ (parseMethodDescriptor by_K_now.desc).map (fun d => d.parameters.length) = some 0 := by decide +kernel
abbrev bc_K_next : ByteArray := prog_1_method_11_code
abbrev by_K_next : MethodName := ⟨bR_K, "next", "()J"⟩
abbrev brm_K_next : Room := { frames := 2, cells := 0, slots := 0, locals := 43 }
theorem bh_K_next : by_K_next.cls = bR_K ∧ by_K_next.cls ≠ "java/lang/invoke/MethodHandle" ∧ by_K_next.cls ≠ "java/lang/invoke/VarHandle" ∧ (parseMethodDescriptor by_K_next.desc).map (fun d => d.parameters.length) = some 0 := by decide +kernel
abbrev bc_K_state : ByteArray := prog_1_method_12_code
abbrev by_K_state : MethodName := ⟨bR_K, "state", "(I)I"⟩
abbrev brm_K_state : Room := { frames := 1, cells := 0, slots := 0, locals := 21 }
theorem bh_K_state : by_K_state.cls = bR_K ∧ by_K_state.cls ≠ "java/lang/invoke/MethodHandle" ∧ by_K_state.cls ≠ "java/lang/invoke/VarHandle" ∧ (parseMethodDescriptor by_K_state.desc).map (fun d => d.parameters.length) = some 1 := by decide +kernel
abbrev bc_K_place : ByteArray := prog_1_method_13_code
abbrev by_K_place : MethodName := ⟨bR_K, "place", "(I)I"⟩
abbrev brm_K_place : Room := { frames := 1, cells := 0, slots := 0, locals := 21 }
theorem bh_K_place : by_K_place.cls = bR_K ∧ by_K_place.cls ≠ "java/lang/invoke/MethodHandle" ∧ by_K_place.cls ≠ "java/lang/invoke/VarHandle" ∧ (parseMethodDescriptor by_K_place.desc).map (fun d => d.parameters.length) = some 1 := by decide +kernel
abbrev bc_K_held : ByteArray := prog_1_method_14_code
abbrev by_K_held : MethodName := ⟨bR_K, "held", "(II)I"⟩
abbrev brm_K_held : Room := { frames := 2, cells := 0, slots := 0, locals := 42 }
theorem bh_K_held : by_K_held.cls = bR_K ∧ by_K_held.cls ≠ "java/lang/invoke/MethodHandle" ∧ by_K_held.cls ≠ "java/lang/invoke/VarHandle" ∧ (parseMethodDescriptor by_K_held.desc).map (fun d => d.parameters.length) = some 2 := by decide +kernel
abbrev bc_K_free : ByteArray := prog_1_method_15_code
abbrev by_K_free : MethodName := ⟨bR_K, "free", "(I)I"⟩
abbrev brm_K_free : Room := { frames := 2, cells := 0, slots := 0, locals := 42 }
theorem bh_K_free : by_K_free.cls = bR_K ∧ by_K_free.cls ≠ "java/lang/invoke/MethodHandle" ∧ by_K_free.cls ≠ "java/lang/invoke/VarHandle" ∧ (parseMethodDescriptor by_K_free.desc).map (fun d => d.parameters.length) = some 1 := by decide +kernel
abbrev bc_K_waiting : ByteArray := prog_1_method_16_code
abbrev by_K_waiting : MethodName := ⟨bR_K, "waiting", "(I)I"⟩
abbrev brm_K_waiting : Room := { frames := 2, cells := 0, slots := 0, locals := 42 }
theorem bh_K_waiting : by_K_waiting.cls = bR_K ∧ by_K_waiting.cls ≠ "java/lang/invoke/MethodHandle" ∧ by_K_waiting.cls ≠ "java/lang/invoke/VarHandle" ∧ (parseMethodDescriptor by_K_waiting.desc).map (fun d => d.parameters.length) = some 1 := by decide +kernel
abbrev bc_K_area : ByteArray := prog_1_method_17_code
abbrev by_K_area : MethodName := ⟨bR_K, "area", "(I)J"⟩
abbrev brm_K_area : Room := { frames := 2, cells := 0, slots := 0, locals := 42 }
theorem bh_K_area : by_K_area.cls = bR_K ∧ by_K_area.cls ≠ "java/lang/invoke/MethodHandle" ∧ by_K_area.cls ≠ "java/lang/invoke/VarHandle" ∧ (parseMethodDescriptor by_K_area.desc).map (fun d => d.parameters.length) = some 1 := by decide +kernel
abbrev bc_K_waited : ByteArray := prog_1_method_18_code
abbrev by_K_waited : MethodName := ⟨bR_K, "waited", "(I)J"⟩
abbrev brm_K_waited : Room := { frames := 2, cells := 0, slots := 0, locals := 42 }
theorem bh_K_waited : by_K_waited.cls = bR_K ∧ by_K_waited.cls ≠ "java/lang/invoke/MethodHandle" ∧ by_K_waited.cls ≠ "java/lang/invoke/VarHandle" ∧ (parseMethodDescriptor by_K_waited.desc).map (fun d => d.parameters.length) = some 1 := by decide +kernel
abbrev bc_K_level : ByteArray := prog_1_method_19_code
abbrev by_K_level : MethodName := ⟨bR_K, "level", "(I)I"⟩
abbrev brm_K_level : Room := { frames := 2, cells := 0, slots := 0, locals := 42 }
theorem bh_K_level : by_K_level.cls = bR_K ∧ by_K_level.cls ≠ "java/lang/invoke/MethodHandle" ∧ by_K_level.cls ≠ "java/lang/invoke/VarHandle" ∧ (parseMethodDescriptor by_K_level.desc).map (fun d => d.parameters.length) = some 1 := by decide +kernel
abbrev bc_K_stuck : ByteArray := prog_1_method_20_code
abbrev by_K_stuck : MethodName := ⟨bR_K, "stuck", "()Z"⟩
abbrev brm_K_stuck : Room := { frames := 2, cells := 0, slots := 0, locals := 43 }
theorem bh_K_stuck : by_K_stuck.cls = bR_K ∧ by_K_stuck.cls ≠ "java/lang/invoke/MethodHandle" ∧ by_K_stuck.cls ≠ "java/lang/invoke/VarHandle" ∧ (parseMethodDescriptor by_K_stuck.desc).map (fun d => d.parameters.length) = some 0 := by decide +kernel
abbrev bc_K_traced : ByteArray := prog_1_method_21_code
abbrev by_K_traced : MethodName := ⟨bR_K, "traced", "(I)I"⟩
abbrev brm_K_traced : Room := { frames := 1, cells := 0, slots := 0, locals := 21 }
theorem bh_K_traced : by_K_traced.cls = bR_K ∧ by_K_traced.cls ≠ "java/lang/invoke/MethodHandle" ∧ by_K_traced.cls ≠ "java/lang/invoke/VarHandle" ∧ (parseMethodDescriptor by_K_traced.desc).map (fun d => d.parameters.length) = some 1 := by decide +kernel
abbrev bc_K_isWithin : ByteArray := prog_1_method_22_code
abbrev by_K_isWithin : MethodName := ⟨bR_K, "isWithin", "(III)Z"⟩
abbrev brm_K_isWithin : Room := { frames := 0, cells := 0, slots := 0, locals := 0 }
theorem bh_K_isWithin : by_K_isWithin.cls = bR_K ∧ by_K_isWithin.cls ≠ "java/lang/invoke/MethodHandle" ∧ by_K_isWithin.cls ≠ "java/lang/invoke/VarHandle" ∧ (parseMethodDescriptor by_K_isWithin.desc).map (fun d => d.parameters.length) = some 3 := by decide +kernel
abbrev bc_K_isResource : ByteArray := prog_1_method_23_code
abbrev by_K_isResource : MethodName := ⟨bR_K, "isResource", "(I)Z"⟩
abbrev brm_K_isResource : Room := { frames := 1, cells := 0, slots := 0, locals := 22 }
theorem bh_K_isResource : by_K_isResource.cls = bR_K ∧ by_K_isResource.cls ≠ "java/lang/invoke/MethodHandle" ∧ by_K_isResource.cls ≠ "java/lang/invoke/VarHandle" ∧ (parseMethodDescriptor by_K_isResource.desc).map (fun d => d.parameters.length) = some 1 := by decide +kernel
abbrev bc_K_isTank : ByteArray := prog_1_method_24_code
abbrev by_K_isTank : MethodName := ⟨bR_K, "isTank", "(I)Z"⟩
abbrev brm_K_isTank : Room := { frames := 1, cells := 0, slots := 0, locals := 22 }
theorem bh_K_isTank : by_K_isTank.cls = bR_K ∧ by_K_isTank.cls ≠ "java/lang/invoke/MethodHandle" ∧ by_K_isTank.cls ≠ "java/lang/invoke/VarHandle" ∧ (parseMethodDescriptor by_K_isTank.desc).map (fun d => d.parameters.length) = some 1 := by decide +kernel
abbrev bc_K_isProcess : ByteArray := prog_1_method_25_code
abbrev by_K_isProcess : MethodName := ⟨bR_K, "isProcess", "(I)Z"⟩
abbrev brm_K_isProcess : Room := { frames := 0, cells := 0, slots := 0, locals := 0 }
theorem bh_K_isProcess : by_K_isProcess.cls = bR_K ∧ by_K_isProcess.cls ≠ "java/lang/invoke/MethodHandle" ∧ by_K_isProcess.cls ≠ "java/lang/invoke/VarHandle" ∧ (parseMethodDescriptor by_K_isProcess.desc).map (fun d => d.parameters.length) = some 1 := by decide +kernel
abbrev bc_K_isInstruction : ByteArray := prog_1_method_26_code
abbrev by_K_isInstruction : MethodName := ⟨bR_K, "isInstruction", "(III)Z"⟩
abbrev brm_K_isInstruction : Room := { frames := 2, cells := 0, slots := 0, locals := 42 }
theorem bh_K_isInstruction : by_K_isInstruction.cls = bR_K ∧ by_K_isInstruction.cls ≠ "java/lang/invoke/MethodHandle" ∧ by_K_isInstruction.cls ≠ "java/lang/invoke/VarHandle" ∧ (parseMethodDescriptor by_K_isInstruction.desc).map (fun d => d.parameters.length) = some 3 := by decide +kernel
abbrev bc_K_moveClock : ByteArray := prog_1_method_27_code
abbrev by_K_moveClock : MethodName := ⟨bR_K, "moveClock", "(J)V"⟩
abbrev brm_K_moveClock : Room := { frames := 0, cells := 0, slots := 0, locals := 0 }
theorem bh_K_moveClock : by_K_moveClock.cls = bR_K ∧ by_K_moveClock.cls ≠ "java/lang/invoke/MethodHandle" ∧ by_K_moveClock.cls ≠ "java/lang/invoke/VarHandle" ∧ (parseMethodDescriptor by_K_moveClock.desc).map (fun d => d.parameters.length) = some 1 := by decide +kernel
abbrev bc_K_enter : ByteArray := prog_1_method_28_code
abbrev by_K_enter : MethodName := ⟨bR_K, "enter", "(LBatonKernel$Proc;II)V"⟩
abbrev brm_K_enter : Room := { frames := 0, cells := 0, slots := 0, locals := 0 }
theorem bh_K_enter : by_K_enter.cls = bR_K ∧ by_K_enter.cls ≠ "java/lang/invoke/MethodHandle" ∧ by_K_enter.cls ≠ "java/lang/invoke/VarHandle" ∧ (parseMethodDescriptor by_K_enter.desc).map (fun d => d.parameters.length) = some 3 := by decide +kernel
abbrev bc_K_firstEntry : ByteArray := prog_1_method_29_code
abbrev by_K_firstEntry : MethodName := ⟨bR_K, "firstEntry", "()I"⟩
abbrev brm_K_firstEntry : Room := { frames := 1, cells := 0, slots := 0, locals := 21 }
theorem bh_K_firstEntry : by_K_firstEntry.cls = bR_K ∧ by_K_firstEntry.cls ≠ "java/lang/invoke/MethodHandle" ∧ by_K_firstEntry.cls ≠ "java/lang/invoke/VarHandle" ∧ (parseMethodDescriptor by_K_firstEntry.desc).map (fun d => d.parameters.length) = some 0 := by decide +kernel
abbrev bc_K_begin : ByteArray := prog_1_method_30_code
abbrev by_K_begin : MethodName := ⟨bR_K, "begin", "(LBatonKernel$Proc;)V"⟩
abbrev brm_K_begin : Room := { frames := 2, cells := 0, slots := 0, locals := 42 }
theorem bh_K_begin : by_K_begin.cls = bR_K ∧ by_K_begin.cls ≠ "java/lang/invoke/MethodHandle" ∧ by_K_begin.cls ≠ "java/lang/invoke/VarHandle" ∧ (parseMethodDescriptor by_K_begin.desc).map (fun d => d.parameters.length) = some 1 := by decide +kernel
abbrev bc_K_doTurn : ByteArray := prog_1_method_31_code
abbrev by_K_doTurn : MethodName := ⟨bR_K, "doTurn", "(LBatonKernel$Proc;)V"⟩
abbrev brm_K_doTurn : Room := { frames := 5, cells := 0, slots := 0, locals := 117 }
theorem bh_K_doTurn : by_K_doTurn.cls = bR_K ∧ by_K_doTurn.cls ≠ "java/lang/invoke/MethodHandle" ∧ by_K_doTurn.cls ≠ "java/lang/invoke/VarHandle" ∧ (parseMethodDescriptor by_K_doTurn.desc).map (fun d => d.parameters.length) = some 1 := by decide +kernel
abbrev bc_K_perform : ByteArray := prog_1_method_32_code
abbrev by_K_perform : MethodName := ⟨bR_K, "perform", "(LBatonKernel$Proc;)Z"⟩
abbrev brm_K_perform : Room := { frames := 4, cells := 0, slots := 0, locals := 95 }
theorem bh_K_perform : by_K_perform.cls = bR_K ∧ by_K_perform.cls ≠ "java/lang/invoke/MethodHandle" ∧ by_K_perform.cls ≠ "java/lang/invoke/VarHandle" ∧ (parseMethodDescriptor by_K_perform.desc).map (fun d => d.parameters.length) = some 1 := by decide +kernel
abbrev bc_K_countBefore : ByteArray := prog_1_method_33_code
abbrev by_K_countBefore : MethodName := ⟨bR_K, "countBefore", "(II)I"⟩
abbrev brm_K_countBefore : Room := { frames := 0, cells := 0, slots := 0, locals := 0 }
theorem bh_K_countBefore : by_K_countBefore.cls = bR_K ∧ by_K_countBefore.cls ≠ "java/lang/invoke/MethodHandle" ∧ by_K_countBefore.cls ≠ "java/lang/invoke/VarHandle" ∧ (parseMethodDescriptor by_K_countBefore.desc).map (fun d => d.parameters.length) = some 2 := by decide +kernel
abbrev bc_K_seizeFree : ByteArray := prog_1_method_34_code
abbrev by_K_seizeFree : MethodName := ⟨bR_K, "seizeFree", "(LBatonKernel$Proc;)Z"⟩
abbrev brm_K_seizeFree : Room := { frames := 1, cells := 0, slots := 0, locals := 24 }
theorem bh_K_seizeFree : by_K_seizeFree.cls = bR_K ∧ by_K_seizeFree.cls ≠ "java/lang/invoke/MethodHandle" ∧ by_K_seizeFree.cls ≠ "java/lang/invoke/VarHandle" ∧ (parseMethodDescriptor by_K_seizeFree.desc).map (fun d => d.parameters.length) = some 1 := by decide +kernel
abbrev bc_K_seizeByForce : ByteArray := prog_1_method_35_code
abbrev by_K_seizeByForce : MethodName := ⟨bR_K, "seizeByForce", "(LBatonKernel$Proc;)Z"⟩
abbrev brm_K_seizeByForce : Room := { frames := 3, cells := 0, slots := 0, locals := 70 }
theorem bh_K_seizeByForce : by_K_seizeByForce.cls = bR_K ∧ by_K_seizeByForce.cls ≠ "java/lang/invoke/MethodHandle" ∧ by_K_seizeByForce.cls ≠ "java/lang/invoke/VarHandle" ∧ (parseMethodDescriptor by_K_seizeByForce.desc).map (fun d => d.parameters.length) = some 1 := by decide +kernel
abbrev bc_K_standInLine : ByteArray := prog_1_method_36_code
abbrev by_K_standInLine : MethodName := ⟨bR_K, "standInLine", "(LBatonKernel$Proc;)Z"⟩
abbrev brm_K_standInLine : Room := { frames := 1, cells := 0, slots := 0, locals := 24 }
theorem bh_K_standInLine : by_K_standInLine.cls = bR_K ∧ by_K_standInLine.cls ≠ "java/lang/invoke/MethodHandle" ∧ by_K_standInLine.cls ≠ "java/lang/invoke/VarHandle" ∧ (parseMethodDescriptor by_K_standInLine.desc).map (fun d => d.parameters.length) = some 1 := by decide +kernel
abbrev bc_K_withinReach : ByteArray := prog_1_method_37_code
abbrev by_K_withinReach : MethodName := ⟨bR_K, "withinReach", "(LBatonKernel$Proc;I)I"⟩
abbrev brm_K_withinReach : Room := { frames := 1, cells := 0, slots := 0, locals := 20 }
theorem bh_K_withinReach : by_K_withinReach.cls = bR_K ∧ by_K_withinReach.cls ≠ "java/lang/invoke/MethodHandle" ∧ by_K_withinReach.cls ≠ "java/lang/invoke/VarHandle" ∧ (parseMethodDescriptor by_K_withinReach.desc).map (fun d => d.parameters.length) = some 2 := by decide +kernel
abbrev bc_K_takeFromLosers : ByteArray := prog_1_method_38_code
abbrev by_K_takeFromLosers : MethodName := ⟨bR_K, "takeFromLosers", "(LBatonKernel$Proc;II)I"⟩
abbrev brm_K_takeFromLosers : Room := { frames := 1, cells := 0, slots := 0, locals := 25 }
theorem bh_K_takeFromLosers : by_K_takeFromLosers.cls = bR_K ∧ by_K_takeFromLosers.cls ≠ "java/lang/invoke/MethodHandle" ∧ by_K_takeFromLosers.cls ≠ "java/lang/invoke/VarHandle" ∧ (parseMethodDescriptor by_K_takeFromLosers.desc).map (fun d => d.parameters.length) = some 3 := by decide +kernel
abbrev bc_K_nextLoser : ByteArray := prog_1_method_39_code
abbrev by_K_nextLoser : MethodName := ⟨bR_K, "nextLoser", "(LBatonKernel$Proc;I)I"⟩
abbrev brm_K_nextLoser : Room := { frames := 0, cells := 0, slots := 0, locals := 0 }
theorem bh_K_nextLoser : by_K_nextLoser.cls = bR_K ∧ by_K_nextLoser.cls ≠ "java/lang/invoke/MethodHandle" ∧ by_K_nextLoser.cls ≠ "java/lang/invoke/VarHandle" ∧ (parseMethodDescriptor by_K_nextLoser.desc).map (fun d => d.parameters.length) = some 2 := by decide +kernel
abbrev bc_K_give : ByteArray := prog_1_method_40_code
abbrev by_K_give : MethodName := ⟨bR_K, "give", "(LBatonKernel$Proc;II)V"⟩
abbrev brm_K_give : Room := { frames := 0, cells := 0, slots := 0, locals := 0 }
theorem bh_K_give : by_K_give.cls = bR_K ∧ by_K_give.cls ≠ "java/lang/invoke/MethodHandle" ∧ by_K_give.cls ≠ "java/lang/invoke/VarHandle" ∧ (parseMethodDescriptor by_K_give.desc).map (fun d => d.parameters.length) = some 3 := by decide +kernel
abbrev bc_K_takeBack : ByteArray := prog_1_method_41_code
abbrev by_K_takeBack : MethodName := ⟨bR_K, "takeBack", "(LBatonKernel$Proc;II)V"⟩
abbrev brm_K_takeBack : Room := { frames := 0, cells := 0, slots := 0, locals := 0 }
theorem bh_K_takeBack : by_K_takeBack.cls = bR_K ∧ by_K_takeBack.cls ≠ "java/lang/invoke/MethodHandle" ∧ by_K_takeBack.cls ≠ "java/lang/invoke/VarHandle" ∧ (parseMethodDescriptor by_K_takeBack.desc).map (fun d => d.parameters.length) = some 3 := by decide +kernel
abbrev bc_K_giveBack : ByteArray := prog_1_method_42_code
abbrev by_K_giveBack : MethodName := ⟨bR_K, "giveBack", "(LBatonKernel$Proc;II)V"⟩
abbrev brm_K_giveBack : Room := { frames := 2, cells := 0, slots := 0, locals := 47 }
theorem bh_K_giveBack : by_K_giveBack.cls = bR_K ∧ by_K_giveBack.cls ≠ "java/lang/invoke/MethodHandle" ∧ by_K_giveBack.cls ≠ "java/lang/invoke/VarHandle" ∧ (parseMethodDescriptor by_K_giveBack.desc).map (fun d => d.parameters.length) = some 3 := by decide +kernel
abbrev bc_K_serve : ByteArray := prog_1_method_43_code
abbrev by_K_serve : MethodName := ⟨bR_K, "serve", "(I)V"⟩
abbrev brm_K_serve : Room := { frames := 1, cells := 0, slots := 0, locals := 23 }
theorem bh_K_serve : by_K_serve.cls = bR_K ∧ by_K_serve.cls ≠ "java/lang/invoke/MethodHandle" ∧ by_K_serve.cls ≠ "java/lang/invoke/VarHandle" ∧ (parseMethodDescriptor by_K_serve.desc).map (fun d => d.parameters.length) = some 1 := by decide +kernel
abbrev bc_K_meetCondition : ByteArray := prog_1_method_44_code
abbrev by_K_meetCondition : MethodName := ⟨bR_K, "meetCondition", "(LBatonKernel$Proc;)Z"⟩
abbrev brm_K_meetCondition : Room := { frames := 1, cells := 0, slots := 0, locals := 21 }
theorem bh_K_meetCondition : by_K_meetCondition.cls = bR_K ∧ by_K_meetCondition.cls ≠ "java/lang/invoke/MethodHandle" ∧ by_K_meetCondition.cls ≠ "java/lang/invoke/VarHandle" ∧ (parseMethodDescriptor by_K_meetCondition.desc).map (fun d => d.parameters.length) = some 1 := by decide +kernel
abbrev bc_K_waitForCondition : ByteArray := prog_1_method_45_code
abbrev by_K_waitForCondition : MethodName := ⟨bR_K, "waitForCondition", "(LBatonKernel$Proc;)Z"⟩
abbrev brm_K_waitForCondition : Room := { frames := 1, cells := 0, slots := 0, locals := 23 }
theorem bh_K_waitForCondition : by_K_waitForCondition.cls = bR_K ∧ by_K_waitForCondition.cls ≠ "java/lang/invoke/MethodHandle" ∧ by_K_waitForCondition.cls ≠ "java/lang/invoke/VarHandle" ∧ (parseMethodDescriptor by_K_waitForCondition.desc).map (fun d => d.parameters.length) = some 1 := by decide +kernel
abbrev bc_K_goOverConditions : ByteArray := prog_1_method_46_code
abbrev by_K_goOverConditions : MethodName := ⟨bR_K, "goOverConditions", "()V"⟩
abbrev brm_K_goOverConditions : Room := { frames := 2, cells := 0, slots := 0, locals := 43 }
theorem bh_K_goOverConditions : by_K_goOverConditions.cls = bR_K ∧ by_K_goOverConditions.cls ≠ "java/lang/invoke/MethodHandle" ∧ by_K_goOverConditions.cls ≠ "java/lang/invoke/VarHandle" ∧ (parseMethodDescriptor by_K_goOverConditions.desc).map (fun d => d.parameters.length) = some 0 := by decide +kernel
abbrev bc_K_lineOf : ByteArray := prog_1_method_47_code
abbrev by_K_lineOf : MethodName := ⟨bR_K, "lineOf", "(LBatonKernel$Proc;)I"⟩
abbrev brm_K_lineOf : Room := { frames := 1, cells := 0, slots := 0, locals := 20 }
theorem bh_K_lineOf : by_K_lineOf.cls = bR_K ∧ by_K_lineOf.cls ≠ "java/lang/invoke/MethodHandle" ∧ by_K_lineOf.cls ≠ "java/lang/invoke/VarHandle" ∧ (parseMethodDescriptor by_K_lineOf.desc).map (fun d => d.parameters.length) = some 1 := by decide +kernel
abbrev bc_K_leave : ByteArray := prog_1_method_48_code
abbrev by_K_leave : MethodName := ⟨bR_K, "leave", "(LBatonKernel$Proc;)V"⟩
abbrev brm_K_leave : Room := { frames := 1, cells := 0, slots := 0, locals := 23 }
theorem bh_K_leave : by_K_leave.cls = bR_K ∧ by_K_leave.cls ≠ "java/lang/invoke/MethodHandle" ∧ by_K_leave.cls ≠ "java/lang/invoke/VarHandle" ∧ (parseMethodDescriptor by_K_leave.desc).map (fun d => d.parameters.length) = some 1 := by decide +kernel
abbrev bR_M : String := "BatonKernelModel"
def bT_M : u_T := fun k => match k with
  | 0 => ("BatonKernelModel", "count", "I", false)
  | 1 => ("BatonKernelModel", "order", "I", false)
  | 2 => ("BatonKernelModel", "coming", "I", false)
  | 3 => ("BatonKernelModel", "events", "I", false)
  | 4 => ("BatonKernelModel", "clock", "J", false)
  | 5 => ("BatonKernelModel", "priority", "[I", false)
  | 6 => ("BatonKernelModel", "rounds", "[I", false)
  | 7 => ("BatonKernelModel", "handler", "[I", false)
  | 8 => ("BatonKernelModel", "length", "[I", false)
  | 9 => ("BatonKernelModel", "spot", "[I", false)
  | 10 => ("BatonKernelModel", "mode", "[I", false)
  | 11 => ("BatonKernelModel", "time", "[J", false)
  | 12 => ("BatonKernelModel", "entry", "[I", false)
  | 13 => ("BatonKernelModel", "came", "[I", false)
  | 14 => ("BatonKernelModel", "since", "[J", false)
  | 15 => ("BatonKernelModel", "op", "[I", false)
  | 16 => ("BatonKernelModel", "argA", "[I", false)
  | 17 => ("BatonKernelModel", "argB", "[I", false)
  | 18 => ("BatonKernelModel", "has", "[I", false)
  | 19 => ("BatonKernelModel", "units", "[I", false)
  | 20 => ("BatonKernelModel", "strong", "[Z", false)
  | 21 => ("BatonKernelModel", "sum", "[J", false)
  | 22 => ("BatonKernelModel", "lined", "[J", false)
  | 23 => ("BatonKernelModel", "most", "[I", false)
  | 24 => ("BatonKernelModel", "full", "[I", false)
  | 25 => ("BatonKernelModel", "lost", "[I", false)
  | _ => ("BatonKernelModel", "trace", "[I", false)
def bty_M : Nat → FieldType := fun k => match k with
  | 0 => .int
  | 1 => .int
  | 2 => .int
  | 3 => .int
  | 4 => .long
  | 5 => .array .int
  | 6 => .array .int
  | 7 => .array .int
  | 8 => .array .int
  | 9 => .array .int
  | 10 => .array .int
  | 11 => .array .long
  | 12 => .array .int
  | 13 => .array .int
  | 14 => .array .long
  | 15 => .array .int
  | 16 => .array .int
  | 17 => .array .int
  | 18 => .array .int
  | 19 => .array .int
  | 20 => .array .boolean
  | 21 => .array .long
  | 22 => .array .long
  | 23 => .array .int
  | 24 => .array .int
  | 25 => .array .int
  | _ => .array .int
theorem bn_M : ∀ a, a < 27 → ∀ b, b < 27 → a ≠ b → (bT_M a).2.1 ≠ (bT_M b).2.1 := by decide +kernel
theorem bo_M : ∀ k, k < 27 → parseFieldDescriptor (bT_M k).2.2.1 = some (bty_M k) := by decide +kernel
theorem bcl_M (k : Nat) : (bT_M k).1 = bR_M := by unfold bT_M; split <;> rfl
abbrev bc_M_init : ByteArray := prog_8_method_1_code
abbrev by_M_init : MethodName := ⟨bR_M, "<init>", "()V"⟩
abbrev brm_M_init : Room := { frames := 1, cells := 22, slots := 628, locals := 21 }
theorem bh_M_init : by_M_init.cls = bR_M ∧ by_M_init.cls ≠ "java/lang/invoke/MethodHandle" ∧ by_M_init.cls ≠ "java/lang/invoke/VarHandle" ∧ (parseMethodDescriptor by_M_init.desc).map (fun d => d.parameters.length) = some 0 := by decide +kernel
abbrev bc_M_process : ByteArray := prog_8_method_2_code
abbrev by_M_process : MethodName := ⟨bR_M, "process", "(III)I"⟩
abbrev brm_M_process : Room := { frames := 0, cells := 0, slots := 0, locals := 0 }
theorem bh_M_process : by_M_process.cls = bR_M ∧ by_M_process.cls ≠ "java/lang/invoke/MethodHandle" ∧ by_M_process.cls ≠ "java/lang/invoke/VarHandle" ∧ (parseMethodDescriptor by_M_process.desc).map (fun d => d.parameters.length) = some 3 := by decide +kernel
abbrev bc_M_within : ByteArray := prog_8_method_3_code
abbrev by_M_within : MethodName := ⟨bR_M, "within", "(III)Z"⟩
abbrev brm_M_within : Room := { frames := 0, cells := 0, slots := 0, locals := 0 }
theorem bh_M_within : by_M_within.cls = bR_M ∧ by_M_within.cls ≠ "java/lang/invoke/MethodHandle" ∧ by_M_within.cls ≠ "java/lang/invoke/VarHandle" ∧ (parseMethodDescriptor by_M_within.desc).map (fun d => d.parameters.length) = some 3 := by decide +kernel
abbrev bc_M_fits : ByteArray := prog_8_method_4_code
abbrev by_M_fits : MethodName := ⟨bR_M, "fits", "(III)Z"⟩
abbrev brm_M_fits : Room := { frames := 1, cells := 0, slots := 0, locals := 23 }
theorem bh_M_fits : by_M_fits.cls = bR_M ∧ by_M_fits.cls ≠ "java/lang/invoke/MethodHandle" ∧ by_M_fits.cls ≠ "java/lang/invoke/VarHandle" ∧ (parseMethodDescriptor by_M_fits.desc).map (fun d => d.parameters.length) = some 3 := by decide +kernel
abbrev bc_M_none : ByteArray := prog_8_method_5_code
abbrev by_M_none : MethodName := ⟨bR_M, "none", "(I)Z"⟩
abbrev brm_M_none : Room := { frames := 0, cells := 0, slots := 0, locals := 0 }
theorem bh_M_none : by_M_none.cls = bR_M ∧ by_M_none.cls ≠ "java/lang/invoke/MethodHandle" ∧ by_M_none.cls ≠ "java/lang/invoke/VarHandle" ∧ (parseMethodDescriptor by_M_none.desc).map (fun d => d.parameters.length) = some 1 := by decide +kernel
abbrev bc_M_instruct : ByteArray := prog_8_method_6_code
abbrev by_M_instruct : MethodName := ⟨bR_M, "instruct", "(IIII)Z"⟩
abbrev brm_M_instruct : Room := { frames := 2, cells := 0, slots := 0, locals := 46 }
theorem bh_M_instruct : by_M_instruct.cls = bR_M ∧ by_M_instruct.cls ≠ "java/lang/invoke/MethodHandle" ∧ by_M_instruct.cls ≠ "java/lang/invoke/VarHandle" ∧ (parseMethodDescriptor by_M_instruct.desc).map (fun d => d.parameters.length) = some 4 := by decide +kernel
abbrev bc_M_resource : ByteArray := prog_8_method_7_code
abbrev by_M_resource : MethodName := ⟨bR_M, "resource", "(IIZ)Z"⟩
abbrev brm_M_resource : Room := { frames := 3, cells := 0, slots := 0, locals := 67 }
theorem bh_M_resource : by_M_resource.cls = bR_M ∧ by_M_resource.cls ≠ "java/lang/invoke/MethodHandle" ∧ by_M_resource.cls ≠ "java/lang/invoke/VarHandle" ∧ (parseMethodDescriptor by_M_resource.desc).map (fun d => d.parameters.length) = some 3 := by decide +kernel
abbrev bc_M_tank : ByteArray := prog_8_method_8_code
abbrev by_M_tank : MethodName := ⟨bR_M, "tank", "(III)Z"⟩
abbrev brm_M_tank : Room := { frames := 1, cells := 0, slots := 0, locals := 23 }
theorem bh_M_tank : by_M_tank.cls = bR_M ∧ by_M_tank.cls ≠ "java/lang/invoke/MethodHandle" ∧ by_M_tank.cls ≠ "java/lang/invoke/VarHandle" ∧ (parseMethodDescriptor by_M_tank.desc).map (fun d => d.parameters.length) = some 3 := by decide +kernel
abbrev bc_M_enter : ByteArray := prog_8_method_9_code
abbrev by_M_enter : MethodName := ⟨bR_M, "enter", "(IIJ)V"⟩
abbrev brm_M_enter : Room := { frames := 0, cells := 0, slots := 0, locals := 0 }
theorem bh_M_enter : by_M_enter.cls = bR_M ∧ by_M_enter.cls ≠ "java/lang/invoke/MethodHandle" ∧ by_M_enter.cls ≠ "java/lang/invoke/VarHandle" ∧ (parseMethodDescriptor by_M_enter.desc).map (fun d => d.parameters.length) = some 3 := by decide +kernel
abbrev bc_M_sooner : ByteArray := prog_8_method_10_code
abbrev by_M_sooner : MethodName := ⟨bR_M, "sooner", "(II)Z"⟩
abbrev brm_M_sooner : Room := { frames := 0, cells := 0, slots := 0, locals := 0 }
theorem bh_M_sooner : by_M_sooner.cls = bR_M ∧ by_M_sooner.cls ≠ "java/lang/invoke/MethodHandle" ∧ by_M_sooner.cls ≠ "java/lang/invoke/VarHandle" ∧ (parseMethodDescriptor by_M_sooner.desc).map (fun d => d.parameters.length) = some 2 := by decide +kernel
abbrev bc_M_first : ByteArray := prog_8_method_11_code
abbrev by_M_first : MethodName := ⟨bR_M, "first", "()I"⟩
abbrev brm_M_first : Room := { frames := 1, cells := 0, slots := 0, locals := 22 }
theorem bh_M_first : by_M_first.cls = bR_M ∧ by_M_first.cls ≠ "java/lang/invoke/MethodHandle" ∧ by_M_first.cls ≠ "java/lang/invoke/VarHandle" ∧ (parseMethodDescriptor by_M_first.desc).map (fun d => d.parameters.length) = some 0 := by decide +kernel
abbrev bc_M_seized : ByteArray := prog_8_method_12_code
abbrev by_M_seized : MethodName := ⟨bR_M, "seized", "(I)I"⟩
abbrev brm_M_seized : Room := { frames := 0, cells := 0, slots := 0, locals := 0 }
theorem bh_M_seized : by_M_seized.cls = bR_M ∧ by_M_seized.cls ≠ "java/lang/invoke/MethodHandle" ∧ by_M_seized.cls ≠ "java/lang/invoke/VarHandle" ∧ (parseMethodDescriptor by_M_seized.desc).map (fun d => d.parameters.length) = some 1 := by decide +kernel
abbrev bc_M_rest : ByteArray := prog_8_method_13_code
abbrev by_M_rest : MethodName := ⟨bR_M, "rest", "(I)I"⟩
abbrev brm_M_rest : Room := { frames := 1, cells := 0, slots := 0, locals := 23 }
theorem bh_M_rest : by_M_rest.cls = bR_M ∧ by_M_rest.cls ≠ "java/lang/invoke/MethodHandle" ∧ by_M_rest.cls ≠ "java/lang/invoke/VarHandle" ∧ (parseMethodDescriptor by_M_rest.desc).map (fun d => d.parameters.length) = some 1 := by decide +kernel
abbrev bc_M_done : ByteArray := prog_8_method_14_code
abbrev by_M_done : MethodName := ⟨bR_M, "done", "(I)I"⟩
abbrev brm_M_done : Room := { frames := 0, cells := 0, slots := 0, locals := 0 }
theorem bh_M_done : by_M_done.cls = bR_M ∧ by_M_done.cls ≠ "java/lang/invoke/MethodHandle" ∧ by_M_done.cls ≠ "java/lang/invoke/VarHandle" ∧ (parseMethodDescriptor by_M_done.desc).map (fun d => d.parameters.length) = some 1 := by decide +kernel
abbrev bc_M_head : ByteArray := prog_8_method_15_code
abbrev by_M_head : MethodName := ⟨bR_M, "head", "(I)I"⟩
abbrev brm_M_head : Room := { frames := 1, cells := 0, slots := 0, locals := 21 }
theorem bh_M_head : by_M_head.cls = bR_M ∧ by_M_head.cls ≠ "java/lang/invoke/MethodHandle" ∧ by_M_head.cls ≠ "java/lang/invoke/VarHandle" ∧ (parseMethodDescriptor by_M_head.desc).map (fun d => d.parameters.length) = some 1 := by decide +kernel
abbrev bc_M_serve : ByteArray := prog_8_method_16_code
abbrev by_M_serve : MethodName := ⟨bR_M, "serve", "(I)V"⟩
abbrev brm_M_serve : Room := { frames := 2, cells := 0, slots := 0, locals := 44 }
theorem bh_M_serve : by_M_serve.cls = bR_M ∧ by_M_serve.cls ≠ "java/lang/invoke/MethodHandle" ∧ by_M_serve.cls ≠ "java/lang/invoke/VarHandle" ∧ (parseMethodDescriptor by_M_serve.desc).map (fun d => d.parameters.length) = some 1 := by decide +kernel
abbrev bc_M_seize : ByteArray := prog_8_method_17_code
abbrev by_M_seize : MethodName := ⟨bR_M, "seize", "(III)Z"⟩
abbrev brm_M_seize : Room := { frames := 5, cells := 0, slots := 0, locals := 115 }
theorem bh_M_seize : by_M_seize.cls = bR_M ∧ by_M_seize.cls ≠ "java/lang/invoke/MethodHandle" ∧ by_M_seize.cls ≠ "java/lang/invoke/VarHandle" ∧ (parseMethodDescriptor by_M_seize.desc).map (fun d => d.parameters.length) = some 3 := by decide +kernel
abbrev bc_M_reach : ByteArray := prog_8_method_18_code
abbrev by_M_reach : MethodName := ⟨bR_M, "reach", "(II)I"⟩
abbrev brm_M_reach : Room := { frames := 2, cells := 0, slots := 0, locals := 44 }
theorem bh_M_reach : by_M_reach.cls = bR_M ∧ by_M_reach.cls ≠ "java/lang/invoke/MethodHandle" ∧ by_M_reach.cls ≠ "java/lang/invoke/VarHandle" ∧ (parseMethodDescriptor by_M_reach.desc).map (fun d => d.parameters.length) = some 2 := by decide +kernel
abbrev bc_M_victim : ByteArray := prog_8_method_19_code
abbrev by_M_victim : MethodName := ⟨bR_M, "victim", "(II)I"⟩
abbrev brm_M_victim : Room := { frames := 0, cells := 0, slots := 0, locals := 0 }
theorem bh_M_victim : by_M_victim.cls = bR_M ∧ by_M_victim.cls ≠ "java/lang/invoke/MethodHandle" ∧ by_M_victim.cls ≠ "java/lang/invoke/VarHandle" ∧ (parseMethodDescriptor by_M_victim.desc).map (fun d => d.parameters.length) = some 2 := by decide +kernel
abbrev bc_M_preempt : ByteArray := prog_8_method_20_code
abbrev by_M_preempt : MethodName := ⟨bR_M, "preempt", "(III)V"⟩
abbrev brm_M_preempt : Room := { frames := 4, cells := 0, slots := 0, locals := 89 }
theorem bh_M_preempt : by_M_preempt.cls = bR_M ∧ by_M_preempt.cls ≠ "java/lang/invoke/MethodHandle" ∧ by_M_preempt.cls ≠ "java/lang/invoke/VarHandle" ∧ (parseMethodDescriptor by_M_preempt.desc).map (fun d => d.parameters.length) = some 3 := by decide +kernel
abbrev bc_M_release : ByteArray := prog_8_method_21_code
abbrev by_M_release : MethodName := ⟨bR_M, "release", "(III)V"⟩
abbrev brm_M_release : Room := { frames := 3, cells := 0, slots := 0, locals := 67 }
theorem bh_M_release : by_M_release.cls = bR_M ∧ by_M_release.cls ≠ "java/lang/invoke/MethodHandle" ∧ by_M_release.cls ≠ "java/lang/invoke/VarHandle" ∧ (parseMethodDescriptor by_M_release.desc).map (fun d => d.parameters.length) = some 3 := by decide +kernel
abbrev bc_M_holds : ByteArray := prog_8_method_22_code
abbrev by_M_holds : MethodName := ⟨bR_M, "holds", "(I)Z"⟩
abbrev brm_M_holds : Room := { frames := 0, cells := 0, slots := 0, locals := 0 }
theorem bh_M_holds : by_M_holds.cls = bR_M ∧ by_M_holds.cls ≠ "java/lang/invoke/MethodHandle" ∧ by_M_holds.cls ≠ "java/lang/invoke/VarHandle" ∧ (parseMethodDescriptor by_M_holds.desc).map (fun d => d.parameters.length) = some 1 := by decide +kernel
abbrev bc_M_pour : ByteArray := prog_8_method_23_code
abbrev by_M_pour : MethodName := ⟨bR_M, "pour", "(I)V"⟩
abbrev brm_M_pour : Room := { frames := 0, cells := 0, slots := 0, locals := 0 }
theorem bh_M_pour : by_M_pour.cls = bR_M ∧ by_M_pour.cls ≠ "java/lang/invoke/MethodHandle" ∧ by_M_pour.cls ≠ "java/lang/invoke/VarHandle" ∧ (parseMethodDescriptor by_M_pour.desc).map (fun d => d.parameters.length) = some 1 := by decide +kernel
abbrev bc_M_goOver : ByteArray := prog_8_method_24_code
abbrev by_M_goOver : MethodName := ⟨bR_M, "goOver", "()V"⟩
abbrev brm_M_goOver : Room := { frames := 1, cells := 0, slots := 0, locals := 24 }
theorem bh_M_goOver : by_M_goOver.cls = bR_M ∧ by_M_goOver.cls ≠ "java/lang/invoke/MethodHandle" ∧ by_M_goOver.cls ≠ "java/lang/invoke/VarHandle" ∧ (parseMethodDescriptor by_M_goOver.desc).map (fun d => d.parameters.length) = some 0 := by decide +kernel
abbrev bc_M_perform : ByteArray := prog_8_method_25_code
abbrev by_M_perform : MethodName := ⟨bR_M, "perform", "(II)Z"⟩
abbrev brm_M_perform : Room := { frames := 6, cells := 0, slots := 0, locals := 140 }
theorem bh_M_perform : by_M_perform.cls = bR_M ∧ by_M_perform.cls ≠ "java/lang/invoke/MethodHandle" ∧ by_M_perform.cls ≠ "java/lang/invoke/VarHandle" ∧ (parseMethodDescriptor by_M_perform.desc).map (fun d => d.parameters.length) = some 2 := by decide +kernel
abbrev bc_M_turn : ByteArray := prog_8_method_26_code
abbrev by_M_turn : MethodName := ⟨bR_M, "turn", "(I)V"⟩
abbrev brm_M_turn : Room := { frames := 7, cells := 0, slots := 0, locals := 163 }
theorem bh_M_turn : by_M_turn.cls = bR_M ∧ by_M_turn.cls ≠ "java/lang/invoke/MethodHandle" ∧ by_M_turn.cls ≠ "java/lang/invoke/VarHandle" ∧ (parseMethodDescriptor by_M_turn.desc).map (fun d => d.parameters.length) = some 1 := by decide +kernel
abbrev bc_M_advance : ByteArray := prog_8_method_27_code
abbrev by_M_advance : MethodName := ⟨bR_M, "advance", "(J)V"⟩
abbrev brm_M_advance : Room := { frames := 1, cells := 0, slots := 0, locals := 23 }
theorem bh_M_advance : by_M_advance.cls = bR_M ∧ by_M_advance.cls ≠ "java/lang/invoke/MethodHandle" ∧ by_M_advance.cls ≠ "java/lang/invoke/VarHandle" ∧ (parseMethodDescriptor by_M_advance.desc).map (fun d => d.parameters.length) = some 1 := by decide +kernel
abbrev bc_M_event : ByteArray := prog_8_method_28_code
abbrev by_M_event : MethodName := ⟨bR_M, "event", "(I)V"⟩
abbrev brm_M_event : Room := { frames := 8, cells := 0, slots := 0, locals := 185 }
theorem bh_M_event : by_M_event.cls = bR_M ∧ by_M_event.cls ≠ "java/lang/invoke/MethodHandle" ∧ by_M_event.cls ≠ "java/lang/invoke/VarHandle" ∧ (parseMethodDescriptor by_M_event.desc).map (fun d => d.parameters.length) = some 1 := by decide +kernel
abbrev bc_M_run : ByteArray := prog_8_method_29_code
abbrev by_M_run : MethodName := ⟨bR_M, "run", "(IJ)I"⟩
abbrev brm_M_run : Room := { frames := 9, cells := 0, slots := 0, locals := 207 }
theorem bh_M_run : by_M_run.cls = bR_M ∧ by_M_run.cls ≠ "java/lang/invoke/MethodHandle" ∧ by_M_run.cls ≠ "java/lang/invoke/VarHandle" ∧ (parseMethodDescriptor by_M_run.desc).map (fun d => d.parameters.length) = some 2 := by decide +kernel
abbrev bc_M_activate : ByteArray := prog_8_method_30_code
abbrev by_M_activate : MethodName := ⟨bR_M, "activate", "(II)Z"⟩
abbrev brm_M_activate : Room := { frames := 1, cells := 0, slots := 0, locals := 24 }
theorem bh_M_activate : by_M_activate.cls = bR_M ∧ by_M_activate.cls ≠ "java/lang/invoke/MethodHandle" ∧ by_M_activate.cls ≠ "java/lang/invoke/VarHandle" ∧ (parseMethodDescriptor by_M_activate.desc).map (fun d => d.parameters.length) = some 2 := by decide +kernel
abbrev bc_M_interrupt : ByteArray := prog_8_method_31_code
abbrev by_M_interrupt : MethodName := ⟨bR_M, "interrupt", "(I)Z"⟩
abbrev brm_M_interrupt : Room := { frames := 3, cells := 0, slots := 0, locals := 67 }
theorem bh_M_interrupt : by_M_interrupt.cls = bR_M ∧ by_M_interrupt.cls ≠ "java/lang/invoke/MethodHandle" ∧ by_M_interrupt.cls ≠ "java/lang/invoke/VarHandle" ∧ (parseMethodDescriptor by_M_interrupt.desc).map (fun d => d.parameters.length) = some 1 := by decide +kernel
abbrev bc_M_kill : ByteArray := prog_8_method_32_code
abbrev by_M_kill : MethodName := ⟨bR_M, "kill", "(I)Z"⟩
abbrev brm_M_kill : Room := { frames := 4, cells := 0, slots := 0, locals := 91 }
theorem bh_M_kill : by_M_kill.cls = bR_M ∧ by_M_kill.cls ≠ "java/lang/invoke/MethodHandle" ∧ by_M_kill.cls ≠ "java/lang/invoke/VarHandle" ∧ (parseMethodDescriptor by_M_kill.desc).map (fun d => d.parameters.length) = some 1 := by decide +kernel
abbrev bc_M_now : ByteArray := prog_8_method_33_code
abbrev by_M_now : MethodName := ⟨bR_M, "now", "()J"⟩
abbrev brm_M_now : Room := { frames := 0, cells := 0, slots := 0, locals := 0 }
theorem bh_M_now : by_M_now.cls = bR_M ∧ by_M_now.cls ≠ "java/lang/invoke/MethodHandle" ∧ by_M_now.cls ≠ "java/lang/invoke/VarHandle" ∧ (parseMethodDescriptor by_M_now.desc).map (fun d => d.parameters.length) = some 0 := by decide +kernel
abbrev bc_M_next : ByteArray := prog_8_method_34_code
abbrev by_M_next : MethodName := ⟨bR_M, "next", "()J"⟩
abbrev brm_M_next : Room := { frames := 2, cells := 0, slots := 0, locals := 44 }
theorem bh_M_next : by_M_next.cls = bR_M ∧ by_M_next.cls ≠ "java/lang/invoke/MethodHandle" ∧ by_M_next.cls ≠ "java/lang/invoke/VarHandle" ∧ (parseMethodDescriptor by_M_next.desc).map (fun d => d.parameters.length) = some 0 := by decide +kernel
abbrev bc_M_state : ByteArray := prog_8_method_35_code
abbrev by_M_state : MethodName := ⟨bR_M, "state", "(I)I"⟩
abbrev brm_M_state : Room := { frames := 1, cells := 0, slots := 0, locals := 21 }
theorem bh_M_state : by_M_state.cls = bR_M ∧ by_M_state.cls ≠ "java/lang/invoke/MethodHandle" ∧ by_M_state.cls ≠ "java/lang/invoke/VarHandle" ∧ (parseMethodDescriptor by_M_state.desc).map (fun d => d.parameters.length) = some 1 := by decide +kernel
abbrev bc_M_place : ByteArray := prog_8_method_36_code
abbrev by_M_place : MethodName := ⟨bR_M, "place", "(I)I"⟩
abbrev brm_M_place : Room := { frames := 1, cells := 0, slots := 0, locals := 21 }
theorem bh_M_place : by_M_place.cls = bR_M ∧ by_M_place.cls ≠ "java/lang/invoke/MethodHandle" ∧ by_M_place.cls ≠ "java/lang/invoke/VarHandle" ∧ (parseMethodDescriptor by_M_place.desc).map (fun d => d.parameters.length) = some 1 := by decide +kernel
abbrev bc_M_held : ByteArray := prog_8_method_37_code
abbrev by_M_held : MethodName := ⟨bR_M, "held", "(II)I"⟩
abbrev brm_M_held : Room := { frames := 1, cells := 0, slots := 0, locals := 23 }
theorem bh_M_held : by_M_held.cls = bR_M ∧ by_M_held.cls ≠ "java/lang/invoke/MethodHandle" ∧ by_M_held.cls ≠ "java/lang/invoke/VarHandle" ∧ (parseMethodDescriptor by_M_held.desc).map (fun d => d.parameters.length) = some 2 := by decide +kernel
abbrev bc_M_free : ByteArray := prog_8_method_38_code
abbrev by_M_free : MethodName := ⟨bR_M, "free", "(I)I"⟩
abbrev brm_M_free : Room := { frames := 2, cells := 0, slots := 0, locals := 44 }
theorem bh_M_free : by_M_free.cls = bR_M ∧ by_M_free.cls ≠ "java/lang/invoke/MethodHandle" ∧ by_M_free.cls ≠ "java/lang/invoke/VarHandle" ∧ (parseMethodDescriptor by_M_free.desc).map (fun d => d.parameters.length) = some 1 := by decide +kernel
abbrev bc_M_waiting : ByteArray := prog_8_method_39_code
abbrev by_M_waiting : MethodName := ⟨bR_M, "waiting", "(I)I"⟩
abbrev brm_M_waiting : Room := { frames := 1, cells := 0, slots := 0, locals := 23 }
theorem bh_M_waiting : by_M_waiting.cls = bR_M ∧ by_M_waiting.cls ≠ "java/lang/invoke/MethodHandle" ∧ by_M_waiting.cls ≠ "java/lang/invoke/VarHandle" ∧ (parseMethodDescriptor by_M_waiting.desc).map (fun d => d.parameters.length) = some 1 := by decide +kernel
abbrev bc_M_area : ByteArray := prog_8_method_40_code
abbrev by_M_area : MethodName := ⟨bR_M, "area", "(I)J"⟩
abbrev brm_M_area : Room := { frames := 1, cells := 0, slots := 0, locals := 23 }
theorem bh_M_area : by_M_area.cls = bR_M ∧ by_M_area.cls ≠ "java/lang/invoke/MethodHandle" ∧ by_M_area.cls ≠ "java/lang/invoke/VarHandle" ∧ (parseMethodDescriptor by_M_area.desc).map (fun d => d.parameters.length) = some 1 := by decide +kernel
abbrev bc_M_waited : ByteArray := prog_8_method_41_code
abbrev by_M_waited : MethodName := ⟨bR_M, "waited", "(I)J"⟩
abbrev brm_M_waited : Room := { frames := 1, cells := 0, slots := 0, locals := 23 }
theorem bh_M_waited : by_M_waited.cls = bR_M ∧ by_M_waited.cls ≠ "java/lang/invoke/MethodHandle" ∧ by_M_waited.cls ≠ "java/lang/invoke/VarHandle" ∧ (parseMethodDescriptor by_M_waited.desc).map (fun d => d.parameters.length) = some 1 := by decide +kernel
abbrev bc_M_level : ByteArray := prog_8_method_42_code
abbrev by_M_level : MethodName := ⟨bR_M, "level", "(I)I"⟩
abbrev brm_M_level : Room := { frames := 1, cells := 0, slots := 0, locals := 23 }
theorem bh_M_level : by_M_level.cls = bR_M ∧ by_M_level.cls ≠ "java/lang/invoke/MethodHandle" ∧ by_M_level.cls ≠ "java/lang/invoke/VarHandle" ∧ (parseMethodDescriptor by_M_level.desc).map (fun d => d.parameters.length) = some 1 := by decide +kernel
abbrev bc_M_stuck : ByteArray := prog_8_method_43_code
abbrev by_M_stuck : MethodName := ⟨bR_M, "stuck", "()Z"⟩
abbrev brm_M_stuck : Room := { frames := 2, cells := 0, slots := 0, locals := 44 }
theorem bh_M_stuck : by_M_stuck.cls = bR_M ∧ by_M_stuck.cls ≠ "java/lang/invoke/MethodHandle" ∧ by_M_stuck.cls ≠ "java/lang/invoke/VarHandle" ∧ (parseMethodDescriptor by_M_stuck.desc).map (fun d => d.parameters.length) = some 0 := by decide +kernel
abbrev bc_M_traced : ByteArray := prog_8_method_44_code
abbrev by_M_traced : MethodName := ⟨bR_M, "traced", "(I)I"⟩
abbrev brm_M_traced : Room := { frames := 1, cells := 0, slots := 0, locals := 23 }
theorem bh_M_traced : by_M_traced.cls = bR_M ∧ by_M_traced.cls ≠ "java/lang/invoke/MethodHandle" ∧ by_M_traced.cls ≠ "java/lang/invoke/VarHandle" ∧ (parseMethodDescriptor by_M_traced.desc).map (fun d => d.parameters.length) = some 1 := by decide +kernel
abbrev bR_L : String := "BatonKernel$Line"
def bT_L : u_T := fun k => match k with
  | 0 => ("BatonKernel$Line", "members", "[I", true)
  | _ => ("BatonKernel$Line", "size", "I", false)
def bty_L : Nat → FieldType := fun k => match k with
  | 0 => .array .int
  | _ => .int
theorem bn_L : ∀ a, a < 2 → ∀ b, b < 2 → a ≠ b → (bT_L a).2.1 ≠ (bT_L b).2.1 := by decide +kernel
theorem bo_L : ∀ k, k < 2 → parseFieldDescriptor (bT_L k).2.2.1 = some (bty_L k) := by decide +kernel
theorem bcl_L (k : Nat) : (bT_L k).1 = bR_L := by unfold bT_L; split <;> rfl
abbrev bc_L_init : ByteArray := prog_2_method_1_code
abbrev by_L_init : MethodName := ⟨bR_L, "<init>", "()V"⟩
abbrev brm_L_init : Room := { frames := 1, cells := 1, slots := 12, locals := 21 }
theorem bh_L_init : by_L_init.cls = bR_L ∧ by_L_init.cls ≠ "java/lang/invoke/MethodHandle" ∧ by_L_init.cls ≠ "java/lang/invoke/VarHandle" ∧ (parseMethodDescriptor by_L_init.desc).map (fun d => d.parameters.length) = some 0 := by decide +kernel
abbrev bc_L_insert : ByteArray := prog_2_method_2_code
abbrev by_L_insert : MethodName := ⟨bR_L, "insert", "(II)V"⟩
abbrev brm_L_insert : Room := { frames := 0, cells := 0, slots := 0, locals := 0 }
theorem bh_L_insert : by_L_insert.cls = bR_L ∧ by_L_insert.cls ≠ "java/lang/invoke/MethodHandle" ∧ by_L_insert.cls ≠ "java/lang/invoke/VarHandle" ∧ (parseMethodDescriptor by_L_insert.desc).map (fun d => d.parameters.length) = some 2 := by decide +kernel
abbrev bc_L_drop : ByteArray := prog_2_method_3_code
abbrev by_L_drop : MethodName := ⟨bR_L, "drop", "(I)V"⟩
abbrev brm_L_drop : Room := { frames := 0, cells := 0, slots := 0, locals := 0 }
theorem bh_L_drop : by_L_drop.cls = bR_L ∧ by_L_drop.cls ≠ "java/lang/invoke/MethodHandle" ∧ by_L_drop.cls ≠ "java/lang/invoke/VarHandle" ∧ (parseMethodDescriptor by_L_drop.desc).map (fun d => d.parameters.length) = some 1 := by decide +kernel
abbrev bR_P : String := "BatonKernel$Proc"
def bT_P : u_T := fun k => match k with
  | 0 => ("BatonKernel$Proc", "number", "I", true)
  | 1 => ("BatonKernel$Proc", "ops", "[I", true)
  | 2 => ("BatonKernel$Proc", "as", "[I", true)
  | 3 => ("BatonKernel$Proc", "bs", "[I", true)
  | 4 => ("BatonKernel$Proc", "units", "[I", true)
  | 5 => ("BatonKernel$Proc", "length", "I", false)
  | 6 => ("BatonKernel$Proc", "priority", "I", false)
  | 7 => ("BatonKernel$Proc", "roundsLeft", "I", false)
  | 8 => ("BatonKernel$Proc", "handler", "I", false)
  | 9 => ("BatonKernel$Proc", "state", "I", false)
  | 10 => ("BatonKernel$Proc", "place", "I", false)
  | 11 => ("BatonKernel$Proc", "doing", "I", false)
  | 12 => ("BatonKernel$Proc", "listed", "Z", false)
  | 13 => ("BatonKernel$Proc", "time", "J", false)
  | 14 => ("BatonKernel$Proc", "entry", "J", false)
  | _ => ("BatonKernel$Proc", "since", "J", false)
def bty_P : Nat → FieldType := fun k => match k with
  | 0 => .int
  | 1 => .array .int
  | 2 => .array .int
  | 3 => .array .int
  | 4 => .array .int
  | 5 => .int
  | 6 => .int
  | 7 => .int
  | 8 => .int
  | 9 => .int
  | 10 => .int
  | 11 => .int
  | 12 => .boolean
  | 13 => .long
  | 14 => .long
  | _ => .long
theorem bn_P : ∀ a, a < 16 → ∀ b, b < 16 → a ≠ b → (bT_P a).2.1 ≠ (bT_P b).2.1 := by decide +kernel
theorem bo_P : ∀ k, k < 16 → parseFieldDescriptor (bT_P k).2.2.1 = some (bty_P k) := by decide +kernel
theorem bcl_P (k : Nat) : (bT_P k).1 = bR_P := by unfold bT_P; split <;> rfl
abbrev bc_P_init : ByteArray := prog_3_method_1_code
abbrev by_P_init : MethodName := ⟨bR_P, "<init>", "(I)V"⟩
abbrev brm_P_init : Room := { frames := 1, cells := 4, slots := 34, locals := 21 }
theorem bh_P_init : by_P_init.cls = bR_P ∧ by_P_init.cls ≠ "java/lang/invoke/MethodHandle" ∧ by_P_init.cls ≠ "java/lang/invoke/VarHandle" ∧ (parseMethodDescriptor by_P_init.desc).map (fun d => d.parameters.length) = some 1 := by decide +kernel
abbrev bc_P_append : ByteArray := prog_3_method_2_code
abbrev by_P_append : MethodName := ⟨bR_P, "append", "(III)V"⟩
abbrev brm_P_append : Room := { frames := 0, cells := 0, slots := 0, locals := 0 }
theorem bh_P_append : by_P_append.cls = bR_P ∧ by_P_append.cls ≠ "java/lang/invoke/MethodHandle" ∧ by_P_append.cls ≠ "java/lang/invoke/VarHandle" ∧ (parseMethodDescriptor by_P_append.desc).map (fun d => d.parameters.length) = some 3 := by decide +kernel
abbrev bc_P_firstOperand : ByteArray := prog_3_method_3_code
abbrev by_P_firstOperand : MethodName := ⟨bR_P, "firstOperand", "()I"⟩
abbrev brm_P_firstOperand : Room := { frames := 0, cells := 0, slots := 0, locals := 0 }
theorem bh_P_firstOperand : by_P_firstOperand.cls = bR_P ∧ by_P_firstOperand.cls ≠ "java/lang/invoke/MethodHandle" ∧ by_P_firstOperand.cls ≠ "java/lang/invoke/VarHandle" ∧ (parseMethodDescriptor by_P_firstOperand.desc).map (fun d => d.parameters.length) = some 0 := by decide +kernel
abbrev bc_P_secondOperand : ByteArray := prog_3_method_4_code
abbrev by_P_secondOperand : MethodName := ⟨bR_P, "secondOperand", "()I"⟩
abbrev brm_P_secondOperand : Room := { frames := 0, cells := 0, slots := 0, locals := 0 }
theorem bh_P_secondOperand : by_P_secondOperand.cls = bR_P ∧ by_P_secondOperand.cls ≠ "java/lang/invoke/MethodHandle" ∧ by_P_secondOperand.cls ≠ "java/lang/invoke/VarHandle" ∧ (parseMethodDescriptor by_P_secondOperand.desc).map (fun d => d.parameters.length) = some 0 := by decide +kernel
abbrev bc_P_isOver : ByteArray := prog_3_method_5_code
abbrev by_P_isOver : MethodName := ⟨bR_P, "isOver", "()Z"⟩
abbrev brm_P_isOver : Room := { frames := 0, cells := 0, slots := 0, locals := 0 }
theorem bh_P_isOver : by_P_isOver.cls = bR_P ∧ by_P_isOver.cls ≠ "java/lang/invoke/MethodHandle" ∧ by_P_isOver.cls ≠ "java/lang/invoke/VarHandle" ∧ (parseMethodDescriptor by_P_isOver.desc).map (fun d => d.parameters.length) = some 0 := by decide +kernel
abbrev bc_P_isBreakable : ByteArray := prog_3_method_6_code
abbrev by_P_isBreakable : MethodName := ⟨bR_P, "isBreakable", "()Z"⟩
abbrev brm_P_isBreakable : Room := { frames := 0, cells := 0, slots := 0, locals := 0 }
theorem bh_P_isBreakable : by_P_isBreakable.cls = bR_P ∧ by_P_isBreakable.cls ≠ "java/lang/invoke/MethodHandle" ∧ by_P_isBreakable.cls ≠ "java/lang/invoke/VarHandle" ∧ (parseMethodDescriptor by_P_isBreakable.desc).map (fun d => d.parameters.length) = some 0 := by decide +kernel
abbrev bc_P_isBefore : ByteArray := prog_3_method_7_code
abbrev by_P_isBefore : MethodName := ⟨bR_P, "isBefore", "(LBatonKernel$Proc;)Z"⟩
abbrev brm_P_isBefore : Room := { frames := 0, cells := 0, slots := 0, locals := 0 }
theorem bh_P_isBefore : by_P_isBefore.cls = bR_P ∧ by_P_isBefore.cls ≠ "java/lang/invoke/MethodHandle" ∧ by_P_isBefore.cls ≠ "java/lang/invoke/VarHandle" ∧ (parseMethodDescriptor by_P_isBefore.desc).map (fun d => d.parameters.length) = some 1 := by decide +kernel
abbrev bc_P_beginRound : ByteArray := prog_3_method_8_code
abbrev by_P_beginRound : MethodName := ⟨bR_P, "beginRound", "()Z"⟩
abbrev brm_P_beginRound : Room := { frames := 0, cells := 0, slots := 0, locals := 0 }
theorem bh_P_beginRound : by_P_beginRound.cls = bR_P ∧ by_P_beginRound.cls ≠ "java/lang/invoke/MethodHandle" ∧ by_P_beginRound.cls ≠ "java/lang/invoke/VarHandle" ∧ (parseMethodDescriptor by_P_beginRound.desc).map (fun d => d.parameters.length) = some 0 := by decide +kernel
abbrev bR_E : String := "BatonKernel$Resource"
def bT_E : u_T := fun k => match k with
  | 0 => ("BatonKernel$Resource", "line", "LBatonKernel$Line;", true)
  | 1 => ("BatonKernel$Resource", "capacity", "I", false)
  | 2 => ("BatonKernel$Resource", "seized", "I", false)
  | 3 => ("BatonKernel$Resource", "preempts", "Z", false)
  | 4 => ("BatonKernel$Resource", "area", "J", false)
  | _ => ("BatonKernel$Resource", "waited", "J", false)
def bty_E : Nat → FieldType := fun k => match k with
  | 0 => .object "BatonKernel$Line"
  | 1 => .int
  | 2 => .int
  | 3 => .boolean
  | 4 => .long
  | _ => .long
theorem bn_E : ∀ a, a < 6 → ∀ b, b < 6 → a ≠ b → (bT_E a).2.1 ≠ (bT_E b).2.1 := by decide +kernel
theorem bo_E : ∀ k, k < 6 → parseFieldDescriptor (bT_E k).2.2.1 = some (bty_E k) := by decide +kernel
theorem bcl_E (k : Nat) : (bT_E k).1 = bR_E := by unfold bT_E; split <;> rfl
abbrev bc_E_init : ByteArray := prog_4_method_1_code
abbrev by_E_init : MethodName := ⟨bR_E, "<init>", "()V"⟩
abbrev brm_E_init : Room := { frames := 2, cells := 2, slots := 14, locals := 41 }
theorem bh_E_init : by_E_init.cls = bR_E ∧ by_E_init.cls ≠ "java/lang/invoke/MethodHandle" ∧ by_E_init.cls ≠ "java/lang/invoke/VarHandle" ∧ (parseMethodDescriptor by_E_init.desc).map (fun d => d.parameters.length) = some 0 := by decide +kernel
abbrev bc_E_unseized : ByteArray := prog_4_method_2_code
abbrev by_E_unseized : MethodName := ⟨bR_E, "unseized", "()I"⟩
abbrev brm_E_unseized : Room := { frames := 0, cells := 0, slots := 0, locals := 0 }
theorem bh_E_unseized : by_E_unseized.cls = bR_E ∧ by_E_unseized.cls ≠ "java/lang/invoke/MethodHandle" ∧ by_E_unseized.cls ≠ "java/lang/invoke/VarHandle" ∧ (parseMethodDescriptor by_E_unseized.desc).map (fun d => d.parameters.length) = some 0 := by decide +kernel
abbrev bR_T : String := "BatonKernel$Tank"
def bT_T : u_T := fun k => match k with
  | 0 => ("BatonKernel$Tank", "capacity", "I", false)
  | _ => ("BatonKernel$Tank", "level", "I", false)
def bty_T : Nat → FieldType := fun k => match k with
  | 0 => .int
  | _ => .int
theorem bn_T : ∀ a, a < 2 → ∀ b, b < 2 → a ≠ b → (bT_T a).2.1 ≠ (bT_T b).2.1 := by decide +kernel
theorem bo_T : ∀ k, k < 2 → parseFieldDescriptor (bT_T k).2.2.1 = some (bty_T k) := by decide +kernel
theorem bcl_T (k : Nat) : (bT_T k).1 = bR_T := by unfold bT_T; split <;> rfl
abbrev bc_T_init : ByteArray := prog_5_method_1_code
abbrev by_T_init : MethodName := ⟨bR_T, "<init>", "()V"⟩
abbrev brm_T_init : Room := { frames := 1, cells := 0, slots := 0, locals := 21 }
theorem bh_T_init : by_T_init.cls = bR_T ∧ by_T_init.cls ≠ "java/lang/invoke/MethodHandle" ∧ by_T_init.cls ≠ "java/lang/invoke/VarHandle" ∧ (parseMethodDescriptor by_T_init.desc).map (fun d => d.parameters.length) = some 0 := by decide +kernel
abbrev bc_T_put : ByteArray := prog_5_method_2_code
abbrev by_T_put : MethodName := ⟨bR_T, "put", "(I)Z"⟩
abbrev brm_T_put : Room := { frames := 0, cells := 0, slots := 0, locals := 0 }
theorem bh_T_put : by_T_put.cls = bR_T ∧ by_T_put.cls ≠ "java/lang/invoke/MethodHandle" ∧ by_T_put.cls ≠ "java/lang/invoke/VarHandle" ∧ (parseMethodDescriptor by_T_put.desc).map (fun d => d.parameters.length) = some 1 := by decide +kernel
abbrev bc_T_take : ByteArray := prog_5_method_3_code
abbrev by_T_take : MethodName := ⟨bR_T, "take", "(I)Z"⟩
abbrev brm_T_take : Room := { frames := 0, cells := 0, slots := 0, locals := 0 }
theorem bh_T_take : by_T_take.cls = bR_T ∧ by_T_take.cls ≠ "java/lang/invoke/MethodHandle" ∧ by_T_take.cls ≠ "java/lang/invoke/VarHandle" ∧ (parseMethodDescriptor by_T_take.desc).map (fun d => d.parameters.length) = some 1 := by decide +kernel
abbrev bR_C : String := "BatonKernel$Trace"
def bT_C : u_T := fun k => match k with
  | 0 => ("BatonKernel$Trace", "rows", "[I", true)
  | 1 => ("BatonKernel$Trace", "latest", "I", false)
  | _ => ("BatonKernel$Trace", "size", "I", false)
def bty_C : Nat → FieldType := fun k => match k with
  | 0 => .array .int
  | 1 => .int
  | _ => .int
theorem bn_C : ∀ a, a < 3 → ∀ b, b < 3 → a ≠ b → (bT_C a).2.1 ≠ (bT_C b).2.1 := by decide +kernel
theorem bo_C : ∀ k, k < 3 → parseFieldDescriptor (bT_C k).2.2.1 = some (bty_C k) := by decide +kernel
theorem bcl_C (k : Nat) : (bT_C k).1 = bR_C := by unfold bT_C; split <;> rfl
abbrev bc_C_init : ByteArray := prog_6_method_1_code
abbrev by_C_init : MethodName := ⟨bR_C, "<init>", "()V"⟩
abbrev brm_C_init : Room := { frames := 1, cells := 1, slots := 64, locals := 21 }
theorem bh_C_init : by_C_init.cls = bR_C ∧ by_C_init.cls ≠ "java/lang/invoke/MethodHandle" ∧ by_C_init.cls ≠ "java/lang/invoke/VarHandle" ∧ (parseMethodDescriptor by_C_init.desc).map (fun d => d.parameters.length) = some 0 := by decide +kernel
abbrev bc_C_add : ByteArray := prog_6_method_2_code
abbrev by_C_add : MethodName := ⟨bR_C, "add", "(I)V"⟩
abbrev brm_C_add : Room := { frames := 1, cells := 0, slots := 0, locals := 21 }
theorem bh_C_add : by_C_add.cls = bR_C ∧ by_C_add.cls ≠ "java/lang/invoke/MethodHandle" ∧ by_C_add.cls ≠ "java/lang/invoke/VarHandle" ∧ (parseMethodDescriptor by_C_add.desc).map (fun d => d.parameters.length) = some 1 := by decide +kernel
abbrev bc_C_before : ByteArray := prog_6_method_3_code
abbrev by_C_before : MethodName := ⟨bR_C, "before", "(I)I"⟩
abbrev brm_C_before : Room := { frames := 0, cells := 0, slots := 0, locals := 0 }
theorem bh_C_before : by_C_before.cls = bR_C ∧ by_C_before.cls ≠ "java/lang/invoke/MethodHandle" ∧ by_C_before.cls ≠ "java/lang/invoke/VarHandle" ∧ (parseMethodDescriptor by_C_before.desc).map (fun d => d.parameters.length) = some 1 := by decide +kernel
abbrev bR_W : String := "BatonKernelLaw"
