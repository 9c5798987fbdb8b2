abbrev R_RW : String := "CoinTree$Row"
def F_RW : u_T := fun k => match k with
  | 0 => ("CoinTree$Row", "marks", "[I", true)
  | 1 => ("CoinTree$Row", "leaves", "[I", true)
  | 2 => ("CoinTree$Row", "values", "[J", true)
  | _ => ("CoinTree$Row", "size", "I", false)
def t_RW : Nat → FieldType := fun k => match k with
  | 0 => .array .int
  | 1 => .array .int
  | 2 => .array .long
  | _ => .int
theorem n_RW : ∀ a, a < 4 → ∀ b, b < 4 → a ≠ b → (F_RW a).2.1 ≠ (F_RW b).2.1 := by decide +kernel
theorem t_RW_ok : ∀ k, k < 4 → parseFieldDescriptor (F_RW k).2.2.1 = some (t_RW k) := by decide +kernel
abbrev R_TL : String := "CoinTree$Trail"
def F_TL : u_T := fun k => match k with
  | 0 => ("CoinTree$Trail", "leaves", "[I", true)
  | 1 => ("CoinTree$Trail", "next", "I", false)
  | _ => ("CoinTree$Trail", "kept", "I", false)
def t_TL : Nat → FieldType := fun k => match k with
  | 0 => .array .int
  | 1 => .int
  | _ => .int
theorem n_TL : ∀ a, a < 3 → ∀ b, b < 3 → a ≠ b → (F_TL a).2.1 ≠ (F_TL b).2.1 := by decide +kernel
theorem t_TL_ok : ∀ k, k < 3 → parseFieldDescriptor (F_TL k).2.2.1 = some (t_TL k) := by decide +kernel
abbrev R_TR : String := "CoinTree$Tree"
def F_TR : u_T := fun k => match k with
  | 0 => ("CoinTree$Tree", "levels", "I", true)
  | 1 => ("CoinTree$Tree", "leaves", "I", true)
  | 2 => ("CoinTree$Tree", "slots", "I", true)
  | 3 => ("CoinTree$Tree", "capacity", "I", true)
  | 4 => ("CoinTree$Tree", "nodeSlots", "LCoinTree$Row;", true)
  | 5 => ("CoinTree$Tree", "nodeCounts", "[I", true)
  | 6 => ("CoinTree$Tree", "stash", "LCoinTree$Row;", true)
  | 7 => ("CoinTree$Tree", "trail", "LCoinTree$Trail;", true)
  | 8 => ("CoinTree$Tree", "plan", "LCoinTree$Row;", true)
  | 9 => ("CoinTree$Tree", "planTargets", "[I", true)
  | 10 => ("CoinTree$Tree", "wayLeaf", "I", false)
  | _ => ("CoinTree$Tree", "sought", "I", false)
def t_TR : Nat → FieldType := fun k => match k with
  | 0 => .int
  | 1 => .int
  | 2 => .int
  | 3 => .int
  | 4 => .object "CoinTree$Row"
  | 5 => .array .int
  | 6 => .object "CoinTree$Row"
  | 7 => .object "CoinTree$Trail"
  | 8 => .object "CoinTree$Row"
  | 9 => .array .int
  | 10 => .int
  | _ => .int
theorem n_TR : ∀ a, a < 12 → ∀ b, b < 12 → a ≠ b → (F_TR a).2.1 ≠ (F_TR b).2.1 := by decide +kernel
theorem t_TR_ok : ∀ k, k < 12 → parseFieldDescriptor (F_TR k).2.2.1 = some (t_TR k) := by decide +kernel
abbrev R_CT : String := "CoinTree"
def F_CT : u_T := fun k => match k with
  | 0 => ("CoinTree", "slots", "I", true)
  | 1 => ("CoinTree", "capacity", "I", true)
  | 2 => ("CoinTree", "key", "J", true)
  | 3 => ("CoinTree", "blockTree", "LCoinTree$Tree;", true)
  | 4 => ("CoinTree", "mapTree", "LCoinTree$Tree;", true)
  | 5 => ("CoinTree", "mapLeaves", "[I", true)
  | 6 => ("CoinTree", "timesAsked", "I", false)
  | _ => ("CoinTree", "mostStashed", "I", false)
def t_CT : Nat → FieldType := fun k => match k with
  | 0 => .int
  | 1 => .int
  | 2 => .long
  | 3 => .object "CoinTree$Tree"
  | 4 => .object "CoinTree$Tree"
  | 5 => .array .int
  | 6 => .int
  | _ => .int
theorem n_CT : ∀ a, a < 8 → ∀ b, b < 8 → a ≠ b → (F_CT a).2.1 ≠ (F_CT b).2.1 := by decide +kernel
theorem t_CT_ok : ∀ k, k < 8 → parseFieldDescriptor (F_CT k).2.2.1 = some (t_CT k) := by decide +kernel
abbrev R_CM : String := "CoinTreeModel"
def F_CM : u_T := fun k => match k with
  | 0 => ("CoinTreeModel", "thrown", "I", false)
  | 1 => ("CoinTreeModel", "levels", "I", true)
  | 2 => ("CoinTreeModel", "slots", "I", true)
  | 3 => ("CoinTreeModel", "capacity", "I", true)
  | 4 => ("CoinTreeModel", "key", "J", true)
  | 5 => ("CoinTreeModel", "blocks", "[I", true)
  | 6 => ("CoinTreeModel", "leaves", "[I", true)
  | 7 => ("CoinTreeModel", "values", "[J", true)
  | 8 => ("CoinTreeModel", "counts", "[I", true)
  | 9 => ("CoinTreeModel", "stashBlocks", "[I", true)
  | 10 => ("CoinTreeModel", "stashLeaves", "[I", true)
  | 11 => ("CoinTreeModel", "stashValues", "[J", true)
  | 12 => ("CoinTreeModel", "stashed", "[I", true)
  | 13 => ("CoinTreeModel", "mapLeaves", "[I", true)
  | 14 => ("CoinTreeModel", "most", "I", false)
  | 15 => ("CoinTreeModel", "asked", "I", false)
  | 16 => ("CoinTreeModel", "traces", "[I", true)
  | 17 => ("CoinTreeModel", "traced", "I", false)
  | 18 => ("CoinTreeModel", "oldBlocks", "[I", true)
  | 19 => ("CoinTreeModel", "oldLeaves", "[I", true)
  | 20 => ("CoinTreeModel", "oldValues", "[J", true)
  | 21 => ("CoinTreeModel", "oldCounts", "[I", true)
  | 22 => ("CoinTreeModel", "oldStashBlocks", "[I", true)
  | 23 => ("CoinTreeModel", "oldStashLeaves", "[I", true)
  | 24 => ("CoinTreeModel", "oldStashValues", "[J", true)
  | 25 => ("CoinTreeModel", "oldStashed", "[I", true)
  | _ => ("CoinTreeModel", "oldMapLeaves", "[I", true)
def t_CM : Nat → FieldType := fun k => match k with
  | 0 => .int
  | 1 => .int
  | 2 => .int
  | 3 => .int
  | 4 => .long
  | 5 => .array .int
  | 6 => .array .int
  | 7 => .array .long
  | 8 => .array .int
  | 9 => .array .int
  | 10 => .array .int
  | 11 => .array .long
  | 12 => .array .int
  | 13 => .array .int
  | 14 => .int
  | 15 => .int
  | 16 => .array .int
  | 17 => .int
  | 18 => .array .int
  | 19 => .array .int
  | 20 => .array .long
  | 21 => .array .int
  | 22 => .array .int
  | 23 => .array .int
  | 24 => .array .long
  | 25 => .array .int
  | _ => .array .int
theorem n_CM : ∀ a, a < 27 → ∀ b, b < 27 → a ≠ b → (F_CM a).2.1 ≠ (F_CM b).2.1 := by decide +kernel
theorem t_CM_ok : ∀ k, k < 27 → parseFieldDescriptor (F_CM k).2.2.1 = some (t_CM k) := by decide +kernel
abbrev R_LW : String := "CoinTreeLaw"
abbrev kCl : List vw_C := [(R_RW, F_RW, 4), (R_TL, F_TL, 3), (R_TR, F_TR, 12), (R_CT, F_CT, 8), (R_CM, F_CM, 27)]
abbrev b_CT_init : ByteArray := prog_1_method_1_code
def y_CT_init : MethodName := ⟨"CoinTree", "<init>", "(IIIJ)V"⟩
theorem p_CT_init : y_CT_init.cls = R_CT ∧ y_CT_init.cls ≠ "java/lang/invoke/MethodHandle" ∧ y_CT_init.cls ≠ "java/lang/invoke/VarHandle" ∧ (parseMethodDescriptor y_CT_init.desc).map (fun d => d.parameters.length) = some 4 := by decide +kernel
abbrev b_CT_nearest : ByteArray := prog_1_method_13_code
def y_CT_nearest : MethodName := ⟨"CoinTree", "nearest", "(III)I"⟩
theorem p_CT_nearest : y_CT_nearest.cls = R_CT ∧ y_CT_nearest.cls ≠ "java/lang/invoke/MethodHandle" ∧ y_CT_nearest.cls ≠ "java/lang/invoke/VarHandle" ∧ (parseMethodDescriptor y_CT_nearest.desc).map (fun d => d.parameters.length) = some 3 := by decide +kernel
abbrev b_TR_init : ByteArray := prog_4_method_1_code
def y_TR_init : MethodName := ⟨"CoinTree$Tree", "<init>", "(IIII)V"⟩
theorem p_TR_init : y_TR_init.cls = R_TR ∧ y_TR_init.cls ≠ "java/lang/invoke/MethodHandle" ∧ y_TR_init.cls ≠ "java/lang/invoke/VarHandle" ∧ (parseMethodDescriptor y_TR_init.desc).map (fun d => d.parameters.length) = some 4 := by decide +kernel
abbrev b_TL_init : ByteArray := prog_3_method_1_code
def y_TL_init : MethodName := ⟨"CoinTree$Trail", "<init>", "()V"⟩
theorem p_TL_init : y_TL_init.cls = R_TL ∧ y_TL_init.cls ≠ "java/lang/invoke/MethodHandle" ∧ y_TL_init.cls ≠ "java/lang/invoke/VarHandle" ∧ (parseMethodDescriptor y_TL_init.desc).map (fun d => d.parameters.length) = some 0 := by decide +kernel
abbrev b_RW_init : ByteArray := prog_2_method_1_code
def y_RW_init : MethodName := ⟨"CoinTree$Row", "<init>", "(I)V"⟩
theorem p_RW_init : y_RW_init.cls = R_RW ∧ y_RW_init.cls ≠ "java/lang/invoke/MethodHandle" ∧ y_RW_init.cls ≠ "java/lang/invoke/VarHandle" ∧ (parseMethodDescriptor y_RW_init.desc).map (fun d => d.parameters.length) = some 1 := by decide +kernel
abbrev b_TR_leafModulo : ByteArray := prog_4_method_4_code
def y_TR_leafModulo : MethodName := ⟨"CoinTree$Tree", "leafModulo", "(I)I"⟩
theorem p_TR_leafModulo : y_TR_leafModulo.cls = R_TR ∧ y_TR_leafModulo.cls ≠ "java/lang/invoke/MethodHandle" ∧ y_TR_leafModulo.cls ≠ "java/lang/invoke/VarHandle" ∧ (parseMethodDescriptor y_TR_leafModulo.desc).map (fun d => d.parameters.length) = some 1 := by decide +kernel
abbrev b_LW_cell : ByteArray := method_2_code
def y_LW_cell : MethodName := ⟨"CoinTreeLaw", "cell", "([II)I"⟩
theorem p_LW_cell : y_LW_cell.cls = R_LW ∧ y_LW_cell.cls ≠ "java/lang/invoke/MethodHandle" ∧ y_LW_cell.cls ≠ "java/lang/invoke/VarHandle" ∧ (parseMethodDescriptor y_LW_cell.desc).map (fun d => d.parameters.length) = some 2 := by decide +kernel
abbrev b_LW_read : ByteArray := method_3_code
def y_LW_read : MethodName := ⟨"CoinTreeLaw", "read", "(LCoinTree;III[J)I"⟩
theorem p_LW_read : y_LW_read.cls = R_LW ∧ y_LW_read.cls ≠ "java/lang/invoke/MethodHandle" ∧ y_LW_read.cls ≠ "java/lang/invoke/VarHandle" ∧ (parseMethodDescriptor y_LW_read.desc).map (fun d => d.parameters.length) = some 5 := by decide +kernel
abbrev b_CT_read : ByteArray := prog_1_method_2_code
def y_CT_read : MethodName := ⟨"CoinTree", "read", "(III)J"⟩
theorem p_CT_read : y_CT_read.cls = R_CT ∧ y_CT_read.cls ≠ "java/lang/invoke/MethodHandle" ∧ y_CT_read.cls ≠ "java/lang/invoke/VarHandle" ∧ (parseMethodDescriptor y_CT_read.desc).map (fun d => d.parameters.length) = some 3 := by decide +kernel
abbrev b_CT_ask : ByteArray := prog_1_method_9_code
def y_CT_ask : MethodName := ⟨"CoinTree", "ask", "(IZJII)J"⟩
theorem p_CT_ask : y_CT_ask.cls = R_CT ∧ y_CT_ask.cls ≠ "java/lang/invoke/MethodHandle" ∧ y_CT_ask.cls ≠ "java/lang/invoke/VarHandle" ∧ (parseMethodDescriptor y_CT_ask.desc).map (fun d => d.parameters.length) = some 5 := by decide +kernel
abbrev b_TR_hasLeaf : ByteArray := prog_4_method_2_code
def y_TR_hasLeaf : MethodName := ⟨"CoinTree$Tree", "hasLeaf", "(I)Z"⟩
theorem p_TR_hasLeaf : y_TR_hasLeaf.cls = R_TR ∧ y_TR_hasLeaf.cls ≠ "java/lang/invoke/MethodHandle" ∧ y_TR_hasLeaf.cls ≠ "java/lang/invoke/VarHandle" ∧ (parseMethodDescriptor y_TR_hasLeaf.desc).map (fun d => d.parameters.length) = some 1 := by decide +kernel
abbrev b_TR_gather : ByteArray := prog_4_method_7_code
def y_TR_gather : MethodName := ⟨"CoinTree$Tree", "gather", "(II)V"⟩
theorem p_TR_gather : y_TR_gather.cls = R_TR ∧ y_TR_gather.cls ≠ "java/lang/invoke/MethodHandle" ∧ y_TR_gather.cls ≠ "java/lang/invoke/VarHandle" ∧ (parseMethodDescriptor y_TR_gather.desc).map (fun d => d.parameters.length) = some 2 := by decide +kernel
abbrev b_RW_append : ByteArray := prog_2_method_8_code
def y_RW_append : MethodName := ⟨"CoinTree$Row", "append", "(LCoinTree$Row;I)V"⟩
theorem p_RW_append : y_RW_append.cls = R_RW ∧ y_RW_append.cls ≠ "java/lang/invoke/MethodHandle" ∧ y_RW_append.cls ≠ "java/lang/invoke/VarHandle" ∧ (parseMethodDescriptor y_RW_append.desc).map (fun d => d.parameters.length) = some 2 := by decide +kernel
abbrev b_RW_has : ByteArray := prog_2_method_2_code
def y_RW_has : MethodName := ⟨"CoinTree$Row", "has", "(I)Z"⟩
theorem p_RW_has : y_RW_has.cls = R_RW ∧ y_RW_has.cls ≠ "java/lang/invoke/MethodHandle" ∧ y_RW_has.cls ≠ "java/lang/invoke/VarHandle" ∧ (parseMethodDescriptor y_RW_has.desc).map (fun d => d.parameters.length) = some 1 := by decide +kernel
abbrev b_RW_copy : ByteArray := prog_2_method_7_code
def y_RW_copy : MethodName := ⟨"CoinTree$Row", "copy", "(ILCoinTree$Row;I)V"⟩
theorem p_RW_copy : y_RW_copy.cls = R_RW ∧ y_RW_copy.cls ≠ "java/lang/invoke/MethodHandle" ∧ y_RW_copy.cls ≠ "java/lang/invoke/VarHandle" ∧ (parseMethodDescriptor y_RW_copy.desc).map (fun d => d.parameters.length) = some 3 := by decide +kernel
abbrev b_RW_markAt : ByteArray := prog_2_method_3_code
def y_RW_markAt : MethodName := ⟨"CoinTree$Row", "markAt", "(I)I"⟩
theorem p_RW_markAt : y_RW_markAt.cls = R_RW ∧ y_RW_markAt.cls ≠ "java/lang/invoke/MethodHandle" ∧ y_RW_markAt.cls ≠ "java/lang/invoke/VarHandle" ∧ (parseMethodDescriptor y_RW_markAt.desc).map (fun d => d.parameters.length) = some 1 := by decide +kernel
abbrev b_RW_leafAt : ByteArray := prog_2_method_4_code
def y_RW_leafAt : MethodName := ⟨"CoinTree$Row", "leafAt", "(I)I"⟩
theorem p_RW_leafAt : y_RW_leafAt.cls = R_RW ∧ y_RW_leafAt.cls ≠ "java/lang/invoke/MethodHandle" ∧ y_RW_leafAt.cls ≠ "java/lang/invoke/VarHandle" ∧ (parseMethodDescriptor y_RW_leafAt.desc).map (fun d => d.parameters.length) = some 1 := by decide +kernel
abbrev b_RW_valueAt : ByteArray := prog_2_method_5_code
def y_RW_valueAt : MethodName := ⟨"CoinTree$Row", "valueAt", "(I)J"⟩
theorem p_RW_valueAt : y_RW_valueAt.cls = R_RW ∧ y_RW_valueAt.cls ≠ "java/lang/invoke/MethodHandle" ∧ y_RW_valueAt.cls ≠ "java/lang/invoke/VarHandle" ∧ (parseMethodDescriptor y_RW_valueAt.desc).map (fun d => d.parameters.length) = some 1 := by decide +kernel
abbrev b_RW_put : ByteArray := prog_2_method_6_code
def y_RW_put : MethodName := ⟨"CoinTree$Row", "put", "(IIIJ)V"⟩
theorem p_RW_put : y_RW_put.cls = R_RW ∧ y_RW_put.cls ≠ "java/lang/invoke/MethodHandle" ∧ y_RW_put.cls ≠ "java/lang/invoke/VarHandle" ∧ (parseMethodDescriptor y_RW_put.desc).map (fun d => d.parameters.length) = some 4 := by decide +kernel
abbrev b_TR_nodeOnWay : ByteArray := prog_4_method_15_code
def y_TR_nodeOnWay : MethodName := ⟨"CoinTree$Tree", "nodeOnWay", "(II)I"⟩
theorem p_TR_nodeOnWay : y_TR_nodeOnWay.cls = R_TR ∧ y_TR_nodeOnWay.cls ≠ "java/lang/invoke/MethodHandle" ∧ y_TR_nodeOnWay.cls ≠ "java/lang/invoke/VarHandle" ∧ (parseMethodDescriptor y_TR_nodeOnWay.desc).map (fun d => d.parameters.length) = some 2 := by decide +kernel
abbrev b_TR_gatherNode : ByteArray := prog_4_method_8_code
def y_TR_gatherNode : MethodName := ⟨"CoinTree$Tree", "gatherNode", "(I)V"⟩
theorem p_TR_gatherNode : y_TR_gatherNode.cls = R_TR ∧ y_TR_gatherNode.cls ≠ "java/lang/invoke/MethodHandle" ∧ y_TR_gatherNode.cls ≠ "java/lang/invoke/VarHandle" ∧ (parseMethodDescriptor y_TR_gatherNode.desc).map (fun d => d.parameters.length) = some 1 := by decide +kernel
abbrev b_RW_find : ByteArray := prog_2_method_10_code
def y_RW_find : MethodName := ⟨"CoinTree$Row", "find", "(I)I"⟩
theorem p_RW_find : y_RW_find.cls = R_RW ∧ y_RW_find.cls ≠ "java/lang/invoke/MethodHandle" ∧ y_RW_find.cls ≠ "java/lang/invoke/VarHandle" ∧ (parseMethodDescriptor y_RW_find.desc).map (fun d => d.parameters.length) = some 1 := by decide +kernel
abbrev b_RW_appendNew : ByteArray := prog_2_method_9_code
def y_RW_appendNew : MethodName := ⟨"CoinTree$Row", "appendNew", "(I)V"⟩
theorem p_RW_appendNew : y_RW_appendNew.cls = R_RW ∧ y_RW_appendNew.cls ≠ "java/lang/invoke/MethodHandle" ∧ y_RW_appendNew.cls ≠ "java/lang/invoke/VarHandle" ∧ (parseMethodDescriptor y_RW_appendNew.desc).map (fun d => d.parameters.length) = some 1 := by decide +kernel
abbrev b_TR_soughtValue : ByteArray := prog_4_method_9_code
def y_TR_soughtValue : MethodName := ⟨"CoinTree$Tree", "soughtValue", "()J"⟩
theorem p_TR_soughtValue : y_TR_soughtValue.cls = R_TR ∧ y_TR_soughtValue.cls ≠ "java/lang/invoke/MethodHandle" ∧ y_TR_soughtValue.cls ≠ "java/lang/invoke/VarHandle" ∧ (parseMethodDescriptor y_TR_soughtValue.desc).map (fun d => d.parameters.length) = some 0 := by decide +kernel
abbrev b_CT_withNumber : ByteArray := prog_1_method_12_code
def y_CT_withNumber : MethodName := ⟨"CoinTree", "withNumber", "(JII)J"⟩
theorem p_CT_withNumber : y_CT_withNumber.cls = R_CT ∧ y_CT_withNumber.cls ≠ "java/lang/invoke/MethodHandle" ∧ y_CT_withNumber.cls ≠ "java/lang/invoke/VarHandle" ∧ (parseMethodDescriptor y_CT_withNumber.desc).map (fun d => d.parameters.length) = some 3 := by decide +kernel
abbrev b_TR_settle : ByteArray := prog_4_method_10_code
def y_TR_settle : MethodName := ⟨"CoinTree$Tree", "settle", "(IJ)V"⟩
theorem p_TR_settle : y_TR_settle.cls = R_TR ∧ y_TR_settle.cls ≠ "java/lang/invoke/MethodHandle" ∧ y_TR_settle.cls ≠ "java/lang/invoke/VarHandle" ∧ (parseMethodDescriptor y_TR_settle.desc).map (fun d => d.parameters.length) = some 2 := by decide +kernel
abbrev b_CT_leafTold : ByteArray := prog_1_method_10_code
def y_CT_leafTold : MethodName := ⟨"CoinTree", "leafTold", "(JII)I"⟩
theorem p_CT_leafTold : y_CT_leafTold.cls = R_CT ∧ y_CT_leafTold.cls ≠ "java/lang/invoke/MethodHandle" ∧ y_CT_leafTold.cls ≠ "java/lang/invoke/VarHandle" ∧ (parseMethodDescriptor y_CT_leafTold.desc).map (fun d => d.parameters.length) = some 3 := by decide +kernel
abbrev b_TR_fits : ByteArray := prog_4_method_11_code
def y_TR_fits : MethodName := ⟨"CoinTree$Tree", "fits", "()Z"⟩
theorem p_TR_fits : y_TR_fits.cls = R_TR ∧ y_TR_fits.cls ≠ "java/lang/invoke/MethodHandle" ∧ y_TR_fits.cls ≠ "java/lang/invoke/VarHandle" ∧ (parseMethodDescriptor y_TR_fits.desc).map (fun d => d.parameters.length) = some 0 := by decide +kernel
abbrev b_TR_fillNode : ByteArray := prog_4_method_12_code
def y_TR_fillNode : MethodName := ⟨"CoinTree$Tree", "fillNode", "(II)I"⟩
theorem p_TR_fillNode : y_TR_fillNode.cls = R_TR ∧ y_TR_fillNode.cls ≠ "java/lang/invoke/MethodHandle" ∧ y_TR_fillNode.cls ≠ "java/lang/invoke/VarHandle" ∧ (parseMethodDescriptor y_TR_fillNode.desc).map (fun d => d.parameters.length) = some 2 := by decide +kernel
abbrev b_TR_carryOut : ByteArray := prog_4_method_13_code
def y_TR_carryOut : MethodName := ⟨"CoinTree$Tree", "carryOut", "()V"⟩
theorem p_TR_carryOut : y_TR_carryOut.cls = R_TR ∧ y_TR_carryOut.cls ≠ "java/lang/invoke/MethodHandle" ∧ y_TR_carryOut.cls ≠ "java/lang/invoke/VarHandle" ∧ (parseMethodDescriptor y_TR_carryOut.desc).map (fun d => d.parameters.length) = some 0 := by decide +kernel
abbrev b_TR_emptyNode : ByteArray := prog_4_method_14_code
def y_TR_emptyNode : MethodName := ⟨"CoinTree$Tree", "emptyNode", "(I)V"⟩
theorem p_TR_emptyNode : y_TR_emptyNode.cls = R_TR ∧ y_TR_emptyNode.cls ≠ "java/lang/invoke/MethodHandle" ∧ y_TR_emptyNode.cls ≠ "java/lang/invoke/VarHandle" ∧ (parseMethodDescriptor y_TR_emptyNode.desc).map (fun d => d.parameters.length) = some 1 := by decide +kernel
abbrev b_TR_hasNode : ByteArray := prog_4_method_3_code
def y_TR_hasNode : MethodName := ⟨"CoinTree$Tree", "hasNode", "(I)Z"⟩
theorem p_TR_hasNode : y_TR_hasNode.cls = R_TR ∧ y_TR_hasNode.cls ≠ "java/lang/invoke/MethodHandle" ∧ y_TR_hasNode.cls ≠ "java/lang/invoke/VarHandle" ∧ (parseMethodDescriptor y_TR_hasNode.desc).map (fun d => d.parameters.length) = some 1 := by decide +kernel
abbrev b_TL_add : ByteArray := prog_3_method_2_code
def y_TL_add : MethodName := ⟨"CoinTree$Trail", "add", "(I)V"⟩
theorem p_TL_add : y_TL_add.cls = R_TL ∧ y_TL_add.cls ≠ "java/lang/invoke/MethodHandle" ∧ y_TL_add.cls ≠ "java/lang/invoke/VarHandle" ∧ (parseMethodDescriptor y_TL_add.desc).map (fun d => d.parameters.length) = some 1 := by decide +kernel
abbrev b_LW_write : ByteArray := method_4_code
def y_LW_write : MethodName := ⟨"CoinTreeLaw", "write", "(LCoinTree;IJII[J)I"⟩
theorem p_LW_write : y_LW_write.cls = R_LW ∧ y_LW_write.cls ≠ "java/lang/invoke/MethodHandle" ∧ y_LW_write.cls ≠ "java/lang/invoke/VarHandle" ∧ (parseMethodDescriptor y_LW_write.desc).map (fun d => d.parameters.length) = some 6 := by decide +kernel
abbrev b_CT_write : ByteArray := prog_1_method_3_code
def y_CT_write : MethodName := ⟨"CoinTree", "write", "(IJII)J"⟩
theorem p_CT_write : y_CT_write.cls = R_CT ∧ y_CT_write.cls ≠ "java/lang/invoke/MethodHandle" ∧ y_CT_write.cls ≠ "java/lang/invoke/VarHandle" ∧ (parseMethodDescriptor y_CT_write.desc).map (fun d => d.parameters.length) = some 4 := by decide +kernel
abbrev b_LW_trace : ByteArray := method_5_code
def y_LW_trace : MethodName := ⟨"CoinTreeLaw", "trace", "(LCoinTree;II[J)I"⟩
theorem p_LW_trace : y_LW_trace.cls = R_LW ∧ y_LW_trace.cls ≠ "java/lang/invoke/MethodHandle" ∧ y_LW_trace.cls ≠ "java/lang/invoke/VarHandle" ∧ (parseMethodDescriptor y_LW_trace.desc).map (fun d => d.parameters.length) = some 4 := by decide +kernel
abbrev b_CT_trace : ByteArray := prog_1_method_4_code
def y_CT_trace : MethodName := ⟨"CoinTree", "trace", "(II)I"⟩
theorem p_CT_trace : y_CT_trace.cls = R_CT ∧ y_CT_trace.cls ≠ "java/lang/invoke/MethodHandle" ∧ y_CT_trace.cls ≠ "java/lang/invoke/VarHandle" ∧ (parseMethodDescriptor y_CT_trace.desc).map (fun d => d.parameters.length) = some 2 := by decide +kernel
abbrev b_CT_treeNumbered : ByteArray := prog_1_method_11_code
def y_CT_treeNumbered : MethodName := ⟨"CoinTree", "treeNumbered", "(I)LCoinTree$Tree;"⟩
theorem p_CT_treeNumbered : y_CT_treeNumbered.cls = R_CT ∧ y_CT_treeNumbered.cls ≠ "java/lang/invoke/MethodHandle" ∧ y_CT_treeNumbered.cls ≠ "java/lang/invoke/VarHandle" ∧ (parseMethodDescriptor y_CT_treeNumbered.desc).map (fun d => d.parameters.length) = some 1 := by decide +kernel
abbrev b_TL_leafAt : ByteArray := prog_3_method_3_code
def y_TL_leafAt : MethodName := ⟨"CoinTree$Trail", "leafAt", "(I)I"⟩
theorem p_TL_leafAt : y_TL_leafAt.cls = R_TL ∧ y_TL_leafAt.cls ≠ "java/lang/invoke/MethodHandle" ∧ y_TL_leafAt.cls ≠ "java/lang/invoke/VarHandle" ∧ (parseMethodDescriptor y_TL_leafAt.desc).map (fun d => d.parameters.length) = some 1 := by decide +kernel
abbrev b_LW_stored : ByteArray := method_6_code
def y_LW_stored : MethodName := ⟨"CoinTreeLaw", "stored", "(LCoinTree;IIII[J)I"⟩
theorem p_LW_stored : y_LW_stored.cls = R_LW ∧ y_LW_stored.cls ≠ "java/lang/invoke/MethodHandle" ∧ y_LW_stored.cls ≠ "java/lang/invoke/VarHandle" ∧ (parseMethodDescriptor y_LW_stored.desc).map (fun d => d.parameters.length) = some 6 := by decide +kernel
abbrev b_CT_stored : ByteArray := prog_1_method_5_code
def y_CT_stored : MethodName := ⟨"CoinTree", "stored", "(IIII)J"⟩
theorem p_CT_stored : y_CT_stored.cls = R_CT ∧ y_CT_stored.cls ≠ "java/lang/invoke/MethodHandle" ∧ y_CT_stored.cls ≠ "java/lang/invoke/VarHandle" ∧ (parseMethodDescriptor y_CT_stored.desc).map (fun d => d.parameters.length) = some 4 := by decide +kernel
abbrev b_TR_wordAt : ByteArray := prog_4_method_6_code
def y_TR_wordAt : MethodName := ⟨"CoinTree$Tree", "wordAt", "(III)J"⟩
theorem p_TR_wordAt : y_TR_wordAt.cls = R_TR ∧ y_TR_wordAt.cls ≠ "java/lang/invoke/MethodHandle" ∧ y_TR_wordAt.cls ≠ "java/lang/invoke/VarHandle" ∧ (parseMethodDescriptor y_TR_wordAt.desc).map (fun d => d.parameters.length) = some 3 := by decide +kernel
abbrev b_TR_timesWritten : ByteArray := prog_4_method_5_code
def y_TR_timesWritten : MethodName := ⟨"CoinTree$Tree", "timesWritten", "(I)I"⟩
theorem p_TR_timesWritten : y_TR_timesWritten.cls = R_TR ∧ y_TR_timesWritten.cls ≠ "java/lang/invoke/MethodHandle" ∧ y_TR_timesWritten.cls ≠ "java/lang/invoke/VarHandle" ∧ (parseMethodDescriptor y_TR_timesWritten.desc).map (fun d => d.parameters.length) = some 1 := by decide +kernel
abbrev b_CT_mix : ByteArray := prog_1_method_14_code
def y_CT_mix : MethodName := ⟨"CoinTree", "mix", "(J)J"⟩
theorem p_CT_mix : y_CT_mix.cls = R_CT ∧ y_CT_mix.cls ≠ "java/lang/invoke/MethodHandle" ∧ y_CT_mix.cls ≠ "java/lang/invoke/VarHandle" ∧ (parseMethodDescriptor y_CT_mix.desc).map (fun d => d.parameters.length) = some 1 := by decide +kernel
abbrev b_LW_written : ByteArray := method_7_code
def y_LW_written : MethodName := ⟨"CoinTreeLaw", "written", "(LCoinTree;II[J)I"⟩
theorem p_LW_written : y_LW_written.cls = R_LW ∧ y_LW_written.cls ≠ "java/lang/invoke/MethodHandle" ∧ y_LW_written.cls ≠ "java/lang/invoke/VarHandle" ∧ (parseMethodDescriptor y_LW_written.desc).map (fun d => d.parameters.length) = some 4 := by decide +kernel
abbrev b_CT_written : ByteArray := prog_1_method_6_code
def y_CT_written : MethodName := ⟨"CoinTree", "written", "(II)I"⟩
theorem p_CT_written : y_CT_written.cls = R_CT ∧ y_CT_written.cls ≠ "java/lang/invoke/MethodHandle" ∧ y_CT_written.cls ≠ "java/lang/invoke/VarHandle" ∧ (parseMethodDescriptor y_CT_written.desc).map (fun d => d.parameters.length) = some 2 := by decide +kernel
abbrev b_LW_stash : ByteArray := method_8_code
def y_LW_stash : MethodName := ⟨"CoinTreeLaw", "stash", "(LCoinTree;II[J)I"⟩
theorem p_LW_stash : y_LW_stash.cls = R_LW ∧ y_LW_stash.cls ≠ "java/lang/invoke/MethodHandle" ∧ y_LW_stash.cls ≠ "java/lang/invoke/VarHandle" ∧ (parseMethodDescriptor y_LW_stash.desc).map (fun d => d.parameters.length) = some 4 := by decide +kernel
abbrev b_CT_stash : ByteArray := prog_1_method_7_code
def y_CT_stash : MethodName := ⟨"CoinTree", "stash", "(II)I"⟩
theorem p_CT_stash : y_CT_stash.cls = R_CT ∧ y_CT_stash.cls ≠ "java/lang/invoke/MethodHandle" ∧ y_CT_stash.cls ≠ "java/lang/invoke/VarHandle" ∧ (parseMethodDescriptor y_CT_stash.desc).map (fun d => d.parameters.length) = some 2 := by decide +kernel
abbrev b_LW_count : ByteArray := method_9_code
def y_LW_count : MethodName := ⟨"CoinTreeLaw", "count", "(LCoinTree;I[J)I"⟩
theorem p_LW_count : y_LW_count.cls = R_LW ∧ y_LW_count.cls ≠ "java/lang/invoke/MethodHandle" ∧ y_LW_count.cls ≠ "java/lang/invoke/VarHandle" ∧ (parseMethodDescriptor y_LW_count.desc).map (fun d => d.parameters.length) = some 3 := by decide +kernel
abbrev b_CT_count : ByteArray := prog_1_method_8_code
def y_CT_count : MethodName := ⟨"CoinTree", "count", "(I)I"⟩
theorem p_CT_count : y_CT_count.cls = R_CT ∧ y_CT_count.cls ≠ "java/lang/invoke/MethodHandle" ∧ y_CT_count.cls ≠ "java/lang/invoke/VarHandle" ∧ (parseMethodDescriptor y_CT_count.desc).map (fun d => d.parameters.length) = some 1 := by decide +kernel
abbrev b_CM_init : ByteArray := prog_6_method_1_code
def y_CM_init : MethodName := ⟨"CoinTreeModel", "<init>", "(IIIJ)V"⟩
theorem p_CM_init : y_CM_init.cls = R_CM ∧ y_CM_init.cls ≠ "java/lang/invoke/MethodHandle" ∧ y_CM_init.cls ≠ "java/lang/invoke/VarHandle" ∧ (parseMethodDescriptor y_CM_init.desc).map (fun d => d.parameters.length) = some 4 := by decide +kernel
abbrev b_CM_leavesOf : ByteArray := prog_6_method_4_code
def y_CM_leavesOf : MethodName := ⟨"CoinTreeModel", "leavesOf", "(I)I"⟩
theorem p_CM_leavesOf : y_CM_leavesOf.cls = R_CM ∧ y_CM_leavesOf.cls ≠ "java/lang/invoke/MethodHandle" ∧ y_CM_leavesOf.cls ≠ "java/lang/invoke/VarHandle" ∧ (parseMethodDescriptor y_CM_leavesOf.desc).map (fun d => d.parameters.length) = some 1 := by decide +kernel
abbrev b_CM_levelsOf : ByteArray := prog_6_method_3_code
def y_CM_levelsOf : MethodName := ⟨"CoinTreeModel", "levelsOf", "(I)I"⟩
theorem p_CM_levelsOf : y_CM_levelsOf.cls = R_CM ∧ y_CM_levelsOf.cls ≠ "java/lang/invoke/MethodHandle" ∧ y_CM_levelsOf.cls ≠ "java/lang/invoke/VarHandle" ∧ (parseMethodDescriptor y_CM_levelsOf.desc).map (fun d => d.parameters.length) = some 1 := by decide +kernel
abbrev b_CM_thrown : ByteArray := prog_6_method_2_code
def y_CM_thrown : MethodName := ⟨"CoinTreeModel", "thrown", "()I"⟩
theorem p_CM_thrown : y_CM_thrown.cls = R_CM ∧ y_CM_thrown.cls ≠ "java/lang/invoke/MethodHandle" ∧ y_CM_thrown.cls ≠ "java/lang/invoke/VarHandle" ∧ (parseMethodDescriptor y_CM_thrown.desc).map (fun d => d.parameters.length) = some 0 := by decide +kernel
abbrev b_CM_read : ByteArray := prog_6_method_15_code
def y_CM_read : MethodName := ⟨"CoinTreeModel", "read", "(III)J"⟩
theorem p_CM_read : y_CM_read.cls = R_CM ∧ y_CM_read.cls ≠ "java/lang/invoke/MethodHandle" ∧ y_CM_read.cls ≠ "java/lang/invoke/VarHandle" ∧ (parseMethodDescriptor y_CM_read.desc).map (fun d => d.parameters.length) = some 3 := by decide +kernel
abbrev b_CM_ask : ByteArray := prog_6_method_13_code
def y_CM_ask : MethodName := ⟨"CoinTreeModel", "ask", "(IZJII)J"⟩
theorem p_CM_ask : y_CM_ask.cls = R_CM ∧ y_CM_ask.cls ≠ "java/lang/invoke/MethodHandle" ∧ y_CM_ask.cls ≠ "java/lang/invoke/VarHandle" ∧ (parseMethodDescriptor y_CM_ask.desc).map (fun d => d.parameters.length) = some 5 := by decide +kernel
abbrev b_CM_keep : ByteArray := prog_6_method_11_code
def y_CM_keep : MethodName := ⟨"CoinTreeModel", "keep", "()V"⟩
theorem p_CM_keep : y_CM_keep.cls = R_CM ∧ y_CM_keep.cls ≠ "java/lang/invoke/MethodHandle" ∧ y_CM_keep.cls ≠ "java/lang/invoke/VarHandle" ∧ (parseMethodDescriptor y_CM_keep.desc).map (fun d => d.parameters.length) = some 0 := by decide +kernel
abbrev b_CM_gather : ByteArray := prog_6_method_9_code
def y_CM_gather : MethodName := ⟨"CoinTreeModel", "gather", "(III)I"⟩
theorem p_CM_gather : y_CM_gather.cls = R_CM ∧ y_CM_gather.cls ≠ "java/lang/invoke/MethodHandle" ∧ y_CM_gather.cls ≠ "java/lang/invoke/VarHandle" ∧ (parseMethodDescriptor y_CM_gather.desc).map (fun d => d.parameters.length) = some 3 := by decide +kernel
abbrev b_CM_place : ByteArray := prog_6_method_5_code
def y_CM_place : MethodName := ⟨"CoinTreeModel", "place", "(III)I"⟩
theorem p_CM_place : y_CM_place.cls = R_CM ∧ y_CM_place.cls ≠ "java/lang/invoke/MethodHandle" ∧ y_CM_place.cls ≠ "java/lang/invoke/VarHandle" ∧ (parseMethodDescriptor y_CM_place.desc).map (fun d => d.parameters.length) = some 3 := by decide +kernel
abbrev b_CM_push : ByteArray := prog_6_method_6_code
def y_CM_push : MethodName := ⟨"CoinTreeModel", "push", "(IIIJ)V"⟩
theorem p_CM_push : y_CM_push.cls = R_CM ∧ y_CM_push.cls ≠ "java/lang/invoke/MethodHandle" ∧ y_CM_push.cls ≠ "java/lang/invoke/VarHandle" ∧ (parseMethodDescriptor y_CM_push.desc).map (fun d => d.parameters.length) = some 4 := by decide +kernel
abbrev b_CM_find : ByteArray := prog_6_method_8_code
def y_CM_find : MethodName := ⟨"CoinTreeModel", "find", "(II)I"⟩
theorem p_CM_find : y_CM_find.cls = R_CM ∧ y_CM_find.cls ≠ "java/lang/invoke/MethodHandle" ∧ y_CM_find.cls ≠ "java/lang/invoke/VarHandle" ∧ (parseMethodDescriptor y_CM_find.desc).map (fun d => d.parameters.length) = some 2 := by decide +kernel
abbrev b_CM_fill : ByteArray := prog_6_method_10_code
def y_CM_fill : MethodName := ⟨"CoinTreeModel", "fill", "(II)Z"⟩
theorem p_CM_fill : y_CM_fill.cls = R_CM ∧ y_CM_fill.cls ≠ "java/lang/invoke/MethodHandle" ∧ y_CM_fill.cls ≠ "java/lang/invoke/VarHandle" ∧ (parseMethodDescriptor y_CM_fill.desc).map (fun d => d.parameters.length) = some 2 := by decide +kernel
abbrev b_CM_pull : ByteArray := prog_6_method_7_code
def y_CM_pull : MethodName := ⟨"CoinTreeModel", "pull", "(II)V"⟩
theorem p_CM_pull : y_CM_pull.cls = R_CM ∧ y_CM_pull.cls ≠ "java/lang/invoke/MethodHandle" ∧ y_CM_pull.cls ≠ "java/lang/invoke/VarHandle" ∧ (parseMethodDescriptor y_CM_pull.desc).map (fun d => d.parameters.length) = some 2 := by decide +kernel
abbrev b_CM_takeBack : ByteArray := prog_6_method_12_code
def y_CM_takeBack : MethodName := ⟨"CoinTreeModel", "takeBack", "()V"⟩
theorem p_CM_takeBack : y_CM_takeBack.cls = R_CM ∧ y_CM_takeBack.cls ≠ "java/lang/invoke/MethodHandle" ∧ y_CM_takeBack.cls ≠ "java/lang/invoke/VarHandle" ∧ (parseMethodDescriptor y_CM_takeBack.desc).map (fun d => d.parameters.length) = some 0 := by decide +kernel
abbrev b_CM_mark : ByteArray := prog_6_method_14_code
def y_CM_mark : MethodName := ⟨"CoinTreeModel", "mark", "(II)V"⟩
theorem p_CM_mark : y_CM_mark.cls = R_CM ∧ y_CM_mark.cls ≠ "java/lang/invoke/MethodHandle" ∧ y_CM_mark.cls ≠ "java/lang/invoke/VarHandle" ∧ (parseMethodDescriptor y_CM_mark.desc).map (fun d => d.parameters.length) = some 2 := by decide +kernel
abbrev b_CM_write : ByteArray := prog_6_method_16_code
def y_CM_write : MethodName := ⟨"CoinTreeModel", "write", "(IJII)J"⟩
theorem p_CM_write : y_CM_write.cls = R_CM ∧ y_CM_write.cls ≠ "java/lang/invoke/MethodHandle" ∧ y_CM_write.cls ≠ "java/lang/invoke/VarHandle" ∧ (parseMethodDescriptor y_CM_write.desc).map (fun d => d.parameters.length) = some 4 := by decide +kernel
abbrev b_CM_trace : ByteArray := prog_6_method_19_code
def y_CM_trace : MethodName := ⟨"CoinTreeModel", "trace", "(II)I"⟩
theorem p_CM_trace : y_CM_trace.cls = R_CM ∧ y_CM_trace.cls ≠ "java/lang/invoke/MethodHandle" ∧ y_CM_trace.cls ≠ "java/lang/invoke/VarHandle" ∧ (parseMethodDescriptor y_CM_trace.desc).map (fun d => d.parameters.length) = some 2 := by decide +kernel
abbrev b_CM_isTree : ByteArray := prog_6_method_17_code
def y_CM_isTree : MethodName := ⟨"CoinTreeModel", "isTree", "(I)Z"⟩
theorem p_CM_isTree : y_CM_isTree.cls = R_CM ∧ y_CM_isTree.cls ≠ "java/lang/invoke/MethodHandle" ∧ y_CM_isTree.cls ≠ "java/lang/invoke/VarHandle" ∧ (parseMethodDescriptor y_CM_isTree.desc).map (fun d => d.parameters.length) = some 1 := by decide +kernel
abbrev b_CM_stored : ByteArray := prog_6_method_21_code
def y_CM_stored : MethodName := ⟨"CoinTreeModel", "stored", "(IIII)J"⟩
theorem p_CM_stored : y_CM_stored.cls = R_CM ∧ y_CM_stored.cls ≠ "java/lang/invoke/MethodHandle" ∧ y_CM_stored.cls ≠ "java/lang/invoke/VarHandle" ∧ (parseMethodDescriptor y_CM_stored.desc).map (fun d => d.parameters.length) = some 4 := by decide +kernel
abbrev b_CM_isNode : ByteArray := prog_6_method_18_code
def y_CM_isNode : MethodName := ⟨"CoinTreeModel", "isNode", "(II)Z"⟩
theorem p_CM_isNode : y_CM_isNode.cls = R_CM ∧ y_CM_isNode.cls ≠ "java/lang/invoke/MethodHandle" ∧ y_CM_isNode.cls ≠ "java/lang/invoke/VarHandle" ∧ (parseMethodDescriptor y_CM_isNode.desc).map (fun d => d.parameters.length) = some 2 := by decide +kernel
abbrev b_CM_mix : ByteArray := prog_6_method_20_code
def y_CM_mix : MethodName := ⟨"CoinTreeModel", "mix", "(J)J"⟩
theorem p_CM_mix : y_CM_mix.cls = R_CM ∧ y_CM_mix.cls ≠ "java/lang/invoke/MethodHandle" ∧ y_CM_mix.cls ≠ "java/lang/invoke/VarHandle" ∧ (parseMethodDescriptor y_CM_mix.desc).map (fun d => d.parameters.length) = some 1 := by decide +kernel
abbrev b_CM_written : ByteArray := prog_6_method_22_code
def y_CM_written : MethodName := ⟨"CoinTreeModel", "written", "(II)I"⟩
theorem p_CM_written : y_CM_written.cls = R_CM ∧ y_CM_written.cls ≠ "java/lang/invoke/MethodHandle" ∧ y_CM_written.cls ≠ "java/lang/invoke/VarHandle" ∧ (parseMethodDescriptor y_CM_written.desc).map (fun d => d.parameters.length) = some 2 := by decide +kernel
abbrev b_CM_stash : ByteArray := prog_6_method_23_code
def y_CM_stash : MethodName := ⟨"CoinTreeModel", "stash", "(II)I"⟩
theorem p_CM_stash : y_CM_stash.cls = R_CM ∧ y_CM_stash.cls ≠ "java/lang/invoke/MethodHandle" ∧ y_CM_stash.cls ≠ "java/lang/invoke/VarHandle" ∧ (parseMethodDescriptor y_CM_stash.desc).map (fun d => d.parameters.length) = some 2 := by decide +kernel
abbrev b_CM_count : ByteArray := prog_6_method_24_code
def y_CM_count : MethodName := ⟨"CoinTreeModel", "count", "(I)I"⟩
theorem p_CM_count : y_CM_count.cls = R_CM ∧ y_CM_count.cls ≠ "java/lang/invoke/MethodHandle" ∧ y_CM_count.cls ≠ "java/lang/invoke/VarHandle" ∧ (parseMethodDescriptor y_CM_count.desc).map (fun d => d.parameters.length) = some 1 := by decide +kernel
abbrev b_LW_law : ByteArray := code
def y_LW_law : MethodName := ⟨"CoinTreeLaw", "law", "([I)Z"⟩
theorem p_LW_law : y_LW_law.cls = R_LW ∧ y_LW_law.cls ≠ "java/lang/invoke/MethodHandle" ∧ y_LW_law.cls ≠ "java/lang/invoke/VarHandle" ∧ (parseMethodDescriptor y_LW_law.desc).map (fun d => d.parameters.length) = some 1 := by decide +kernel
/-- the words that the tables decide -/
def bw : List Cond := lw_tbl.filter goodWord
theorem bw_m {w : Cond} (i : Nat) (h : lw_tbl[i]? = some w) (g : goodWord w = true) : w ∈ bw := List.mem_filter.mpr ⟨List.mem_of_getElem? h, g⟩
theorem bw_good : ∀ w ∈ bw, ((w.onTables && w.keeps) = true ∨ ∃ ty, w = .arrayClass ty) := fun w h => good_of_word (List.mem_filter.mp h).2
theorem gi_0 {k : Cond} (h : k ∈ bw) : GoodIn bw (k :: bw) := fun w hw => (List.mem_cons.mp hw).elim (fun e => by rw [e]; exact ⟨h, bw_good _ h⟩) (fun h => ⟨h, bw_good w h⟩)
theorem gi_a {a b : List Cond} (ha : ∀ w ∈ a, w ∈ bw) (hb : GoodIn bw b) : GoodIn bw (a ++ b) := fun w hw => (List.mem_append.mp hw).elim (fun h => ⟨ha w h, bw_good _ (ha w h)⟩) (hb w)
theorem gi_V {own C : String} {idx : Nat} {y : MethodName} {k : Cond} (h0 : k ∈ bw) (h1 : Cond.methodLink own idx y ∈ bw) (h2 : Cond.instanceMethod y ∈ bw) (h3 : Cond.selects C y y ∈ bw) (h4 : Cond.initialized C ∈ bw) : GoodIn bw (wsV own idx C y (k :: bw)) :=
  gi_a (fun w hw => by simp only [List.mem_cons, List.not_mem_nil, or_false] at hw; rcases hw with rfl | rfl | rfl | rfl <;> assumption) (gi_0 h0)
theorem gi_S {own : String} {idx : Nat} {y : MethodName} {k : Cond} (h0 : k ∈ bw) (h1 : Cond.methodLink own idx y ∈ bw) (h2 : Cond.static y ∈ bw) (h4 : Cond.initialized own ∈ bw) : GoodIn bw (wsS own idx y (k :: bw)) :=
  gi_a (fun w hw => by simp only [List.mem_cons, List.not_mem_nil, or_false] at hw; rcases hw with rfl | rfl | rfl <;> assumption) (gi_0 h0)
