section
-- ===== PART A: goes FIRST, ahead of the names: the tables' words, and 'selects' of the private methods out of them =====
/-- a private method of a class that the tables say can be made, by its rows of tables_1 -/
def lw_okq (q : MethodName × Nat) : Prop := (q.1.cls ≠ "java/lang/invoke/MethodHandle" ∧ q.1.cls ≠ "java/lang/invoke/VarHandle") ∧ Cond.instantiable q.1.cls q.2 ∈ tables_1 ∧ Cond.privateMethod q.1 ∈ tables_1 ∧ Cond.instanceMethod q.1 ∈ tables_1
theorem lw_p0 : lw_okq (⟨"SandboxTree", "actionAt", "(I)LSandboxTree$Action;"⟩, 6) := ⟨⟨by decide +kernel, by decide +kernel⟩, List.mem_of_getElem? (i := 10) (by decide +kernel), List.mem_of_getElem? (i := 213) (by decide +kernel), List.mem_of_getElem? (i := 214) (by decide +kernel)⟩
theorem lw_p1 : lw_okq (⟨"SandboxTree", "touchesDeclared", "(LSandboxTree$Action;I)Z"⟩, 6) := ⟨⟨by decide +kernel, by decide +kernel⟩, List.mem_of_getElem? (i := 10) (by decide +kernel), List.mem_of_getElem? (i := 217) (by decide +kernel), List.mem_of_getElem? (i := 218) (by decide +kernel)⟩
theorem lw_p2 : lw_okq (⟨"SandboxTree", "lacksInput", "(LSandboxTree$Action;)Z"⟩, 6) := ⟨⟨by decide +kernel, by decide +kernel⟩, List.mem_of_getElem? (i := 10) (by decide +kernel), List.mem_of_getElem? (i := 234) (by decide +kernel), List.mem_of_getElem? (i := 235) (by decide +kernel)⟩
theorem lw_p3 : lw_okq (⟨"SandboxTree", "underDeclared", "(LSandboxTree$Action;Z)J"⟩, 6) := ⟨⟨by decide +kernel, by decide +kernel⟩, List.mem_of_getElem? (i := 10) (by decide +kernel), List.mem_of_getElem? (i := 246) (by decide +kernel), List.mem_of_getElem? (i := 247) (by decide +kernel)⟩
theorem lw_p4 : lw_okq (⟨"SandboxTree", "runningAt", "(I)LSandboxTree$Action;"⟩, 6) := ⟨⟨by decide +kernel, by decide +kernel⟩, List.mem_of_getElem? (i := 10) (by decide +kernel), List.mem_of_getElem? (i := 267) (by decide +kernel), List.mem_of_getElem? (i := 268) (by decide +kernel)⟩
theorem lw_p5 : lw_okq (⟨"SandboxTree", "canPut", "(LSandboxTree$Action;I)Z"⟩, 6) := ⟨⟨by decide +kernel, by decide +kernel⟩, List.mem_of_getElem? (i := 10) (by decide +kernel), List.mem_of_getElem? (i := 285) (by decide +kernel), List.mem_of_getElem? (i := 286) (by decide +kernel)⟩
theorem lw_p6 : lw_okq (⟨"SandboxTree", "writable", "(LSandboxTree$Action;)J"⟩, 6) := ⟨⟨by decide +kernel, by decide +kernel⟩, List.mem_of_getElem? (i := 10) (by decide +kernel), List.mem_of_getElem? (i := 289) (by decide +kernel), List.mem_of_getElem? (i := 290) (by decide +kernel)⟩
theorem lw_p7 : lw_okq (⟨"SandboxTree", "scratch", "(LSandboxTree$Action;)J"⟩, 6) := ⟨⟨by decide +kernel, by decide +kernel⟩, List.mem_of_getElem? (i := 10) (by decide +kernel), List.mem_of_getElem? (i := 293) (by decide +kernel), List.mem_of_getElem? (i := 294) (by decide +kernel)⟩
theorem lw_p8 : lw_okq (⟨"SandboxTree", "refuse", "(LSandboxTree$Action;)I"⟩, 6) := ⟨⟨by decide +kernel, by decide +kernel⟩, List.mem_of_getElem? (i := 10) (by decide +kernel), List.mem_of_getElem? (i := 298) (by decide +kernel), List.mem_of_getElem? (i := 299) (by decide +kernel)⟩
theorem lw_p9 : lw_okq (⟨"SandboxTree", "firstOutputFault", "(LSandboxTree$Action;)I"⟩, 6) := ⟨⟨by decide +kernel, by decide +kernel⟩, List.mem_of_getElem? (i := 10) (by decide +kernel), List.mem_of_getElem? (i := 326) (by decide +kernel), List.mem_of_getElem? (i := 327) (by decide +kernel)⟩
theorem lw_p10 : lw_okq (⟨"SandboxTree", "gather", "(LSandboxTree$Action;)I"⟩, 6) := ⟨⟨by decide +kernel, by decide +kernel⟩, List.mem_of_getElem? (i := 10) (by decide +kernel), List.mem_of_getElem? (i := 335) (by decide +kernel), List.mem_of_getElem? (i := 336) (by decide +kernel)⟩
theorem lw_p11 : lw_okq (⟨"SandboxTreeModel", "isPath", "(I)Z"⟩, 21) := ⟨⟨by decide +kernel, by decide +kernel⟩, List.mem_of_getElem? (i := 359) (by decide +kernel), List.mem_of_getElem? (i := 433) (by decide +kernel), List.mem_of_getElem? (i := 434) (by decide +kernel)⟩
theorem lw_p12 : lw_okq (⟨"SandboxTreeModel", "child", "(II)I"⟩, 21) := ⟨⟨by decide +kernel, by decide +kernel⟩, List.mem_of_getElem? (i := 359) (by decide +kernel), List.mem_of_getElem? (i := 440) (by decide +kernel), List.mem_of_getElem? (i := 441) (by decide +kernel)⟩
theorem lw_p13 : lw_okq (⟨"SandboxTreeModel", "isUnder", "(II)Z"⟩, 21) := ⟨⟨by decide +kernel, by decide +kernel⟩, List.mem_of_getElem? (i := 359) (by decide +kernel), List.mem_of_getElem? (i := 448) (by decide +kernel), List.mem_of_getElem? (i := 449) (by decide +kernel)⟩
theorem lw_p14 : lw_okq (⟨"SandboxTreeModel", "isAction", "(I)Z"⟩, 21) := ⟨⟨by decide +kernel, by decide +kernel⟩, List.mem_of_getElem? (i := 359) (by decide +kernel), List.mem_of_getElem? (i := 464) (by decide +kernel), List.mem_of_getElem? (i := 465) (by decide +kernel)⟩
theorem lw_p15 : lw_okq (⟨"SandboxTreeModel", "isDeclared", "(IIZ)Z"⟩, 21) := ⟨⟨by decide +kernel, by decide +kernel⟩, List.mem_of_getElem? (i := 359) (by decide +kernel), List.mem_of_getElem? (i := 476) (by decide +kernel), List.mem_of_getElem? (i := 477) (by decide +kernel)⟩
def lw_privs_1 : List (MethodName × Nat) := [(⟨"SandboxTree", "actionAt", "(I)LSandboxTree$Action;"⟩, 6), (⟨"SandboxTree", "touchesDeclared", "(LSandboxTree$Action;I)Z"⟩, 6), (⟨"SandboxTree", "lacksInput", "(LSandboxTree$Action;)Z"⟩, 6), (⟨"SandboxTree", "underDeclared", "(LSandboxTree$Action;Z)J"⟩, 6), (⟨"SandboxTree", "runningAt", "(I)LSandboxTree$Action;"⟩, 6), (⟨"SandboxTree", "canPut", "(LSandboxTree$Action;I)Z"⟩, 6), (⟨"SandboxTree", "writable", "(LSandboxTree$Action;)J"⟩, 6), (⟨"SandboxTree", "scratch", "(LSandboxTree$Action;)J"⟩, 6), (⟨"SandboxTree", "refuse", "(LSandboxTree$Action;)I"⟩, 6), (⟨"SandboxTree", "firstOutputFault", "(LSandboxTree$Action;)I"⟩, 6), (⟨"SandboxTree", "gather", "(LSandboxTree$Action;)I"⟩, 6), (⟨"SandboxTreeModel", "isPath", "(I)Z"⟩, 21), (⟨"SandboxTreeModel", "child", "(II)I"⟩, 21), (⟨"SandboxTreeModel", "isUnder", "(II)Z"⟩, 21), (⟨"SandboxTreeModel", "isAction", "(I)Z"⟩, 21), (⟨"SandboxTreeModel", "isDeclared", "(IIZ)Z"⟩, 21)]
theorem lw_r1 : ∀ q ∈ lw_privs_1, lw_okq q := List.forall_mem_cons.mpr ⟨lw_p0, List.forall_mem_cons.mpr ⟨lw_p1, List.forall_mem_cons.mpr ⟨lw_p2, List.forall_mem_cons.mpr ⟨lw_p3, List.forall_mem_cons.mpr ⟨lw_p4, List.forall_mem_cons.mpr ⟨lw_p5, List.forall_mem_cons.mpr ⟨lw_p6, List.forall_mem_cons.mpr ⟨lw_p7, List.forall_mem_cons.mpr ⟨lw_p8, List.forall_mem_cons.mpr ⟨lw_p9, List.forall_mem_cons.mpr ⟨lw_p10, List.forall_mem_cons.mpr ⟨lw_p11, List.forall_mem_cons.mpr ⟨lw_p12, List.forall_mem_cons.mpr ⟨lw_p13, List.forall_mem_cons.mpr ⟨lw_p14, List.forall_mem_cons.mpr ⟨lw_p15, fun _ h => absurd h List.not_mem_nil⟩⟩⟩⟩⟩⟩⟩⟩⟩⟩⟩⟩⟩⟩⟩⟩
theorem lw_p16 : lw_okq (⟨"SandboxTreeModel", "may", "(III)I"⟩, 21) := ⟨⟨by decide +kernel, by decide +kernel⟩, List.mem_of_getElem? (i := 359) (by decide +kernel), List.mem_of_getElem? (i := 484) (by decide +kernel), List.mem_of_getElem? (i := 485) (by decide +kernel)⟩
theorem lw_p17 : lw_okq (⟨"SandboxTreeModel", "leads", "(II)I"⟩, 21) := ⟨⟨by decide +kernel, by decide +kernel⟩, List.mem_of_getElem? (i := 359) (by decide +kernel), List.mem_of_getElem? (i := 488) (by decide +kernel), List.mem_of_getElem? (i := 489) (by decide +kernel)⟩
theorem lw_p18 : lw_okq (⟨"SandboxTreeModel", "at", "(II)I"⟩, 21) := ⟨⟨by decide +kernel, by decide +kernel⟩, List.mem_of_getElem? (i := 359) (by decide +kernel), List.mem_of_getElem? (i := 492) (by decide +kernel), List.mem_of_getElem? (i := 493) (by decide +kernel)⟩
theorem lw_p19 : lw_okq (⟨"SandboxTreeModel", "isWritable", "(II)Z"⟩, 21) := ⟨⟨by decide +kernel, by decide +kernel⟩, List.mem_of_getElem? (i := 359) (by decide +kernel), List.mem_of_getElem? (i := 503) (by decide +kernel), List.mem_of_getElem? (i := 504) (by decide +kernel)⟩
theorem lw_p20 : lw_okq (⟨"SandboxTreeModel", "isInWay", "(II)Z"⟩, 21) := ⟨⟨by decide +kernel, by decide +kernel⟩, List.mem_of_getElem? (i := 359) (by decide +kernel), List.mem_of_getElem? (i := 507) (by decide +kernel), List.mem_of_getElem? (i := 508) (by decide +kernel)⟩
theorem lw_p21 : lw_okq (⟨"SandboxTreeModel", "refuse", "(I)I"⟩, 21) := ⟨⟨by decide +kernel, by decide +kernel⟩, List.mem_of_getElem? (i := 359) (by decide +kernel), List.mem_of_getElem? (i := 511) (by decide +kernel), List.mem_of_getElem? (i := 512) (by decide +kernel)⟩
theorem lw_p22 : lw_okq (⟨"SandboxTreeModel", "hasUnder", "(II)Z"⟩, 21) := ⟨⟨by decide +kernel, by decide +kernel⟩, List.mem_of_getElem? (i := 359) (by decide +kernel), List.mem_of_getElem? (i := 527) (by decide +kernel), List.mem_of_getElem? (i := 528) (by decide +kernel)⟩
theorem lw_p23 : lw_okq (⟨"SandboxTreeModel", "ended", "(IZ)I"⟩, 21) := ⟨⟨by decide +kernel, by decide +kernel⟩, List.mem_of_getElem? (i := 359) (by decide +kernel), List.mem_of_getElem? (i := 535) (by decide +kernel), List.mem_of_getElem? (i := 536) (by decide +kernel)⟩
theorem lw_p24 : lw_okq (⟨"SandboxTreeModel", "isLoose", "(II)Z"⟩, 21) := ⟨⟨by decide +kernel, by decide +kernel⟩, List.mem_of_getElem? (i := 359) (by decide +kernel), List.mem_of_getElem? (i := 539) (by decide +kernel), List.mem_of_getElem? (i := 540) (by decide +kernel)⟩
theorem lw_p25 : lw_okq (⟨"SandboxTreeModel", "mark", "(I)V"⟩, 21) := ⟨⟨by decide +kernel, by decide +kernel⟩, List.mem_of_getElem? (i := 359) (by decide +kernel), List.mem_of_getElem? (i := 543) (by decide +kernel), List.mem_of_getElem? (i := 544) (by decide +kernel)⟩
theorem lw_p26 : lw_okq (⟨"SandboxTreeModel", "clashes", "()Z"⟩, 21) := ⟨⟨by decide +kernel, by decide +kernel⟩, List.mem_of_getElem? (i := 359) (by decide +kernel), List.mem_of_getElem? (i := 547) (by decide +kernel), List.mem_of_getElem? (i := 548) (by decide +kernel)⟩
def lw_privs_2 : List (MethodName × Nat) := [(⟨"SandboxTreeModel", "may", "(III)I"⟩, 21), (⟨"SandboxTreeModel", "leads", "(II)I"⟩, 21), (⟨"SandboxTreeModel", "at", "(II)I"⟩, 21), (⟨"SandboxTreeModel", "isWritable", "(II)Z"⟩, 21), (⟨"SandboxTreeModel", "isInWay", "(II)Z"⟩, 21), (⟨"SandboxTreeModel", "refuse", "(I)I"⟩, 21), (⟨"SandboxTreeModel", "hasUnder", "(II)Z"⟩, 21), (⟨"SandboxTreeModel", "ended", "(IZ)I"⟩, 21), (⟨"SandboxTreeModel", "isLoose", "(II)Z"⟩, 21), (⟨"SandboxTreeModel", "mark", "(I)V"⟩, 21), (⟨"SandboxTreeModel", "clashes", "()Z"⟩, 21)]
theorem lw_r2 : ∀ q ∈ lw_privs_2, lw_okq q := List.forall_mem_cons.mpr ⟨lw_p16, List.forall_mem_cons.mpr ⟨lw_p17, List.forall_mem_cons.mpr ⟨lw_p18, List.forall_mem_cons.mpr ⟨lw_p19, List.forall_mem_cons.mpr ⟨lw_p20, List.forall_mem_cons.mpr ⟨lw_p21, List.forall_mem_cons.mpr ⟨lw_p22, List.forall_mem_cons.mpr ⟨lw_p23, List.forall_mem_cons.mpr ⟨lw_p24, List.forall_mem_cons.mpr ⟨lw_p25, List.forall_mem_cons.mpr ⟨lw_p26, fun _ h => absurd h List.not_mem_nil⟩⟩⟩⟩⟩⟩⟩⟩⟩⟩⟩
def lw_privs : List (MethodName × Nat) := lw_privs_1 ++ (lw_privs_2)
def lw_tbl : List Cond := k2_sels lw_privs ++ tables_1
theorem lw_privs_ok : ∀ q ∈ lw_privs, lw_okq q := by
  show ∀ q ∈ lw_privs_1 ++ (lw_privs_2), lw_okq q
  exact List.forall_mem_append.mpr ⟨lw_r1, lw_r2⟩
end
section
/-! Names: classes, fields, methods; the words of the tables by their places; a row decodes each instruction. Written by wip/whole/gen/names.py. -/
def R_A : String := "SandboxTree$Action"
def R_P : String := "SandboxTree$PathTree"
def R_S : String := "SandboxTree$Store"
def R_X : String := "SandboxTree"
def R_M : String := "SandboxTreeModel"
def R_L : String := "SandboxTreeLaw"
def R_J : String := "java/lang/Long"
def T_A : u_T := fun k => match k with
  | 0 => ("SandboxTree$Action", "declaredPaths", "[I", true)
  | 1 => ("SandboxTree$Action", "isOutput", "[Z", true)
  | 2 => ("SandboxTree$Action", "declaredCount", "I", false)
  | 3 => ("SandboxTree$Action", "world", "LSandboxTree$Store;", true)
  | 4 => ("SandboxTree$Action", "worldThere", "Z", false)
  | 5 => ("SandboxTree$Action", "hadWorld", "Z", false)
  | 6 => ("SandboxTree$Action", "broken", "Z", false)
  | 7 => ("SandboxTree$Action", "operations", "I", false)
  | 8 => ("SandboxTree$Action", "refused", "I", false)
  | 9 => ("SandboxTree$Action", "triedPaths", "[I", true)
  | 10 => ("SandboxTree$Action", "triedCount", "I", false)
  | _ => ("SandboxTree$Action", "triedSet", "J", false)
def t_A : Nat → FieldType := fun k => match k with
  | 0 => .array .int
  | 1 => .array .boolean
  | 2 => .int
  | 3 => .object "SandboxTree$Store"
  | 4 => .boolean
  | 5 => .boolean
  | 6 => .boolean
  | 7 => .int
  | 8 => .int
  | 9 => .array .int
  | 10 => .int
  | _ => .long
theorem n_A : ∀ a, a < 12 → ∀ b, b < 12 → a ≠ b → (T_A a).2.1 ≠ (T_A b).2.1 := by decide +kernel
theorem o_A : ∀ k, k < 12 → parseFieldDescriptor (T_A k).2.2.1 = some (t_A k) := by decide +kernel
def T_P : u_T := fun k => match k with
  | 0 => ("SandboxTree$PathTree", "parents", "[I", true)
  | 1 => ("SandboxTree$PathTree", "letters", "[C", true)
  | 2 => ("SandboxTree$PathTree", "aboveSets", "[J", true)
  | 3 => ("SandboxTree$PathTree", "underSets", "[J", true)
  | _ => ("SandboxTree$PathTree", "count", "I", false)
def t_P : Nat → FieldType := fun k => match k with
  | 0 => .array .int
  | 1 => .array .char
  | 2 => .array .long
  | 3 => .array .long
  | _ => .int
theorem n_P : ∀ a, a < 5 → ∀ b, b < 5 → a ≠ b → (T_P a).2.1 ≠ (T_P b).2.1 := by decide +kernel
theorem o_P : ∀ k, k < 5 → parseFieldDescriptor (T_P k).2.2.1 = some (t_P k) := by decide +kernel
def T_S : u_T := fun k => match k with
  | 0 => ("SandboxTree$Store", "values", "[I", true)
  | 1 => ("SandboxTree$Store", "files", "J", false)
  | _ => ("SandboxTree$Store", "links", "J", false)
def t_S : Nat → FieldType := fun k => match k with
  | 0 => .array .int
  | 1 => .long
  | _ => .long
theorem n_S : ∀ a, a < 3 → ∀ b, b < 3 → a ≠ b → (T_S a).2.1 ≠ (T_S b).2.1 := by decide +kernel
theorem o_S : ∀ k, k < 3 → parseFieldDescriptor (T_S k).2.2.1 = some (t_S k) := by decide +kernel
def T_X : u_T := fun k => match k with
  | 0 => ("SandboxTree", "limit", "I", true)
  | 1 => ("SandboxTree", "paths", "LSandboxTree$PathTree;", true)
  | 2 => ("SandboxTree", "sourceFiles", "LSandboxTree$Store;", true)
  | 3 => ("SandboxTree", "actions", "[LSandboxTree$Action;", true)
  | 4 => ("SandboxTree", "actionCount", "I", false)
  | _ => ("SandboxTree", "strictNow", "Z", false)
def t_X : Nat → FieldType := fun k => match k with
  | 0 => .int
  | 1 => .object "SandboxTree$PathTree"
  | 2 => .object "SandboxTree$Store"
  | 3 => .array (.object "SandboxTree$Action")
  | 4 => .int
  | _ => .boolean
theorem n_X : ∀ a, a < 6 → ∀ b, b < 6 → a ≠ b → (T_X a).2.1 ≠ (T_X b).2.1 := by decide +kernel
theorem o_X : ∀ k, k < 6 → parseFieldDescriptor (T_X k).2.2.1 = some (t_X k) := by decide +kernel
def T_M : u_T := fun k => match k with
  | 0 => ("SandboxTreeModel", "most", "I", true)
  | 1 => ("SandboxTreeModel", "code", "I", false)
  | 2 => ("SandboxTreeModel", "paths", "I", false)
  | 3 => ("SandboxTreeModel", "actions", "I", false)
  | 4 => ("SandboxTreeModel", "isStrict", "Z", false)
  | 5 => ("SandboxTreeModel", "parent", "[I", true)
  | 6 => ("SandboxTreeModel", "letter", "[I", true)
  | 7 => ("SandboxTreeModel", "source", "[I", true)
  | 8 => ("SandboxTreeModel", "come", "[I", true)
  | 9 => ("SandboxTreeModel", "declared", "[I", true)
  | 10 => ("SandboxTreeModel", "declaredPath", "[I", true)
  | 11 => ("SandboxTreeModel", "operations", "[I", true)
  | 12 => ("SandboxTreeModel", "refusals", "[I", true)
  | 13 => ("SandboxTreeModel", "triedMany", "[I", true)
  | 14 => ("SandboxTreeModel", "tried", "[I", true)
  | 15 => ("SandboxTreeModel", "world", "[I", true)
  | 16 => ("SandboxTreeModel", "isOutput", "[Z", true)
  | 17 => ("SandboxTreeModel", "isThere", "[Z", true)
  | 18 => ("SandboxTreeModel", "isBroken", "[Z", true)
  | 19 => ("SandboxTreeModel", "wasThere", "[Z", true)
  | _ => ("SandboxTreeModel", "marked", "[Z", true)
def t_M : Nat → FieldType := fun k => match k with
  | 0 => .int
  | 1 => .int
  | 2 => .int
  | 3 => .int
  | 4 => .boolean
  | 5 => .array .int
  | 6 => .array .int
  | 7 => .array .int
  | 8 => .array .int
  | 9 => .array .int
  | 10 => .array .int
  | 11 => .array .int
  | 12 => .array .int
  | 13 => .array .int
  | 14 => .array .int
  | 15 => .array .int
  | 16 => .array .boolean
  | 17 => .array .boolean
  | 18 => .array .boolean
  | 19 => .array .boolean
  | _ => .array .boolean
theorem n_M : ∀ a, a < 21 → ∀ b, b < 21 → a ≠ b → (T_M a).2.1 ≠ (T_M b).2.1 := by decide +kernel
theorem o_M : ∀ k, k < 21 → parseFieldDescriptor (T_M k).2.2.1 = some (t_M k) := by decide +kernel
abbrev vwCl : List vw_C := [(R_A, T_A, 12), (R_P, T_P, 5), (R_S, T_S, 3), (R_X, T_X, 6), (R_M, T_M, 21)]
abbrev b_X_init : ByteArray := prog_1_method_1_code
def y_X_init : MethodName := ⟨R_X, "<init>", "(I)V"⟩
abbrev b_P_init : ByteArray := prog_3_method_1_code
def y_P_init : MethodName := ⟨R_P, "<init>", "()V"⟩
abbrev b_X_only : ByteArray := prog_1_method_29_code
def y_X_only : MethodName := ⟨R_X, "only", "(I)J"⟩
abbrev b_S_init : ByteArray := prog_4_method_1_code
def y_S_init : MethodName := ⟨R_S, "<init>", "()V"⟩
abbrev b_X_path : ByteArray := prog_1_method_2_code
def y_X_path : MethodName := ⟨R_X, "path", "(IC)I"⟩
abbrev b_P_has : ByteArray := prog_3_method_2_code
def y_P_has : MethodName := ⟨R_P, "has", "(I)Z"⟩
abbrev b_X_isLetter : ByteArray := prog_1_method_28_code
def y_X_isLetter : MethodName := ⟨R_X, "isLetter", "(C)Z"⟩
abbrev b_P_find : ByteArray := prog_3_method_3_code
def y_P_find : MethodName := ⟨R_P, "find", "(IC)I"⟩
abbrev b_P_add : ByteArray := prog_3_method_4_code
def y_P_add : MethodName := ⟨R_P, "add", "(IC)I"⟩
abbrev b_X_holds : ByteArray := prog_1_method_30_code
def y_X_holds : MethodName := ⟨R_X, "holds", "(JI)Z"⟩
abbrev b_X_file : ByteArray := prog_1_method_3_code
def y_X_file : MethodName := ⟨R_X, "file", "(II)Z"⟩
abbrev b_P_inTheWayOf : ByteArray := prog_3_method_6_code
def y_P_inTheWayOf : MethodName := ⟨R_P, "inTheWayOf", "(I)J"⟩
abbrev b_S_taken : ByteArray := prog_4_method_2_code
def y_S_taken : MethodName := ⟨R_S, "taken", "()J"⟩
abbrev b_S_takeAway : ByteArray := prog_4_method_5_code
def y_S_takeAway : MethodName := ⟨R_S, "takeAway", "(I)V"⟩
abbrev b_S_putFile : ByteArray := prog_4_method_3_code
def y_S_putFile : MethodName := ⟨R_S, "putFile", "(II)V"⟩
abbrev b_S_canHold : ByteArray := prog_4_method_9_code
def y_S_canHold : MethodName := ⟨R_S, "canHold", "(I)Z"⟩
abbrev b_X_source : ByteArray := prog_1_method_4_code
def y_X_source : MethodName := ⟨R_X, "source", "(I)I"⟩
abbrev b_S_leadsTo : ByteArray := prog_4_method_7_code
def y_S_leadsTo : MethodName := ⟨R_S, "leadsTo", "(I)I"⟩
abbrev b_X_action : ByteArray := prog_1_method_5_code
def y_X_action : MethodName := ⟨R_X, "action", "()I"⟩
abbrev b_A_init : ByteArray := prog_2_method_1_code
def y_A_init : MethodName := ⟨R_A, "<init>", "()V"⟩
abbrev b_X_declare : ByteArray := prog_1_method_6_code
def y_X_declare : MethodName := ⟨R_X, "declare", "(IIZ)I"⟩
abbrev b_X_actionAt : ByteArray := prog_1_method_17_code
def y_X_actionAt : MethodName := ⟨R_X, "actionAt", "(I)LSandboxTree$Action;"⟩
abbrev b_X_touchesDeclared : ByteArray := prog_1_method_19_code
def y_X_touchesDeclared : MethodName := ⟨R_X, "touchesDeclared", "(LSandboxTree$Action;I)Z"⟩
abbrev b_A_addDeclared : ByteArray := prog_2_method_2_code
def y_A_addDeclared : MethodName := ⟨R_A, "addDeclared", "(IZ)V"⟩
abbrev b_X_strict : ByteArray := prog_1_method_7_code
def y_X_strict : MethodName := ⟨R_X, "strict", "(Z)V"⟩
abbrev b_X_begin : ByteArray := prog_1_method_8_code
def y_X_begin : MethodName := ⟨R_X, "begin", "(I)I"⟩
abbrev b_X_lacksInput : ByteArray := prog_1_method_20_code
def y_X_lacksInput : MethodName := ⟨R_X, "lacksInput", "(LSandboxTree$Action;)Z"⟩
abbrev b_P_under : ByteArray := prog_3_method_5_code
def y_P_under : MethodName := ⟨R_P, "under", "(I)J"⟩
abbrev b_A_startWorld : ByteArray := prog_2_method_3_code
def y_A_startWorld : MethodName := ⟨R_A, "startWorld", "()V"⟩
abbrev b_X_underDeclared : ByteArray := prog_1_method_21_code
def y_X_underDeclared : MethodName := ⟨R_X, "underDeclared", "(LSandboxTree$Action;Z)J"⟩
abbrev b_S_copyFiles : ByteArray := prog_4_method_6_code
def y_S_copyFiles : MethodName := ⟨R_S, "copyFiles", "(LSandboxTree$Store;J)V"⟩
abbrev b_J_bitCount : ByteArray := prog_7_method_50_code
def y_J_bitCount : MethodName := ⟨R_J, "bitCount", "(J)I"⟩
abbrev b_X_open : ByteArray := prog_1_method_9_code
def y_X_open : MethodName := ⟨R_X, "open", "(II)I"⟩
abbrev b_X_runningAt : ByteArray := prog_1_method_18_code
def y_X_runningAt : MethodName := ⟨R_X, "runningAt", "(I)LSandboxTree$Action;"⟩
abbrev b_A_startOperation : ByteArray := prog_2_method_4_code
def y_A_startOperation : MethodName := ⟨R_A, "startOperation", "(I)Z"⟩
abbrev b_A_noteTried : ByteArray := prog_2_method_5_code
def y_A_noteTried : MethodName := ⟨R_A, "noteTried", "(I)V"⟩
abbrev b_X_write : ByteArray := prog_1_method_10_code
def y_X_write : MethodName := ⟨R_X, "write", "(III)I"⟩
abbrev b_X_canPut : ByteArray := prog_1_method_24_code
def y_X_canPut : MethodName := ⟨R_X, "canPut", "(LSandboxTree$Action;I)Z"⟩
abbrev b_X_writable : ByteArray := prog_1_method_22_code
def y_X_writable : MethodName := ⟨R_X, "writable", "(LSandboxTree$Action;)J"⟩
abbrev b_X_scratch : ByteArray := prog_1_method_23_code
def y_X_scratch : MethodName := ⟨R_X, "scratch", "(LSandboxTree$Action;)J"⟩
abbrev b_X_refuse : ByteArray := prog_1_method_25_code
def y_X_refuse : MethodName := ⟨R_X, "refuse", "(LSandboxTree$Action;)I"⟩
abbrev b_X_link : ByteArray := prog_1_method_11_code
def y_X_link : MethodName := ⟨R_X, "link", "(III)I"⟩
abbrev b_S_putLink : ByteArray := prog_4_method_4_code
def y_S_putLink : MethodName := ⟨R_S, "putLink", "(II)V"⟩
abbrev b_X_remove : ByteArray := prog_1_method_12_code
def y_X_remove : MethodName := ⟨R_X, "remove", "(II)I"⟩
abbrev b_X_list : ByteArray := prog_1_method_13_code
def y_X_list : MethodName := ⟨R_X, "list", "(III)I"⟩
abbrev b_P_letterInFolder : ByteArray := prog_3_method_9_code
def y_P_letterInFolder : MethodName := ⟨R_P, "letterInFolder", "(IJI)I"⟩
abbrev b_X_finish : ByteArray := prog_1_method_14_code
def y_X_finish : MethodName := ⟨R_X, "finish", "(IZ)I"⟩
abbrev b_X_firstOutputFault : ByteArray := prog_1_method_26_code
def y_X_firstOutputFault : MethodName := ⟨R_X, "firstOutputFault", "(LSandboxTree$Action;)I"⟩
abbrev b_S_hasLooseLink : ByteArray := prog_4_method_8_code
def y_S_hasLooseLink : MethodName := ⟨R_S, "hasLooseLink", "(J)Z"⟩
abbrev b_X_gather : ByteArray := prog_1_method_27_code
def y_X_gather : MethodName := ⟨R_X, "gather", "(LSandboxTree$Action;)I"⟩
abbrev b_P_withAbove : ByteArray := prog_3_method_7_code
def y_P_withAbove : MethodName := ⟨R_P, "withAbove", "(J)J"⟩
abbrev b_P_hasClash : ByteArray := prog_3_method_8_code
def y_P_hasClash : MethodName := ⟨R_P, "hasClash", "(J)Z"⟩
abbrev b_X_tried : ByteArray := prog_1_method_15_code
def y_X_tried : MethodName := ⟨R_X, "tried", "(II)I"⟩
abbrev b_X_about : ByteArray := prog_1_method_16_code
def y_X_about : MethodName := ⟨R_X, "about", "(II)I"⟩
abbrev b_L_cell : ByteArray := method_2_code
def y_L_cell : MethodName := ⟨R_L, "cell", "([II)I"⟩
abbrev b_M_init : ByteArray := prog_6_method_1_code
def y_M_init : MethodName := ⟨R_M, "<init>", "(I)V"⟩
abbrev b_M_path : ByteArray := prog_6_method_7_code
def y_M_path : MethodName := ⟨R_M, "path", "(IC)I"⟩
abbrev b_M_isPath : ByteArray := prog_6_method_3_code
def y_M_isPath : MethodName := ⟨R_M, "isPath", "(I)Z"⟩
abbrev b_M_lower : ByteArray := prog_6_method_5_code
def y_M_lower : MethodName := ⟨R_M, "lower", "(I)I"⟩
abbrev b_M_child : ByteArray := prog_6_method_6_code
def y_M_child : MethodName := ⟨R_M, "child", "(II)I"⟩
abbrev b_M_file : ByteArray := prog_6_method_9_code
def y_M_file : MethodName := ⟨R_M, "file", "(II)Z"⟩
abbrev b_M_isUnder : ByteArray := prog_6_method_8_code
def y_M_isUnder : MethodName := ⟨R_M, "isUnder", "(II)Z"⟩
abbrev b_M_source : ByteArray := prog_6_method_10_code
def y_M_source : MethodName := ⟨R_M, "source", "(I)I"⟩
abbrev b_M_action : ByteArray := prog_6_method_11_code
def y_M_action : MethodName := ⟨R_M, "action", "()I"⟩
abbrev b_M_declare : ByteArray := prog_6_method_12_code
def y_M_declare : MethodName := ⟨R_M, "declare", "(IIZ)I"⟩
abbrev b_M_isAction : ByteArray := prog_6_method_4_code
def y_M_isAction : MethodName := ⟨R_M, "isAction", "(I)Z"⟩
abbrev b_M_strict : ByteArray := prog_6_method_13_code
def y_M_strict : MethodName := ⟨R_M, "strict", "(Z)V"⟩
abbrev b_M_begin : ByteArray := prog_6_method_16_code
def y_M_begin : MethodName := ⟨R_M, "begin", "(I)I"⟩
abbrev b_M_isDeclared : ByteArray := prog_6_method_14_code
def y_M_isDeclared : MethodName := ⟨R_M, "isDeclared", "(IIZ)Z"⟩
abbrev b_M_open : ByteArray := prog_6_method_23_code
def y_M_open : MethodName := ⟨R_M, "open", "(II)I"⟩
abbrev b_M_may : ByteArray := prog_6_method_20_code
def y_M_may : MethodName := ⟨R_M, "may", "(III)I"⟩
abbrev b_M_leads : ByteArray := prog_6_method_19_code
def y_M_leads : MethodName := ⟨R_M, "leads", "(II)I"⟩
abbrev b_M_at : ByteArray := prog_6_method_17_code
def y_M_at : MethodName := ⟨R_M, "at", "(II)I"⟩
abbrev b_M_goal : ByteArray := prog_6_method_18_code
def y_M_goal : MethodName := ⟨R_M, "goal", "(I)I"⟩
abbrev b_M_write : ByteArray := prog_6_method_24_code
def y_M_write : MethodName := ⟨R_M, "write", "(III)I"⟩
abbrev b_M_isWritable : ByteArray := prog_6_method_15_code
def y_M_isWritable : MethodName := ⟨R_M, "isWritable", "(II)Z"⟩
abbrev b_M_isInWay : ByteArray := prog_6_method_21_code
def y_M_isInWay : MethodName := ⟨R_M, "isInWay", "(II)Z"⟩
abbrev b_M_refuse : ByteArray := prog_6_method_22_code
def y_M_refuse : MethodName := ⟨R_M, "refuse", "(I)I"⟩
abbrev b_M_link : ByteArray := prog_6_method_25_code
def y_M_link : MethodName := ⟨R_M, "link", "(III)I"⟩
abbrev b_M_remove : ByteArray := prog_6_method_26_code
def y_M_remove : MethodName := ⟨R_M, "remove", "(II)I"⟩
abbrev b_M_list : ByteArray := prog_6_method_28_code
def y_M_list : MethodName := ⟨R_M, "list", "(III)I"⟩
abbrev b_M_hasUnder : ByteArray := prog_6_method_27_code
def y_M_hasUnder : MethodName := ⟨R_M, "hasUnder", "(II)Z"⟩
abbrev b_M_finish : ByteArray := prog_6_method_33_code
def y_M_finish : MethodName := ⟨R_M, "finish", "(IZ)I"⟩
abbrev b_M_ended : ByteArray := prog_6_method_32_code
def y_M_ended : MethodName := ⟨R_M, "ended", "(IZ)I"⟩
abbrev b_M_isLoose : ByteArray := prog_6_method_29_code
def y_M_isLoose : MethodName := ⟨R_M, "isLoose", "(II)Z"⟩
abbrev b_M_mark : ByteArray := prog_6_method_30_code
def y_M_mark : MethodName := ⟨R_M, "mark", "(I)V"⟩
abbrev b_M_clashes : ByteArray := prog_6_method_31_code
def y_M_clashes : MethodName := ⟨R_M, "clashes", "()Z"⟩
abbrev b_M_tried : ByteArray := prog_6_method_34_code
def y_M_tried : MethodName := ⟨R_M, "tried", "(II)I"⟩
abbrev b_M_about : ByteArray := prog_6_method_35_code
def y_M_about : MethodName := ⟨R_M, "about", "(II)I"⟩
abbrev b_L_law : ByteArray := code
def y_L_law : MethodName := ⟨R_L, "law", "([I)Z"⟩
def sx_gw : List Cond := lw_tbl.filter goodWord
theorem sx_gw_good {w : Cond} (h : w ∈ sx_gw) : goodWord w = true := (List.mem_filter.mp h).2
theorem sx_gw_tbl {w : Cond} (h : w ∈ sx_gw) : w ∈ lw_tbl := (List.mem_filter.mp h).1
theorem sx_wd {w : Cond} (i : Nat) (h : tables_1[i]? = some w) (g : goodWord w = true) : w ∈ sx_gw := List.mem_filter.mpr ⟨List.mem_append_right _ (List.mem_of_getElem? h), g⟩
theorem sx_wsel {w : Cond} (i : Nat) (h : (k2_sels lw_privs)[i]? = some w) (g : goodWord w = true) : w ∈ sx_gw := List.mem_filter.mpr ⟨List.mem_append_left _ (List.mem_of_getElem? h), g⟩
theorem sx_GI {c' : Cond} (h : c' ∈ sx_gw) : GoodIn sx_gw (c' :: sx_gw) := fun w hw => by
  have hm : w ∈ sx_gw := by
    rcases List.mem_cons.mp hw with e | e
    · rw [e]; exact h
    · exact e
  exact ⟨hm, good_of_word (sx_gw_good hm)⟩
theorem sx_GV {own C : String} {idx : Nat} {y : MethodName} {c' : Cond} (h1 : Cond.methodLink own idx y ∈ sx_gw) (h2 : Cond.instanceMethod y ∈ sx_gw) (h3 : Cond.selects C y y ∈ sx_gw) (h4 : Cond.initialized C ∈ sx_gw) (h : c' ∈ sx_gw) : GoodIn sx_gw (wsV own idx C y (c' :: sx_gw)) := fun w hw => by
  have hm : w ∈ sx_gw := by
    unfold wsV at hw
    rcases List.mem_append.mp hw with e | e
    · simp only [List.mem_cons, List.not_mem_nil, or_false] at e
      rcases e with e | e | e | e <;> rw [e] <;> assumption
    · exact ((sx_GI h) w e).1
  exact ⟨hm, good_of_word (sx_gw_good hm)⟩
theorem sx_GS {own : String} {idx : Nat} {y : MethodName} {c' : Cond} (h1 : Cond.methodLink own idx y ∈ sx_gw) (h2 : Cond.static y ∈ sx_gw) (h4 : Cond.initialized y.cls ∈ sx_gw) (h : c' ∈ sx_gw) : GoodIn sx_gw (va_wsS own idx y (c' :: sx_gw)) := fun w hw => by
  have hm : w ∈ sx_gw := by
    unfold va_wsS at hw
    rcases List.mem_append.mp hw with e | e
    · simp only [List.mem_cons, List.not_mem_nil, or_false] at e
      rcases e with e | e | e <;> rw [e] <;> assumption
    · exact ((sx_GI h) w e).1
  exact ⟨hm, good_of_word (sx_gw_good hm)⟩
def sx_isN : Cond → Bool
  | .fieldLinkNest .. => true
  | .methodLinkNest .. => true
  | _ => false
def sx_nws : List Cond := lw_tbl.filter sx_isN
theorem sx_wn {w : Cond} (i : Nat) (h : tables_1[i]? = some w) (g : sx_isN w = true) : w ∈ sx_nws := List.mem_filter.mpr ⟨List.mem_append_right _ (List.mem_of_getElem? h), g⟩
def sx_NW (U : State) : Prop := ∀ w ∈ sx_nws, va_Nw w U
theorem sx_NW.warm {s U : State} (hW : s.WarmedH U.vm) (h : sx_NW s) : sx_NW U := fun w hw => by
  have hf := (List.mem_filter.mp hw).2
  have h1 := h w hw
  cases w <;> first | exact va_Nw.warmF hW h1 | exact va_Nw.warmM hW h1 | (simp [sx_isN] at hf)
theorem sx_NW.same {u U : State} (hv : u.vm = U.vm) (h : sx_NW u) : sx_NW U := fun w hw => by
  have hf := (List.mem_filter.mp hw).2
  have h1 := h w hw
  cases w <;> first | exact va_Nw.same rfl hv h1 | (simp [sx_isN] at hf)
theorem wd_0 : Cond.initialized R_L ∈ sx_gw := sx_wd 0 rfl rfl
theorem wd_1 : Cond.initialized R_X ∈ sx_gw := sx_wd 1 rfl rfl
theorem wd_2 : Cond.initialized "java/lang/Math" ∈ sx_gw := sx_wd 2 rfl rfl
theorem wd_3 : Cond.initialized R_P ∈ sx_gw := sx_wd 3 rfl rfl
theorem wd_4 : Cond.initialized R_S ∈ sx_gw := sx_wd 4 rfl rfl
theorem wd_5 : Cond.initialized R_M ∈ sx_gw := sx_wd 5 rfl rfl
theorem wd_6 : Cond.initialized R_A ∈ sx_gw := sx_wd 6 rfl rfl
theorem wd_7 : Cond.initialized "java/lang/System" ∈ sx_gw := sx_wd 7 rfl rfl
theorem wd_8 : Cond.initialized R_J ∈ sx_gw := sx_wd 8 rfl rfl
theorem wd_9 : Cond.classLink R_L (7 : Nat) R_X ∈ sx_gw := sx_wd 9 rfl rfl
theorem wd_10 : Cond.instantiable R_X (6 : Nat) ∈ sx_gw := sx_wd 10 rfl rfl
theorem wd_11 : Cond.methodLink R_L (15 : Nat) y_X_init ∈ sx_gw := sx_wd 11 rfl rfl
theorem wd_12 : Cond.instanceMethod y_X_init ∈ sx_gw := sx_wd 12 rfl rfl
theorem wd_13 : Cond.code y_X_init b_X_init 2 none ∈ sx_gw := sx_wd 13 rfl rfl
theorem wd_14 : Cond.methodLink R_X (1 : Nat) objectInit ∈ sx_gw := sx_wd 14 rfl rfl
theorem wd_15 : Cond.instanceMethod objectInit ∈ sx_gw := sx_wd 15 rfl rfl
theorem wd_16 : Cond.code objectInit ⟨#[0xb1]⟩ 1 none ∈ sx_gw := sx_wd 16 rfl rfl
theorem wd_17 : Cond.methodLink R_X (9 : Nat) Lib.Math.min.name ∈ sx_gw := sx_wd 17 rfl rfl
theorem wd_18 : Cond.static Lib.Math.min.name ∈ sx_gw := sx_wd 18 rfl rfl
theorem wd_19 : Cond.code Lib.Math.min.name Lib.Math.min.code 2 (some .int) ∈ sx_gw := sx_wd 19 rfl rfl
theorem wd_20 : Cond.methodLink R_X (15 : Nat) Lib.Math.max.name ∈ sx_gw := sx_wd 20 rfl rfl
theorem wd_21 : Cond.static Lib.Math.max.name ∈ sx_gw := sx_wd 21 rfl rfl
theorem wd_22 : Cond.code Lib.Math.max.name Lib.Math.max.code 2 (some .int) ∈ sx_gw := sx_wd 22 rfl rfl
theorem wd_23 : Cond.classLink R_X (22 : Nat) R_P ∈ sx_gw := sx_wd 23 rfl rfl
theorem wd_24 : Cond.instantiable R_P (5 : Nat) ∈ sx_gw := sx_wd 24 rfl rfl
theorem wd_25 : Cond.methodLink R_X (24 : Nat) y_P_init ∈ sx_gw := sx_wd 25 rfl rfl
theorem wd_26 : Cond.instanceMethod y_P_init ∈ sx_gw := sx_wd 26 rfl rfl
theorem wd_27 : Cond.code y_P_init b_P_init 1 none ∈ sx_gw := sx_wd 27 rfl rfl
theorem wd_28 : Cond.methodLink R_P (3 : Nat) objectInit ∈ sx_gw := sx_wd 28 rfl rfl
theorem wd_29 : Cond.methodLinkNest R_P (30 : Nat) y_X_only "SandboxTree" ∈ sx_nws := sx_wn 29 rfl rfl
theorem wd_30 : Cond.static y_X_only ∈ sx_gw := sx_wd 30 rfl rfl
theorem wd_31 : Cond.code y_X_only b_X_only 1 (some .long) ∈ sx_gw := sx_wd 31 rfl rfl
theorem wd_32 : Cond.fieldLink R_P (9 : Nat) "SandboxTree$PathTree" "parents" "[I" ∈ sx_gw := sx_wd 32 rfl rfl
theorem wd_33 : Cond.fieldLink R_P (15 : Nat) "SandboxTree$PathTree" "letters" "[C" ∈ sx_gw := sx_wd 33 rfl rfl
theorem wd_34 : Cond.fieldLink R_P (19 : Nat) "SandboxTree$PathTree" "aboveSets" "[J" ∈ sx_gw := sx_wd 34 rfl rfl
theorem wd_35 : Cond.fieldLink R_P (23 : Nat) "SandboxTree$PathTree" "underSets" "[J" ∈ sx_gw := sx_wd 35 rfl rfl
theorem wd_36 : Cond.fieldLink R_P (26 : Nat) "SandboxTree$PathTree" "count" "I" ∈ sx_gw := sx_wd 36 rfl rfl
theorem wd_37 : Cond.laysFinal "SandboxTree$PathTree" "SandboxTree$PathTree" "parents" "[I" ∈ sx_gw := sx_wd 37 rfl rfl
theorem wd_39 : Cond.laysFinal "SandboxTree$PathTree" "SandboxTree$PathTree" "letters" "[C" ∈ sx_gw := sx_wd 39 rfl rfl
theorem wd_41 : Cond.laysFinal "SandboxTree$PathTree" "SandboxTree$PathTree" "aboveSets" "[J" ∈ sx_gw := sx_wd 41 rfl rfl
theorem wd_43 : Cond.laysFinal "SandboxTree$PathTree" "SandboxTree$PathTree" "underSets" "[J" ∈ sx_gw := sx_wd 43 rfl rfl
theorem wd_45 : Cond.lays "SandboxTree$PathTree" "SandboxTree$PathTree" "count" "I" ∈ sx_gw := sx_wd 45 rfl rfl
theorem wd_48 : Cond.arrayClass .int ∈ sx_gw := sx_wd 48 rfl rfl
theorem wd_49 : Cond.arrayClass .char ∈ sx_gw := sx_wd 49 rfl rfl
theorem wd_50 : Cond.arrayClass .long ∈ sx_gw := sx_wd 50 rfl rfl
theorem wd_51 : Cond.classLink R_X (29 : Nat) R_S ∈ sx_gw := sx_wd 51 rfl rfl
theorem wd_52 : Cond.instantiable R_S (3 : Nat) ∈ sx_gw := sx_wd 52 rfl rfl
theorem wd_53 : Cond.methodLinkNest R_X (31 : Nat) y_S_init "SandboxTree" ∈ sx_nws := sx_wn 53 rfl rfl
theorem wd_54 : Cond.instanceMethod y_S_init ∈ sx_gw := sx_wd 54 rfl rfl
theorem wd_55 : Cond.code y_S_init b_S_init 1 none ∈ sx_gw := sx_wd 55 rfl rfl
theorem wd_56 : Cond.methodLink R_S (3 : Nat) objectInit ∈ sx_gw := sx_wd 56 rfl rfl
theorem wd_57 : Cond.fieldLink R_S (9 : Nat) "SandboxTree$Store" "values" "[I" ∈ sx_gw := sx_wd 57 rfl rfl
theorem wd_58 : Cond.fieldLink R_S (15 : Nat) "SandboxTree$Store" "files" "J" ∈ sx_gw := sx_wd 58 rfl rfl
theorem wd_59 : Cond.fieldLink R_S (19 : Nat) "SandboxTree$Store" "links" "J" ∈ sx_gw := sx_wd 59 rfl rfl
theorem wd_60 : Cond.laysFinal "SandboxTree$Store" "SandboxTree$Store" "values" "[I" ∈ sx_gw := sx_wd 60 rfl rfl
theorem wd_62 : Cond.lays "SandboxTree$Store" "SandboxTree$Store" "files" "J" ∈ sx_gw := sx_wd 62 rfl rfl
theorem wd_64 : Cond.lays "SandboxTree$Store" "SandboxTree$Store" "links" "J" ∈ sx_gw := sx_wd 64 rfl rfl
theorem wd_67 : Cond.classLink R_X (36 : Nat) R_A ∈ sx_gw := sx_wd 67 rfl rfl
theorem wd_69 : Cond.fieldLink R_X (18 : Nat) "SandboxTree" "limit" "I" ∈ sx_gw := sx_wd 69 rfl rfl
theorem wd_70 : Cond.fieldLink R_X (25 : Nat) "SandboxTree" "paths" "LSandboxTree$PathTree;" ∈ sx_gw := sx_wd 70 rfl rfl
theorem wd_71 : Cond.fieldLink R_X (32 : Nat) "SandboxTree" "sourceFiles" "LSandboxTree$Store;" ∈ sx_gw := sx_wd 71 rfl rfl
theorem wd_72 : Cond.fieldLink R_X (38 : Nat) "SandboxTree" "actions" "[LSandboxTree$Action;" ∈ sx_gw := sx_wd 72 rfl rfl
theorem wd_73 : Cond.fieldLink R_X (77 : Nat) "SandboxTree" "actionCount" "I" ∈ sx_gw := sx_wd 73 rfl rfl
theorem wd_74 : Cond.fieldLink R_X (100 : Nat) "SandboxTree" "strictNow" "Z" ∈ sx_gw := sx_wd 74 rfl rfl
theorem wd_75 : Cond.laysFinal "SandboxTree" "SandboxTree" "limit" "I" ∈ sx_gw := sx_wd 75 rfl rfl
theorem wd_77 : Cond.laysFinal "SandboxTree" "SandboxTree" "paths" "LSandboxTree$PathTree;" ∈ sx_gw := sx_wd 77 rfl rfl
theorem wd_79 : Cond.laysFinal "SandboxTree" "SandboxTree" "sourceFiles" "LSandboxTree$Store;" ∈ sx_gw := sx_wd 79 rfl rfl
theorem wd_81 : Cond.laysFinal "SandboxTree" "SandboxTree" "actions" "[LSandboxTree$Action;" ∈ sx_gw := sx_wd 81 rfl rfl
theorem wd_83 : Cond.lays "SandboxTree" "SandboxTree" "actionCount" "I" ∈ sx_gw := sx_wd 83 rfl rfl
theorem wd_85 : Cond.lays "SandboxTree" "SandboxTree" "strictNow" "Z" ∈ sx_gw := sx_wd 85 rfl rfl
theorem wd_88 : Cond.methodLink R_L (21 : Nat) y_X_path ∈ sx_gw := sx_wd 88 rfl rfl
theorem wd_89 : Cond.instanceMethod y_X_path ∈ sx_gw := sx_wd 89 rfl rfl
theorem wd_90 : Cond.selects R_X y_X_path y_X_path ∈ sx_gw := sx_wd 90 rfl rfl
theorem wd_91 : Cond.code y_X_path b_X_path 4 (some .int) ∈ sx_gw := sx_wd 91 rfl rfl
theorem wd_92 : Cond.methodLink R_X (42 : Nat) y_P_has ∈ sx_gw := sx_wd 92 rfl rfl
theorem wd_93 : Cond.instanceMethod y_P_has ∈ sx_gw := sx_wd 93 rfl rfl
theorem wd_94 : Cond.selects R_P y_P_has y_P_has ∈ sx_gw := sx_wd 94 rfl rfl
theorem wd_95 : Cond.code y_P_has b_P_has 2 (some .boolean) ∈ sx_gw := sx_wd 95 rfl rfl
theorem wd_96 : Cond.methodLink R_X (46 : Nat) y_X_isLetter ∈ sx_gw := sx_wd 96 rfl rfl
theorem wd_97 : Cond.static y_X_isLetter ∈ sx_gw := sx_wd 97 rfl rfl
theorem wd_98 : Cond.code y_X_isLetter b_X_isLetter 1 (some .boolean) ∈ sx_gw := sx_wd 98 rfl rfl
theorem wd_99 : Cond.methodLink R_X (50 : Nat) y_P_find ∈ sx_gw := sx_wd 99 rfl rfl
theorem wd_100 : Cond.instanceMethod y_P_find ∈ sx_gw := sx_wd 100 rfl rfl
theorem wd_101 : Cond.selects R_P y_P_find y_P_find ∈ sx_gw := sx_wd 101 rfl rfl
theorem wd_102 : Cond.code y_P_find b_P_find 4 (some .int) ∈ sx_gw := sx_wd 102 rfl rfl
theorem wd_103 : Cond.methodLink R_X (54 : Nat) y_P_add ∈ sx_gw := sx_wd 103 rfl rfl
theorem wd_104 : Cond.instanceMethod y_P_add ∈ sx_gw := sx_wd 104 rfl rfl
theorem wd_105 : Cond.selects R_P y_P_add y_P_add ∈ sx_gw := sx_wd 105 rfl rfl
theorem wd_106 : Cond.code y_P_add b_P_add 5 (some .int) ∈ sx_gw := sx_wd 106 rfl rfl
theorem wd_107 : Cond.methodLink R_P (34 : Nat) y_P_has ∈ sx_gw := sx_wd 107 rfl rfl
theorem wd_108 : Cond.methodLinkNest R_P (38 : Nat) y_X_holds "SandboxTree" ∈ sx_nws := sx_wn 108 rfl rfl
theorem wd_109 : Cond.static y_X_holds ∈ sx_gw := sx_wd 109 rfl rfl
theorem wd_110 : Cond.code y_X_holds b_X_holds 3 (some .boolean) ∈ sx_gw := sx_wd 110 rfl rfl
theorem wd_111 : Cond.methodLink R_X (183 : Nat) y_X_only ∈ sx_gw := sx_wd 111 rfl rfl
theorem wd_112 : Cond.methodLink R_L (26 : Nat) y_X_file ∈ sx_gw := sx_wd 112 rfl rfl
theorem wd_113 : Cond.instanceMethod y_X_file ∈ sx_gw := sx_wd 113 rfl rfl
theorem wd_114 : Cond.selects R_X y_X_file y_X_file ∈ sx_gw := sx_wd 114 rfl rfl
theorem wd_115 : Cond.code y_X_file b_X_file 3 (some .boolean) ∈ sx_gw := sx_wd 115 rfl rfl
theorem wd_116 : Cond.methodLink R_X (57 : Nat) y_P_inTheWayOf ∈ sx_gw := sx_wd 116 rfl rfl
theorem wd_117 : Cond.instanceMethod y_P_inTheWayOf ∈ sx_gw := sx_wd 117 rfl rfl
theorem wd_118 : Cond.selects R_P y_P_inTheWayOf y_P_inTheWayOf ∈ sx_gw := sx_wd 118 rfl rfl
theorem wd_119 : Cond.code y_P_inTheWayOf b_P_inTheWayOf 2 (some .long) ∈ sx_gw := sx_wd 119 rfl rfl
theorem wd_120 : Cond.constantLong R_P (42 : Nat) (-1 : Int64) ∈ sx_gw := sx_wd 120 rfl rfl
theorem wd_121 : Cond.methodLink R_X (61 : Nat) y_S_taken ∈ sx_gw := sx_wd 121 rfl rfl
theorem wd_122 : Cond.instanceMethod y_S_taken ∈ sx_gw := sx_wd 122 rfl rfl
theorem wd_123 : Cond.selects R_S y_S_taken y_S_taken ∈ sx_gw := sx_wd 123 rfl rfl
theorem wd_124 : Cond.code y_S_taken b_S_taken 1 (some .long) ∈ sx_gw := sx_wd 124 rfl rfl
theorem wd_125 : Cond.methodLink R_X (65 : Nat) y_S_takeAway ∈ sx_gw := sx_wd 125 rfl rfl
theorem wd_126 : Cond.instanceMethod y_S_takeAway ∈ sx_gw := sx_wd 126 rfl rfl
theorem wd_127 : Cond.selects R_S y_S_takeAway y_S_takeAway ∈ sx_gw := sx_wd 127 rfl rfl
theorem wd_128 : Cond.code y_S_takeAway b_S_takeAway 2 none ∈ sx_gw := sx_wd 128 rfl rfl
theorem wd_129 : Cond.methodLinkNest R_S (30 : Nat) y_X_only "SandboxTree" ∈ sx_nws := sx_wn 129 rfl rfl
theorem wd_130 : Cond.constantLong R_S (34 : Nat) (-1 : Int64) ∈ sx_gw := sx_wd 130 rfl rfl
theorem wd_131 : Cond.methodLink R_X (69 : Nat) y_S_putFile ∈ sx_gw := sx_wd 131 rfl rfl
theorem wd_132 : Cond.instanceMethod y_S_putFile ∈ sx_gw := sx_wd 132 rfl rfl
theorem wd_133 : Cond.selects R_S y_S_putFile y_S_putFile ∈ sx_gw := sx_wd 133 rfl rfl
theorem wd_134 : Cond.code y_S_putFile b_S_putFile 3 none ∈ sx_gw := sx_wd 134 rfl rfl
theorem wd_135 : Cond.methodLink R_S (22 : Nat) y_S_canHold ∈ sx_gw := sx_wd 135 rfl rfl
theorem wd_136 : Cond.static y_S_canHold ∈ sx_gw := sx_wd 136 rfl rfl
theorem wd_137 : Cond.code y_S_canHold b_S_canHold 1 (some .boolean) ∈ sx_gw := sx_wd 137 rfl rfl
theorem wd_138 : Cond.methodLink R_S (26 : Nat) y_S_takeAway ∈ sx_gw := sx_wd 138 rfl rfl
theorem wd_139 : Cond.methodLink R_L (31 : Nat) y_X_source ∈ sx_gw := sx_wd 139 rfl rfl
theorem wd_140 : Cond.instanceMethod y_X_source ∈ sx_gw := sx_wd 140 rfl rfl
theorem wd_141 : Cond.selects R_X y_X_source y_X_source ∈ sx_gw := sx_wd 141 rfl rfl
theorem wd_142 : Cond.code y_X_source b_X_source 2 (some .int) ∈ sx_gw := sx_wd 142 rfl rfl
theorem wd_143 : Cond.methodLink R_X (73 : Nat) y_S_leadsTo ∈ sx_gw := sx_wd 143 rfl rfl
theorem wd_144 : Cond.instanceMethod y_S_leadsTo ∈ sx_gw := sx_wd 144 rfl rfl
theorem wd_145 : Cond.selects R_S y_S_leadsTo y_S_leadsTo ∈ sx_gw := sx_wd 145 rfl rfl
theorem wd_146 : Cond.code y_S_leadsTo b_S_leadsTo 4 (some .int) ∈ sx_gw := sx_wd 146 rfl rfl
theorem wd_147 : Cond.methodLinkNest R_S (42 : Nat) y_X_holds "SandboxTree" ∈ sx_nws := sx_wn 147 rfl rfl
theorem wd_148 : Cond.methodLink R_L (36 : Nat) y_X_action ∈ sx_gw := sx_wd 148 rfl rfl
theorem wd_149 : Cond.instanceMethod y_X_action ∈ sx_gw := sx_wd 149 rfl rfl
theorem wd_150 : Cond.selects R_X y_X_action y_X_action ∈ sx_gw := sx_wd 150 rfl rfl
theorem wd_151 : Cond.code y_X_action b_X_action 2 (some .int) ∈ sx_gw := sx_wd 151 rfl rfl
theorem wd_152 : Cond.instantiable R_A (12 : Nat) ∈ sx_gw := sx_wd 152 rfl rfl
theorem wd_153 : Cond.methodLinkNest R_X (80 : Nat) y_A_init "SandboxTree" ∈ sx_nws := sx_wn 153 rfl rfl
theorem wd_154 : Cond.instanceMethod y_A_init ∈ sx_gw := sx_wd 154 rfl rfl
theorem wd_155 : Cond.code y_A_init b_A_init 1 none ∈ sx_gw := sx_wd 155 rfl rfl
theorem wd_156 : Cond.methodLink R_A (3 : Nat) objectInit ∈ sx_gw := sx_wd 156 rfl rfl
theorem wd_157 : Cond.classLink R_A (19 : Nat) R_S ∈ sx_gw := sx_wd 157 rfl rfl
theorem wd_158 : Cond.methodLinkNest R_A (21 : Nat) y_S_init "SandboxTree" ∈ sx_nws := sx_wn 158 rfl rfl
theorem wd_159 : Cond.fieldLink R_A (9 : Nat) "SandboxTree$Action" "declaredPaths" "[I" ∈ sx_gw := sx_wd 159 rfl rfl
theorem wd_160 : Cond.fieldLinkNest R_X (186 : Nat) "SandboxTree$Action" "declaredPaths" "[I" "SandboxTree" ∈ sx_nws := sx_wn 160 rfl rfl
theorem wd_161 : Cond.fieldLink R_A (15 : Nat) "SandboxTree$Action" "isOutput" "[Z" ∈ sx_gw := sx_wd 161 rfl rfl
theorem wd_162 : Cond.fieldLinkNest R_X (189 : Nat) "SandboxTree$Action" "isOutput" "[Z" "SandboxTree" ∈ sx_nws := sx_wn 162 rfl rfl
theorem wd_163 : Cond.fieldLink R_A (29 : Nat) "SandboxTree$Action" "declaredCount" "I" ∈ sx_gw := sx_wd 163 rfl rfl
theorem wd_164 : Cond.fieldLinkNest R_X (85 : Nat) "SandboxTree$Action" "declaredCount" "I" "SandboxTree" ∈ sx_nws := sx_wn 164 rfl rfl
theorem wd_165 : Cond.fieldLink R_A (22 : Nat) "SandboxTree$Action" "world" "LSandboxTree$Store;" ∈ sx_gw := sx_wd 165 rfl rfl
theorem wd_166 : Cond.fieldLinkNest R_X (110 : Nat) "SandboxTree$Action" "world" "LSandboxTree$Store;" "SandboxTree" ∈ sx_nws := sx_wn 166 rfl rfl
theorem wd_167 : Cond.fieldLink R_A (33 : Nat) "SandboxTree$Action" "worldThere" "Z" ∈ sx_gw := sx_wd 167 rfl rfl
theorem wd_168 : Cond.fieldLinkNest R_X (88 : Nat) "SandboxTree$Action" "worldThere" "Z" "SandboxTree" ∈ sx_nws := sx_wn 168 rfl rfl
theorem wd_169 : Cond.fieldLink R_A (37 : Nat) "SandboxTree$Action" "hadWorld" "Z" ∈ sx_gw := sx_wd 169 rfl rfl
theorem wd_170 : Cond.fieldLinkNest R_X (174 : Nat) "SandboxTree$Action" "hadWorld" "Z" "SandboxTree" ∈ sx_nws := sx_wn 170 rfl rfl
theorem wd_171 : Cond.fieldLink R_A (40 : Nat) "SandboxTree$Action" "broken" "Z" ∈ sx_gw := sx_wd 171 rfl rfl
theorem wd_172 : Cond.fieldLinkNest R_X (158 : Nat) "SandboxTree$Action" "broken" "Z" "SandboxTree" ∈ sx_nws := sx_wn 172 rfl rfl
theorem wd_173 : Cond.fieldLink R_A (43 : Nat) "SandboxTree$Action" "operations" "I" ∈ sx_gw := sx_wd 173 rfl rfl
theorem wd_174 : Cond.fieldLinkNest R_X (177 : Nat) "SandboxTree$Action" "operations" "I" "SandboxTree" ∈ sx_nws := sx_wn 174 rfl rfl
theorem wd_175 : Cond.fieldLink R_A (46 : Nat) "SandboxTree$Action" "refused" "I" ∈ sx_gw := sx_wd 175 rfl rfl
theorem wd_176 : Cond.fieldLinkNest R_X (180 : Nat) "SandboxTree$Action" "refused" "I" "SandboxTree" ∈ sx_nws := sx_wn 176 rfl rfl
theorem wd_177 : Cond.fieldLink R_A (26 : Nat) "SandboxTree$Action" "triedPaths" "[I" ∈ sx_gw := sx_wd 177 rfl rfl
theorem wd_178 : Cond.fieldLinkNest R_X (170 : Nat) "SandboxTree$Action" "triedPaths" "[I" "SandboxTree" ∈ sx_nws := sx_wn 178 rfl rfl
theorem wd_179 : Cond.fieldLink R_A (49 : Nat) "SandboxTree$Action" "triedCount" "I" ∈ sx_gw := sx_wd 179 rfl rfl
theorem wd_180 : Cond.fieldLinkNest R_X (167 : Nat) "SandboxTree$Action" "triedCount" "I" "SandboxTree" ∈ sx_nws := sx_wn 180 rfl rfl
theorem wd_181 : Cond.fieldLink R_A (52 : Nat) "SandboxTree$Action" "triedSet" "J" ∈ sx_gw := sx_wd 181 rfl rfl
theorem wd_182 : Cond.laysFinal "SandboxTree$Action" "SandboxTree$Action" "declaredPaths" "[I" ∈ sx_gw := sx_wd 182 rfl rfl
theorem wd_184 : Cond.laysFinal "SandboxTree$Action" "SandboxTree$Action" "isOutput" "[Z" ∈ sx_gw := sx_wd 184 rfl rfl
theorem wd_186 : Cond.lays "SandboxTree$Action" "SandboxTree$Action" "declaredCount" "I" ∈ sx_gw := sx_wd 186 rfl rfl
theorem wd_188 : Cond.laysFinal "SandboxTree$Action" "SandboxTree$Action" "world" "LSandboxTree$Store;" ∈ sx_gw := sx_wd 188 rfl rfl
theorem wd_190 : Cond.lays "SandboxTree$Action" "SandboxTree$Action" "worldThere" "Z" ∈ sx_gw := sx_wd 190 rfl rfl
theorem wd_192 : Cond.lays "SandboxTree$Action" "SandboxTree$Action" "hadWorld" "Z" ∈ sx_gw := sx_wd 192 rfl rfl
theorem wd_194 : Cond.lays "SandboxTree$Action" "SandboxTree$Action" "broken" "Z" ∈ sx_gw := sx_wd 194 rfl rfl
theorem wd_196 : Cond.lays "SandboxTree$Action" "SandboxTree$Action" "operations" "I" ∈ sx_gw := sx_wd 196 rfl rfl
theorem wd_198 : Cond.lays "SandboxTree$Action" "SandboxTree$Action" "refused" "I" ∈ sx_gw := sx_wd 198 rfl rfl
theorem wd_200 : Cond.laysFinal "SandboxTree$Action" "SandboxTree$Action" "triedPaths" "[I" ∈ sx_gw := sx_wd 200 rfl rfl
theorem wd_202 : Cond.lays "SandboxTree$Action" "SandboxTree$Action" "triedCount" "I" ∈ sx_gw := sx_wd 202 rfl rfl
theorem wd_204 : Cond.lays "SandboxTree$Action" "SandboxTree$Action" "triedSet" "J" ∈ sx_gw := sx_wd 204 rfl rfl
theorem wd_207 : Cond.arrayClass .boolean ∈ sx_gw := sx_wd 207 rfl rfl
theorem wd_208 : Cond.methodLink R_L (41 : Nat) y_X_declare ∈ sx_gw := sx_wd 208 rfl rfl
theorem wd_209 : Cond.instanceMethod y_X_declare ∈ sx_gw := sx_wd 209 rfl rfl
theorem wd_210 : Cond.selects R_X y_X_declare y_X_declare ∈ sx_gw := sx_wd 210 rfl rfl
theorem wd_211 : Cond.code y_X_declare b_X_declare 5 (some .int) ∈ sx_gw := sx_wd 211 rfl rfl
theorem wd_212 : Cond.methodLink R_X (81 : Nat) y_X_actionAt ∈ sx_gw := sx_wd 212 rfl rfl
theorem wd_214 : Cond.instanceMethod y_X_actionAt ∈ sx_gw := sx_wd 214 rfl rfl
theorem wd_215 : Cond.code y_X_actionAt b_X_actionAt 2 (some (.object "SandboxTree$Action")) ∈ sx_gw := sx_wd 215 rfl rfl
theorem wd_216 : Cond.methodLink R_X (92 : Nat) y_X_touchesDeclared ∈ sx_gw := sx_wd 216 rfl rfl
theorem wd_218 : Cond.instanceMethod y_X_touchesDeclared ∈ sx_gw := sx_wd 218 rfl rfl
theorem wd_219 : Cond.code y_X_touchesDeclared b_X_touchesDeclared 6 (some .boolean) ∈ sx_gw := sx_wd 219 rfl rfl
theorem wd_220 : Cond.methodLink R_X (147 : Nat) y_X_holds ∈ sx_gw := sx_wd 220 rfl rfl
theorem wd_221 : Cond.methodLink R_X (96 : Nat) y_A_addDeclared ∈ sx_gw := sx_wd 221 rfl rfl
theorem wd_222 : Cond.instanceMethod y_A_addDeclared ∈ sx_gw := sx_wd 222 rfl rfl
theorem wd_223 : Cond.selects R_A y_A_addDeclared y_A_addDeclared ∈ sx_gw := sx_wd 223 rfl rfl
theorem wd_224 : Cond.code y_A_addDeclared b_A_addDeclared 3 none ∈ sx_gw := sx_wd 224 rfl rfl
theorem wd_225 : Cond.methodLink R_L (46 : Nat) y_X_strict ∈ sx_gw := sx_wd 225 rfl rfl
theorem wd_226 : Cond.instanceMethod y_X_strict ∈ sx_gw := sx_wd 226 rfl rfl
theorem wd_227 : Cond.selects R_X y_X_strict y_X_strict ∈ sx_gw := sx_wd 227 rfl rfl
theorem wd_228 : Cond.code y_X_strict b_X_strict 2 none ∈ sx_gw := sx_wd 228 rfl rfl
theorem wd_229 : Cond.methodLink R_L (51 : Nat) y_X_begin ∈ sx_gw := sx_wd 229 rfl rfl
theorem wd_230 : Cond.instanceMethod y_X_begin ∈ sx_gw := sx_wd 230 rfl rfl
theorem wd_231 : Cond.selects R_X y_X_begin y_X_begin ∈ sx_gw := sx_wd 231 rfl rfl
theorem wd_232 : Cond.code y_X_begin b_X_begin 3 (some .int) ∈ sx_gw := sx_wd 232 rfl rfl
theorem wd_233 : Cond.methodLink R_X (103 : Nat) y_X_lacksInput ∈ sx_gw := sx_wd 233 rfl rfl
theorem wd_235 : Cond.instanceMethod y_X_lacksInput ∈ sx_gw := sx_wd 235 rfl rfl
theorem wd_236 : Cond.code y_X_lacksInput b_X_lacksInput 5 (some .boolean) ∈ sx_gw := sx_wd 236 rfl rfl
theorem wd_237 : Cond.methodLink R_X (193 : Nat) y_P_under ∈ sx_gw := sx_wd 237 rfl rfl
theorem wd_238 : Cond.instanceMethod y_P_under ∈ sx_gw := sx_wd 238 rfl rfl
theorem wd_239 : Cond.selects R_P y_P_under y_P_under ∈ sx_gw := sx_wd 239 rfl rfl
theorem wd_240 : Cond.code y_P_under b_P_under 2 (some .long) ∈ sx_gw := sx_wd 240 rfl rfl
theorem wd_241 : Cond.methodLink R_X (107 : Nat) y_A_startWorld ∈ sx_gw := sx_wd 241 rfl rfl
theorem wd_242 : Cond.instanceMethod y_A_startWorld ∈ sx_gw := sx_wd 242 rfl rfl
theorem wd_243 : Cond.selects R_A y_A_startWorld y_A_startWorld ∈ sx_gw := sx_wd 243 rfl rfl
theorem wd_244 : Cond.code y_A_startWorld b_A_startWorld 1 none ∈ sx_gw := sx_wd 244 rfl rfl
theorem wd_245 : Cond.methodLink R_X (113 : Nat) y_X_underDeclared ∈ sx_gw := sx_wd 245 rfl rfl
theorem wd_247 : Cond.instanceMethod y_X_underDeclared ∈ sx_gw := sx_wd 247 rfl rfl
theorem wd_248 : Cond.code y_X_underDeclared b_X_underDeclared 6 (some .long) ∈ sx_gw := sx_wd 248 rfl rfl
theorem wd_249 : Cond.methodLink R_X (117 : Nat) y_S_copyFiles ∈ sx_gw := sx_wd 249 rfl rfl
theorem wd_250 : Cond.instanceMethod y_S_copyFiles ∈ sx_gw := sx_wd 250 rfl rfl
theorem wd_251 : Cond.selects R_S y_S_copyFiles y_S_copyFiles ∈ sx_gw := sx_wd 251 rfl rfl
theorem wd_252 : Cond.code y_S_copyFiles b_S_copyFiles 4 none ∈ sx_gw := sx_wd 252 rfl rfl
theorem wd_253 : Cond.methodLink R_S (36 : Nat) arraycopyName ∈ sx_gw := sx_wd 253 rfl rfl
theorem wd_254 : Cond.static arraycopyName ∈ sx_gw := sx_wd 254 rfl rfl
theorem wd_255 : Cond.native arraycopyName ∈ sx_gw := sx_wd 255 rfl rfl
theorem wd_256 : Cond.methodLink R_X (121 : Nat) y_J_bitCount ∈ sx_gw := sx_wd 256 rfl rfl
theorem wd_257 : Cond.static y_J_bitCount ∈ sx_gw := sx_wd 257 rfl rfl
theorem wd_258 : Cond.code y_J_bitCount b_J_bitCount 2 (some .int) ∈ sx_gw := sx_wd 258 rfl rfl
theorem wd_259 : Cond.constantLong R_J (314 : Nat) (6148914691236517205 : Int64) ∈ sx_gw := sx_wd 259 rfl rfl
theorem wd_260 : Cond.constantLong R_J (316 : Nat) (3689348814741910323 : Int64) ∈ sx_gw := sx_wd 260 rfl rfl
theorem wd_261 : Cond.constantLong R_J (318 : Nat) (1085102592571150095 : Int64) ∈ sx_gw := sx_wd 261 rfl rfl
theorem wd_262 : Cond.methodLink R_L (55 : Nat) y_X_open ∈ sx_gw := sx_wd 262 rfl rfl
theorem wd_263 : Cond.instanceMethod y_X_open ∈ sx_gw := sx_wd 263 rfl rfl
theorem wd_264 : Cond.selects R_X y_X_open y_X_open ∈ sx_gw := sx_wd 264 rfl rfl
theorem wd_265 : Cond.code y_X_open b_X_open 5 (some .int) ∈ sx_gw := sx_wd 265 rfl rfl
theorem wd_266 : Cond.methodLink R_X (127 : Nat) y_X_runningAt ∈ sx_gw := sx_wd 266 rfl rfl
theorem wd_268 : Cond.instanceMethod y_X_runningAt ∈ sx_gw := sx_wd 268 rfl rfl
theorem wd_269 : Cond.code y_X_runningAt b_X_runningAt 3 (some (.object "SandboxTree$Action")) ∈ sx_gw := sx_wd 269 rfl rfl
theorem wd_270 : Cond.methodLink R_X (130 : Nat) y_A_startOperation ∈ sx_gw := sx_wd 270 rfl rfl
theorem wd_271 : Cond.instanceMethod y_A_startOperation ∈ sx_gw := sx_wd 271 rfl rfl
theorem wd_272 : Cond.selects R_A y_A_startOperation y_A_startOperation ∈ sx_gw := sx_wd 272 rfl rfl
theorem wd_273 : Cond.code y_A_startOperation b_A_startOperation 2 (some .boolean) ∈ sx_gw := sx_wd 273 rfl rfl
theorem wd_274 : Cond.methodLink R_X (133 : Nat) y_A_noteTried ∈ sx_gw := sx_wd 274 rfl rfl
theorem wd_275 : Cond.instanceMethod y_A_noteTried ∈ sx_gw := sx_wd 275 rfl rfl
theorem wd_276 : Cond.selects R_A y_A_noteTried y_A_noteTried ∈ sx_gw := sx_wd 276 rfl rfl
theorem wd_277 : Cond.code y_A_noteTried b_A_noteTried 2 none ∈ sx_gw := sx_wd 277 rfl rfl
theorem wd_278 : Cond.methodLinkNest R_A (56 : Nat) y_X_holds "SandboxTree" ∈ sx_nws := sx_wn 278 rfl rfl
theorem wd_279 : Cond.methodLinkNest R_A (60 : Nat) y_X_only "SandboxTree" ∈ sx_nws := sx_wn 279 rfl rfl
theorem wd_280 : Cond.methodLink R_L (60 : Nat) y_X_write ∈ sx_gw := sx_wd 280 rfl rfl
theorem wd_281 : Cond.instanceMethod y_X_write ∈ sx_gw := sx_wd 281 rfl rfl
theorem wd_282 : Cond.selects R_X y_X_write y_X_write ∈ sx_gw := sx_wd 282 rfl rfl
theorem wd_283 : Cond.code y_X_write b_X_write 5 (some .int) ∈ sx_gw := sx_wd 283 rfl rfl
theorem wd_284 : Cond.methodLink R_X (136 : Nat) y_X_canPut ∈ sx_gw := sx_wd 284 rfl rfl
theorem wd_286 : Cond.instanceMethod y_X_canPut ∈ sx_gw := sx_wd 286 rfl rfl
theorem wd_287 : Cond.code y_X_canPut b_X_canPut 3 (some .boolean) ∈ sx_gw := sx_wd 287 rfl rfl
theorem wd_288 : Cond.methodLink R_X (143 : Nat) y_X_writable ∈ sx_gw := sx_wd 288 rfl rfl
theorem wd_290 : Cond.instanceMethod y_X_writable ∈ sx_gw := sx_wd 290 rfl rfl
theorem wd_291 : Cond.code y_X_writable b_X_writable 2 (some .long) ∈ sx_gw := sx_wd 291 rfl rfl
theorem wd_292 : Cond.methodLink R_X (196 : Nat) y_X_scratch ∈ sx_gw := sx_wd 292 rfl rfl
theorem wd_294 : Cond.instanceMethod y_X_scratch ∈ sx_gw := sx_wd 294 rfl rfl
theorem wd_295 : Cond.code y_X_scratch b_X_scratch 3 (some .long) ∈ sx_gw := sx_wd 295 rfl rfl
theorem wd_296 : Cond.constantLong R_X (199 : Nat) (-1 : Int64) ∈ sx_gw := sx_wd 296 rfl rfl
theorem wd_297 : Cond.methodLink R_X (139 : Nat) y_X_refuse ∈ sx_gw := sx_wd 297 rfl rfl
theorem wd_299 : Cond.instanceMethod y_X_refuse ∈ sx_gw := sx_wd 299 rfl rfl
theorem wd_300 : Cond.code y_X_refuse b_X_refuse 2 (some .int) ∈ sx_gw := sx_wd 300 rfl rfl
theorem wd_301 : Cond.methodLink R_L (65 : Nat) y_X_link ∈ sx_gw := sx_wd 301 rfl rfl
theorem wd_302 : Cond.instanceMethod y_X_link ∈ sx_gw := sx_wd 302 rfl rfl
theorem wd_303 : Cond.selects R_X y_X_link y_X_link ∈ sx_gw := sx_wd 303 rfl rfl
theorem wd_304 : Cond.code y_X_link b_X_link 7 (some .int) ∈ sx_gw := sx_wd 304 rfl rfl
theorem wd_305 : Cond.methodLink R_X (151 : Nat) y_S_putLink ∈ sx_gw := sx_wd 305 rfl rfl
theorem wd_306 : Cond.instanceMethod y_S_putLink ∈ sx_gw := sx_wd 306 rfl rfl
theorem wd_307 : Cond.selects R_S y_S_putLink y_S_putLink ∈ sx_gw := sx_wd 307 rfl rfl
theorem wd_308 : Cond.code y_S_putLink b_S_putLink 3 none ∈ sx_gw := sx_wd 308 rfl rfl
theorem wd_309 : Cond.methodLink R_L (69 : Nat) y_X_remove ∈ sx_gw := sx_wd 309 rfl rfl
theorem wd_310 : Cond.instanceMethod y_X_remove ∈ sx_gw := sx_wd 310 rfl rfl
theorem wd_311 : Cond.selects R_X y_X_remove y_X_remove ∈ sx_gw := sx_wd 311 rfl rfl
theorem wd_312 : Cond.code y_X_remove b_X_remove 4 (some .int) ∈ sx_gw := sx_wd 312 rfl rfl
theorem wd_313 : Cond.methodLink R_L (73 : Nat) y_X_list ∈ sx_gw := sx_wd 313 rfl rfl
theorem wd_314 : Cond.instanceMethod y_X_list ∈ sx_gw := sx_wd 314 rfl rfl
theorem wd_315 : Cond.selects R_X y_X_list y_X_list ∈ sx_gw := sx_wd 315 rfl rfl
theorem wd_316 : Cond.code y_X_list b_X_list 5 (some .int) ∈ sx_gw := sx_wd 316 rfl rfl
theorem wd_317 : Cond.methodLink R_X (154 : Nat) y_P_letterInFolder ∈ sx_gw := sx_wd 317 rfl rfl
theorem wd_318 : Cond.instanceMethod y_P_letterInFolder ∈ sx_gw := sx_wd 318 rfl rfl
theorem wd_319 : Cond.selects R_P y_P_letterInFolder y_P_letterInFolder ∈ sx_gw := sx_wd 319 rfl rfl
theorem wd_320 : Cond.code y_P_letterInFolder b_P_letterInFolder 9 (some .int) ∈ sx_gw := sx_wd 320 rfl rfl
theorem wd_321 : Cond.methodLink R_L (77 : Nat) y_X_finish ∈ sx_gw := sx_wd 321 rfl rfl
theorem wd_322 : Cond.instanceMethod y_X_finish ∈ sx_gw := sx_wd 322 rfl rfl
theorem wd_323 : Cond.selects R_X y_X_finish y_X_finish ∈ sx_gw := sx_wd 323 rfl rfl
theorem wd_324 : Cond.code y_X_finish b_X_finish 5 (some .int) ∈ sx_gw := sx_wd 324 rfl rfl
theorem wd_325 : Cond.methodLink R_X (161 : Nat) y_X_firstOutputFault ∈ sx_gw := sx_wd 325 rfl rfl
theorem wd_327 : Cond.instanceMethod y_X_firstOutputFault ∈ sx_gw := sx_wd 327 rfl rfl
theorem wd_328 : Cond.code y_X_firstOutputFault b_X_firstOutputFault 6 (some .int) ∈ sx_gw := sx_wd 328 rfl rfl
theorem wd_329 : Cond.methodLink R_X (201 : Nat) y_S_hasLooseLink ∈ sx_gw := sx_wd 329 rfl rfl
theorem wd_330 : Cond.instanceMethod y_S_hasLooseLink ∈ sx_gw := sx_wd 330 rfl rfl
theorem wd_331 : Cond.selects R_S y_S_hasLooseLink y_S_hasLooseLink ∈ sx_gw := sx_wd 331 rfl rfl
theorem wd_332 : Cond.code y_S_hasLooseLink b_S_hasLooseLink 4 (some .boolean) ∈ sx_gw := sx_wd 332 rfl rfl
theorem wd_333 : Cond.methodLink R_S (46 : Nat) y_S_leadsTo ∈ sx_gw := sx_wd 333 rfl rfl
theorem wd_334 : Cond.methodLink R_X (164 : Nat) y_X_gather ∈ sx_gw := sx_wd 334 rfl rfl
theorem wd_336 : Cond.instanceMethod y_X_gather ∈ sx_gw := sx_wd 336 rfl rfl
theorem wd_337 : Cond.code y_X_gather b_X_gather 11 (some .int) ∈ sx_gw := sx_wd 337 rfl rfl
theorem wd_338 : Cond.methodLink R_X (205 : Nat) y_P_withAbove ∈ sx_gw := sx_wd 338 rfl rfl
theorem wd_339 : Cond.instanceMethod y_P_withAbove ∈ sx_gw := sx_wd 339 rfl rfl
theorem wd_340 : Cond.selects R_P y_P_withAbove y_P_withAbove ∈ sx_gw := sx_wd 340 rfl rfl
theorem wd_341 : Cond.code y_P_withAbove b_P_withAbove 6 (some .long) ∈ sx_gw := sx_wd 341 rfl rfl
theorem wd_342 : Cond.methodLink R_X (209 : Nat) y_P_hasClash ∈ sx_gw := sx_wd 342 rfl rfl
theorem wd_343 : Cond.instanceMethod y_P_hasClash ∈ sx_gw := sx_wd 343 rfl rfl
theorem wd_344 : Cond.selects R_P y_P_hasClash y_P_hasClash ∈ sx_gw := sx_wd 344 rfl rfl
theorem wd_345 : Cond.code y_P_hasClash b_P_hasClash 5 (some .boolean) ∈ sx_gw := sx_wd 345 rfl rfl
theorem wd_346 : Cond.methodLink R_P (44 : Nat) y_P_find ∈ sx_gw := sx_wd 346 rfl rfl
theorem wd_347 : Cond.methodLink R_L (82 : Nat) y_X_tried ∈ sx_gw := sx_wd 347 rfl rfl
theorem wd_348 : Cond.instanceMethod y_X_tried ∈ sx_gw := sx_wd 348 rfl rfl
theorem wd_349 : Cond.selects R_X y_X_tried y_X_tried ∈ sx_gw := sx_wd 349 rfl rfl
theorem wd_350 : Cond.code y_X_tried b_X_tried 4 (some .int) ∈ sx_gw := sx_wd 350 rfl rfl
set_option maxRecDepth 20000 in
theorem wd_351 : Cond.methodLink R_L (86 : Nat) y_X_about ∈ sx_gw := sx_wd 351 rfl rfl
set_option maxRecDepth 20000 in
theorem wd_352 : Cond.instanceMethod y_X_about ∈ sx_gw := sx_wd 352 rfl rfl
set_option maxRecDepth 20000 in
theorem wd_353 : Cond.selects R_X y_X_about y_X_about ∈ sx_gw := sx_wd 353 rfl rfl
set_option maxRecDepth 20000 in
theorem wd_354 : Cond.code y_X_about b_X_about 4 (some .int) ∈ sx_gw := sx_wd 354 rfl rfl
set_option maxRecDepth 20000 in
theorem wd_355 : Cond.methodLink R_L (9 : Nat) y_L_cell ∈ sx_gw := sx_wd 355 rfl rfl
set_option maxRecDepth 20000 in
theorem wd_356 : Cond.static y_L_cell ∈ sx_gw := sx_wd 356 rfl rfl
set_option maxRecDepth 20000 in
theorem wd_357 : Cond.code y_L_cell b_L_cell 2 (some .int) ∈ sx_gw := sx_wd 357 rfl rfl
set_option maxRecDepth 20000 in
theorem wd_358 : Cond.classLink R_L (18 : Nat) R_M ∈ sx_gw := sx_wd 358 rfl rfl
set_option maxRecDepth 20000 in
theorem wd_359 : Cond.instantiable R_M (21 : Nat) ∈ sx_gw := sx_wd 359 rfl rfl
set_option maxRecDepth 20000 in
theorem wd_360 : Cond.methodLink R_L (20 : Nat) y_M_init ∈ sx_gw := sx_wd 360 rfl rfl
set_option maxRecDepth 20000 in
theorem wd_361 : Cond.instanceMethod y_M_init ∈ sx_gw := sx_wd 361 rfl rfl
set_option maxRecDepth 20000 in
theorem wd_362 : Cond.code y_M_init b_M_init 2 none ∈ sx_gw := sx_wd 362 rfl rfl
set_option maxRecDepth 20000 in
theorem wd_363 : Cond.methodLink R_M (1 : Nat) objectInit ∈ sx_gw := sx_wd 363 rfl rfl
set_option maxRecDepth 20000 in
theorem wd_364 : Cond.fieldLink R_M (63 : Nat) "SandboxTreeModel" "most" "I" ∈ sx_gw := sx_wd 364 rfl rfl
set_option maxRecDepth 20000 in
theorem wd_365 : Cond.fieldLink R_M (66 : Nat) "SandboxTreeModel" "code" "I" ∈ sx_gw := sx_wd 365 rfl rfl
set_option maxRecDepth 20000 in
theorem wd_366 : Cond.fieldLink R_M (7 : Nat) "SandboxTreeModel" "paths" "I" ∈ sx_gw := sx_wd 366 rfl rfl
set_option maxRecDepth 20000 in
theorem wd_367 : Cond.fieldLink R_M (69 : Nat) "SandboxTreeModel" "actions" "I" ∈ sx_gw := sx_wd 367 rfl rfl
set_option maxRecDepth 20000 in
theorem wd_368 : Cond.fieldLink R_M (91 : Nat) "SandboxTreeModel" "isStrict" "Z" ∈ sx_gw := sx_wd 368 rfl rfl
set_option maxRecDepth 20000 in
theorem wd_369 : Cond.fieldLink R_M (13 : Nat) "SandboxTreeModel" "parent" "[I" ∈ sx_gw := sx_wd 369 rfl rfl
set_option maxRecDepth 20000 in
theorem wd_370 : Cond.fieldLink R_M (17 : Nat) "SandboxTreeModel" "letter" "[I" ∈ sx_gw := sx_wd 370 rfl rfl
set_option maxRecDepth 20000 in
theorem wd_371 : Cond.fieldLink R_M (20 : Nat) "SandboxTreeModel" "source" "[I" ∈ sx_gw := sx_wd 371 rfl rfl
set_option maxRecDepth 20000 in
theorem wd_372 : Cond.fieldLink R_M (23 : Nat) "SandboxTreeModel" "come" "[I" ∈ sx_gw := sx_wd 372 rfl rfl
set_option maxRecDepth 20000 in
theorem wd_373 : Cond.fieldLink R_M (26 : Nat) "SandboxTreeModel" "declared" "[I" ∈ sx_gw := sx_wd 373 rfl rfl
set_option maxRecDepth 20000 in
theorem wd_374 : Cond.fieldLink R_M (29 : Nat) "SandboxTreeModel" "declaredPath" "[I" ∈ sx_gw := sx_wd 374 rfl rfl
set_option maxRecDepth 20000 in
theorem wd_375 : Cond.fieldLink R_M (32 : Nat) "SandboxTreeModel" "operations" "[I" ∈ sx_gw := sx_wd 375 rfl rfl
set_option maxRecDepth 20000 in
theorem wd_376 : Cond.fieldLink R_M (35 : Nat) "SandboxTreeModel" "refusals" "[I" ∈ sx_gw := sx_wd 376 rfl rfl
set_option maxRecDepth 20000 in
theorem wd_377 : Cond.fieldLink R_M (38 : Nat) "SandboxTreeModel" "triedMany" "[I" ∈ sx_gw := sx_wd 377 rfl rfl
set_option maxRecDepth 20000 in
theorem wd_378 : Cond.fieldLink R_M (41 : Nat) "SandboxTreeModel" "tried" "[I" ∈ sx_gw := sx_wd 378 rfl rfl
set_option maxRecDepth 20000 in
theorem wd_379 : Cond.fieldLink R_M (44 : Nat) "SandboxTreeModel" "world" "[I" ∈ sx_gw := sx_wd 379 rfl rfl
set_option maxRecDepth 20000 in
theorem wd_380 : Cond.fieldLink R_M (47 : Nat) "SandboxTreeModel" "isOutput" "[Z" ∈ sx_gw := sx_wd 380 rfl rfl
set_option maxRecDepth 20000 in
theorem wd_381 : Cond.fieldLink R_M (51 : Nat) "SandboxTreeModel" "isThere" "[Z" ∈ sx_gw := sx_wd 381 rfl rfl
set_option maxRecDepth 20000 in
theorem wd_382 : Cond.fieldLink R_M (54 : Nat) "SandboxTreeModel" "isBroken" "[Z" ∈ sx_gw := sx_wd 382 rfl rfl
set_option maxRecDepth 20000 in
theorem wd_383 : Cond.fieldLink R_M (57 : Nat) "SandboxTreeModel" "wasThere" "[Z" ∈ sx_gw := sx_wd 383 rfl rfl
set_option maxRecDepth 20000 in
theorem wd_384 : Cond.fieldLink R_M (60 : Nat) "SandboxTreeModel" "marked" "[Z" ∈ sx_gw := sx_wd 384 rfl rfl
set_option maxRecDepth 20000 in
theorem wd_385 : Cond.laysFinal "SandboxTreeModel" "SandboxTreeModel" "most" "I" ∈ sx_gw := sx_wd 385 rfl rfl
set_option maxRecDepth 20000 in
theorem wd_387 : Cond.lays "SandboxTreeModel" "SandboxTreeModel" "code" "I" ∈ sx_gw := sx_wd 387 rfl rfl
set_option maxRecDepth 20000 in
theorem wd_389 : Cond.lays "SandboxTreeModel" "SandboxTreeModel" "paths" "I" ∈ sx_gw := sx_wd 389 rfl rfl
set_option maxRecDepth 20000 in
theorem wd_391 : Cond.lays "SandboxTreeModel" "SandboxTreeModel" "actions" "I" ∈ sx_gw := sx_wd 391 rfl rfl
set_option maxRecDepth 20000 in
theorem wd_393 : Cond.lays "SandboxTreeModel" "SandboxTreeModel" "isStrict" "Z" ∈ sx_gw := sx_wd 393 rfl rfl
set_option maxRecDepth 20000 in
theorem wd_395 : Cond.laysFinal "SandboxTreeModel" "SandboxTreeModel" "parent" "[I" ∈ sx_gw := sx_wd 395 rfl rfl
set_option maxRecDepth 20000 in
theorem wd_397 : Cond.laysFinal "SandboxTreeModel" "SandboxTreeModel" "letter" "[I" ∈ sx_gw := sx_wd 397 rfl rfl
set_option maxRecDepth 20000 in
theorem wd_399 : Cond.laysFinal "SandboxTreeModel" "SandboxTreeModel" "source" "[I" ∈ sx_gw := sx_wd 399 rfl rfl
set_option maxRecDepth 20000 in
theorem wd_401 : Cond.laysFinal "SandboxTreeModel" "SandboxTreeModel" "come" "[I" ∈ sx_gw := sx_wd 401 rfl rfl
set_option maxRecDepth 20000 in
theorem wd_403 : Cond.laysFinal "SandboxTreeModel" "SandboxTreeModel" "declared" "[I" ∈ sx_gw := sx_wd 403 rfl rfl
set_option maxRecDepth 20000 in
theorem wd_405 : Cond.laysFinal "SandboxTreeModel" "SandboxTreeModel" "declaredPath" "[I" ∈ sx_gw := sx_wd 405 rfl rfl
set_option maxRecDepth 20000 in
theorem wd_407 : Cond.laysFinal "SandboxTreeModel" "SandboxTreeModel" "operations" "[I" ∈ sx_gw := sx_wd 407 rfl rfl
set_option maxRecDepth 20000 in
theorem wd_409 : Cond.laysFinal "SandboxTreeModel" "SandboxTreeModel" "refusals" "[I" ∈ sx_gw := sx_wd 409 rfl rfl
set_option maxRecDepth 20000 in
theorem wd_411 : Cond.laysFinal "SandboxTreeModel" "SandboxTreeModel" "triedMany" "[I" ∈ sx_gw := sx_wd 411 rfl rfl
set_option maxRecDepth 20000 in
theorem wd_413 : Cond.laysFinal "SandboxTreeModel" "SandboxTreeModel" "tried" "[I" ∈ sx_gw := sx_wd 413 rfl rfl
set_option maxRecDepth 20000 in
theorem wd_415 : Cond.laysFinal "SandboxTreeModel" "SandboxTreeModel" "world" "[I" ∈ sx_gw := sx_wd 415 rfl rfl
set_option maxRecDepth 20000 in
theorem wd_417 : Cond.laysFinal "SandboxTreeModel" "SandboxTreeModel" "isOutput" "[Z" ∈ sx_gw := sx_wd 417 rfl rfl
set_option maxRecDepth 20000 in
theorem wd_419 : Cond.laysFinal "SandboxTreeModel" "SandboxTreeModel" "isThere" "[Z" ∈ sx_gw := sx_wd 419 rfl rfl
set_option maxRecDepth 20000 in
theorem wd_421 : Cond.laysFinal "SandboxTreeModel" "SandboxTreeModel" "isBroken" "[Z" ∈ sx_gw := sx_wd 421 rfl rfl
set_option maxRecDepth 20000 in
theorem wd_423 : Cond.laysFinal "SandboxTreeModel" "SandboxTreeModel" "wasThere" "[Z" ∈ sx_gw := sx_wd 423 rfl rfl
set_option maxRecDepth 20000 in
theorem wd_425 : Cond.laysFinal "SandboxTreeModel" "SandboxTreeModel" "marked" "[Z" ∈ sx_gw := sx_wd 425 rfl rfl
set_option maxRecDepth 20000 in
theorem wd_428 : Cond.methodLink R_L (25 : Nat) y_M_path ∈ sx_gw := sx_wd 428 rfl rfl
set_option maxRecDepth 20000 in
theorem wd_429 : Cond.instanceMethod y_M_path ∈ sx_gw := sx_wd 429 rfl rfl
set_option maxRecDepth 20000 in
theorem wd_430 : Cond.selects R_M y_M_path y_M_path ∈ sx_gw := sx_wd 430 rfl rfl
set_option maxRecDepth 20000 in
theorem wd_431 : Cond.code y_M_path b_M_path 4 (some .int) ∈ sx_gw := sx_wd 431 rfl rfl
set_option maxRecDepth 20000 in
theorem wd_432 : Cond.methodLink R_M (72 : Nat) y_M_isPath ∈ sx_gw := sx_wd 432 rfl rfl
set_option maxRecDepth 20000 in
theorem wd_434 : Cond.instanceMethod y_M_isPath ∈ sx_gw := sx_wd 434 rfl rfl
set_option maxRecDepth 20000 in
theorem wd_435 : Cond.code y_M_isPath b_M_isPath 2 (some .boolean) ∈ sx_gw := sx_wd 435 rfl rfl
set_option maxRecDepth 20000 in
theorem wd_436 : Cond.methodLink R_M (76 : Nat) y_M_lower ∈ sx_gw := sx_wd 436 rfl rfl
set_option maxRecDepth 20000 in
theorem wd_437 : Cond.static y_M_lower ∈ sx_gw := sx_wd 437 rfl rfl
set_option maxRecDepth 20000 in
theorem wd_438 : Cond.code y_M_lower b_M_lower 1 (some .int) ∈ sx_gw := sx_wd 438 rfl rfl
set_option maxRecDepth 20000 in
theorem wd_439 : Cond.methodLink R_M (80 : Nat) y_M_child ∈ sx_gw := sx_wd 439 rfl rfl
set_option maxRecDepth 20000 in
theorem wd_441 : Cond.instanceMethod y_M_child ∈ sx_gw := sx_wd 441 rfl rfl
set_option maxRecDepth 20000 in
theorem wd_442 : Cond.code y_M_child b_M_child 5 (some .int) ∈ sx_gw := sx_wd 442 rfl rfl
set_option maxRecDepth 20000 in
theorem wd_443 : Cond.methodLink R_L (30 : Nat) y_M_file ∈ sx_gw := sx_wd 443 rfl rfl
set_option maxRecDepth 20000 in
theorem wd_444 : Cond.instanceMethod y_M_file ∈ sx_gw := sx_wd 444 rfl rfl
set_option maxRecDepth 20000 in
theorem wd_445 : Cond.selects R_M y_M_file y_M_file ∈ sx_gw := sx_wd 445 rfl rfl
set_option maxRecDepth 20000 in
theorem wd_446 : Cond.code y_M_file b_M_file 4 (some .boolean) ∈ sx_gw := sx_wd 446 rfl rfl
set_option maxRecDepth 20000 in
theorem wd_447 : Cond.methodLink R_M (84 : Nat) y_M_isUnder ∈ sx_gw := sx_wd 447 rfl rfl
set_option maxRecDepth 20000 in
theorem wd_449 : Cond.instanceMethod y_M_isUnder ∈ sx_gw := sx_wd 449 rfl rfl
set_option maxRecDepth 20000 in
theorem wd_450 : Cond.code y_M_isUnder b_M_isUnder 4 (some .boolean) ∈ sx_gw := sx_wd 450 rfl rfl
set_option maxRecDepth 20000 in
theorem wd_451 : Cond.methodLink R_L (35 : Nat) y_M_source ∈ sx_gw := sx_wd 451 rfl rfl
set_option maxRecDepth 20000 in
theorem wd_452 : Cond.instanceMethod y_M_source ∈ sx_gw := sx_wd 452 rfl rfl
set_option maxRecDepth 20000 in
theorem wd_453 : Cond.selects R_M y_M_source y_M_source ∈ sx_gw := sx_wd 453 rfl rfl
set_option maxRecDepth 20000 in
theorem wd_454 : Cond.code y_M_source b_M_source 2 (some .int) ∈ sx_gw := sx_wd 454 rfl rfl
set_option maxRecDepth 20000 in
theorem wd_455 : Cond.methodLink R_L (40 : Nat) y_M_action ∈ sx_gw := sx_wd 455 rfl rfl
set_option maxRecDepth 20000 in
theorem wd_456 : Cond.instanceMethod y_M_action ∈ sx_gw := sx_wd 456 rfl rfl
set_option maxRecDepth 20000 in
theorem wd_457 : Cond.selects R_M y_M_action y_M_action ∈ sx_gw := sx_wd 457 rfl rfl
set_option maxRecDepth 20000 in
theorem wd_458 : Cond.code y_M_action b_M_action 1 (some .int) ∈ sx_gw := sx_wd 458 rfl rfl
set_option maxRecDepth 20000 in
theorem wd_459 : Cond.methodLink R_L (45 : Nat) y_M_declare ∈ sx_gw := sx_wd 459 rfl rfl
set_option maxRecDepth 20000 in
theorem wd_460 : Cond.instanceMethod y_M_declare ∈ sx_gw := sx_wd 460 rfl rfl
set_option maxRecDepth 20000 in
theorem wd_461 : Cond.selects R_M y_M_declare y_M_declare ∈ sx_gw := sx_wd 461 rfl rfl
set_option maxRecDepth 20000 in
theorem wd_462 : Cond.code y_M_declare b_M_declare 5 (some .int) ∈ sx_gw := sx_wd 462 rfl rfl
set_option maxRecDepth 20000 in
theorem wd_463 : Cond.methodLink R_M (88 : Nat) y_M_isAction ∈ sx_gw := sx_wd 463 rfl rfl
set_option maxRecDepth 20000 in
theorem wd_465 : Cond.instanceMethod y_M_isAction ∈ sx_gw := sx_wd 465 rfl rfl
set_option maxRecDepth 20000 in
theorem wd_466 : Cond.code y_M_isAction b_M_isAction 2 (some .boolean) ∈ sx_gw := sx_wd 466 rfl rfl
set_option maxRecDepth 20000 in
theorem wd_467 : Cond.methodLink R_L (50 : Nat) y_M_strict ∈ sx_gw := sx_wd 467 rfl rfl
set_option maxRecDepth 20000 in
theorem wd_468 : Cond.instanceMethod y_M_strict ∈ sx_gw := sx_wd 468 rfl rfl
set_option maxRecDepth 20000 in
theorem wd_469 : Cond.selects R_M y_M_strict y_M_strict ∈ sx_gw := sx_wd 469 rfl rfl
set_option maxRecDepth 20000 in
theorem wd_470 : Cond.code y_M_strict b_M_strict 2 none ∈ sx_gw := sx_wd 470 rfl rfl
set_option maxRecDepth 20000 in
theorem wd_471 : Cond.methodLink R_L (54 : Nat) y_M_begin ∈ sx_gw := sx_wd 471 rfl rfl
set_option maxRecDepth 20000 in
theorem wd_472 : Cond.instanceMethod y_M_begin ∈ sx_gw := sx_wd 472 rfl rfl
set_option maxRecDepth 20000 in
theorem wd_473 : Cond.selects R_M y_M_begin y_M_begin ∈ sx_gw := sx_wd 473 rfl rfl
set_option maxRecDepth 20000 in
theorem wd_474 : Cond.code y_M_begin b_M_begin 5 (some .int) ∈ sx_gw := sx_wd 474 rfl rfl
set_option maxRecDepth 20000 in
theorem wd_475 : Cond.methodLink R_M (95 : Nat) y_M_isDeclared ∈ sx_gw := sx_wd 475 rfl rfl
set_option maxRecDepth 20000 in
theorem wd_477 : Cond.instanceMethod y_M_isDeclared ∈ sx_gw := sx_wd 477 rfl rfl
set_option maxRecDepth 20000 in
theorem wd_478 : Cond.code y_M_isDeclared b_M_isDeclared 6 (some .boolean) ∈ sx_gw := sx_wd 478 rfl rfl
set_option maxRecDepth 20000 in
theorem wd_479 : Cond.methodLink R_L (59 : Nat) y_M_open ∈ sx_gw := sx_wd 479 rfl rfl
set_option maxRecDepth 20000 in
theorem wd_480 : Cond.instanceMethod y_M_open ∈ sx_gw := sx_wd 480 rfl rfl
set_option maxRecDepth 20000 in
theorem wd_481 : Cond.selects R_M y_M_open y_M_open ∈ sx_gw := sx_wd 481 rfl rfl
set_option maxRecDepth 20000 in
theorem wd_482 : Cond.code y_M_open b_M_open 7 (some .int) ∈ sx_gw := sx_wd 482 rfl rfl
set_option maxRecDepth 20000 in
theorem wd_483 : Cond.methodLink R_M (105 : Nat) y_M_may ∈ sx_gw := sx_wd 483 rfl rfl
set_option maxRecDepth 20000 in
theorem wd_485 : Cond.instanceMethod y_M_may ∈ sx_gw := sx_wd 485 rfl rfl
set_option maxRecDepth 20000 in
theorem wd_486 : Cond.code y_M_may b_M_may 4 (some .int) ∈ sx_gw := sx_wd 486 rfl rfl
set_option maxRecDepth 20000 in
theorem wd_487 : Cond.methodLink R_M (109 : Nat) y_M_leads ∈ sx_gw := sx_wd 487 rfl rfl
set_option maxRecDepth 20000 in
theorem wd_489 : Cond.instanceMethod y_M_leads ∈ sx_gw := sx_wd 489 rfl rfl
set_option maxRecDepth 20000 in
theorem wd_490 : Cond.code y_M_leads b_M_leads 5 (some .int) ∈ sx_gw := sx_wd 490 rfl rfl
set_option maxRecDepth 20000 in
theorem wd_491 : Cond.methodLink R_M (99 : Nat) y_M_at ∈ sx_gw := sx_wd 491 rfl rfl
set_option maxRecDepth 20000 in
theorem wd_493 : Cond.instanceMethod y_M_at ∈ sx_gw := sx_wd 493 rfl rfl
set_option maxRecDepth 20000 in
theorem wd_494 : Cond.code y_M_at b_M_at 3 (some .int) ∈ sx_gw := sx_wd 494 rfl rfl
set_option maxRecDepth 20000 in
theorem wd_495 : Cond.methodLink R_M (102 : Nat) y_M_goal ∈ sx_gw := sx_wd 495 rfl rfl
set_option maxRecDepth 20000 in
theorem wd_496 : Cond.static y_M_goal ∈ sx_gw := sx_wd 496 rfl rfl
set_option maxRecDepth 20000 in
theorem wd_497 : Cond.code y_M_goal b_M_goal 1 (some .int) ∈ sx_gw := sx_wd 497 rfl rfl
set_option maxRecDepth 20000 in
theorem wd_498 : Cond.methodLink R_L (64 : Nat) y_M_write ∈ sx_gw := sx_wd 498 rfl rfl
set_option maxRecDepth 20000 in
theorem wd_499 : Cond.instanceMethod y_M_write ∈ sx_gw := sx_wd 499 rfl rfl
set_option maxRecDepth 20000 in
theorem wd_500 : Cond.selects R_M y_M_write y_M_write ∈ sx_gw := sx_wd 500 rfl rfl
set_option maxRecDepth 20000 in
theorem wd_501 : Cond.code y_M_write b_M_write 5 (some .int) ∈ sx_gw := sx_wd 501 rfl rfl
set_option maxRecDepth 20000 in
theorem wd_502 : Cond.methodLink R_M (112 : Nat) y_M_isWritable ∈ sx_gw := sx_wd 502 rfl rfl
set_option maxRecDepth 20000 in
theorem wd_504 : Cond.instanceMethod y_M_isWritable ∈ sx_gw := sx_wd 504 rfl rfl
set_option maxRecDepth 20000 in
theorem wd_505 : Cond.code y_M_isWritable b_M_isWritable 4 (some .boolean) ∈ sx_gw := sx_wd 505 rfl rfl
set_option maxRecDepth 20000 in
theorem wd_506 : Cond.methodLink R_M (115 : Nat) y_M_isInWay ∈ sx_gw := sx_wd 506 rfl rfl
set_option maxRecDepth 20000 in
theorem wd_508 : Cond.instanceMethod y_M_isInWay ∈ sx_gw := sx_wd 508 rfl rfl
set_option maxRecDepth 20000 in
theorem wd_509 : Cond.code y_M_isInWay b_M_isInWay 5 (some .boolean) ∈ sx_gw := sx_wd 509 rfl rfl
set_option maxRecDepth 20000 in
theorem wd_510 : Cond.methodLink R_M (118 : Nat) y_M_refuse ∈ sx_gw := sx_wd 510 rfl rfl
set_option maxRecDepth 20000 in
theorem wd_512 : Cond.instanceMethod y_M_refuse ∈ sx_gw := sx_wd 512 rfl rfl
set_option maxRecDepth 20000 in
theorem wd_513 : Cond.code y_M_refuse b_M_refuse 2 (some .int) ∈ sx_gw := sx_wd 513 rfl rfl
set_option maxRecDepth 20000 in
theorem wd_514 : Cond.methodLink R_L (68 : Nat) y_M_link ∈ sx_gw := sx_wd 514 rfl rfl
set_option maxRecDepth 20000 in
theorem wd_515 : Cond.instanceMethod y_M_link ∈ sx_gw := sx_wd 515 rfl rfl
set_option maxRecDepth 20000 in
theorem wd_516 : Cond.selects R_M y_M_link y_M_link ∈ sx_gw := sx_wd 516 rfl rfl
set_option maxRecDepth 20000 in
theorem wd_517 : Cond.code y_M_link b_M_link 5 (some .int) ∈ sx_gw := sx_wd 517 rfl rfl
set_option maxRecDepth 20000 in
theorem wd_518 : Cond.methodLink R_L (72 : Nat) y_M_remove ∈ sx_gw := sx_wd 518 rfl rfl
set_option maxRecDepth 20000 in
theorem wd_519 : Cond.instanceMethod y_M_remove ∈ sx_gw := sx_wd 519 rfl rfl
set_option maxRecDepth 20000 in
theorem wd_520 : Cond.selects R_M y_M_remove y_M_remove ∈ sx_gw := sx_wd 520 rfl rfl
set_option maxRecDepth 20000 in
theorem wd_521 : Cond.code y_M_remove b_M_remove 4 (some .int) ∈ sx_gw := sx_wd 521 rfl rfl
set_option maxRecDepth 20000 in
theorem wd_522 : Cond.methodLink R_L (76 : Nat) y_M_list ∈ sx_gw := sx_wd 522 rfl rfl
set_option maxRecDepth 20000 in
theorem wd_523 : Cond.instanceMethod y_M_list ∈ sx_gw := sx_wd 523 rfl rfl
set_option maxRecDepth 20000 in
theorem wd_524 : Cond.selects R_M y_M_list y_M_list ∈ sx_gw := sx_wd 524 rfl rfl
set_option maxRecDepth 20000 in
theorem wd_525 : Cond.code y_M_list b_M_list 8 (some .int) ∈ sx_gw := sx_wd 525 rfl rfl
set_option maxRecDepth 20000 in
theorem wd_526 : Cond.methodLink R_M (121 : Nat) y_M_hasUnder ∈ sx_gw := sx_wd 526 rfl rfl
set_option maxRecDepth 20000 in
theorem wd_528 : Cond.instanceMethod y_M_hasUnder ∈ sx_gw := sx_wd 528 rfl rfl
set_option maxRecDepth 20000 in
theorem wd_529 : Cond.code y_M_hasUnder b_M_hasUnder 5 (some .boolean) ∈ sx_gw := sx_wd 529 rfl rfl
set_option maxRecDepth 20000 in
theorem wd_530 : Cond.methodLink R_L (81 : Nat) y_M_finish ∈ sx_gw := sx_wd 530 rfl rfl
set_option maxRecDepth 20000 in
theorem wd_531 : Cond.instanceMethod y_M_finish ∈ sx_gw := sx_wd 531 rfl rfl
set_option maxRecDepth 20000 in
theorem wd_532 : Cond.selects R_M y_M_finish y_M_finish ∈ sx_gw := sx_wd 532 rfl rfl
set_option maxRecDepth 20000 in
theorem wd_533 : Cond.code y_M_finish b_M_finish 4 (some .int) ∈ sx_gw := sx_wd 533 rfl rfl
set_option maxRecDepth 20000 in
theorem wd_534 : Cond.methodLink R_M (135 : Nat) y_M_ended ∈ sx_gw := sx_wd 534 rfl rfl
set_option maxRecDepth 20000 in
theorem wd_536 : Cond.instanceMethod y_M_ended ∈ sx_gw := sx_wd 536 rfl rfl
set_option maxRecDepth 20000 in
theorem wd_537 : Cond.code y_M_ended b_M_ended 6 (some .int) ∈ sx_gw := sx_wd 537 rfl rfl
set_option maxRecDepth 20000 in
theorem wd_538 : Cond.methodLink R_M (124 : Nat) y_M_isLoose ∈ sx_gw := sx_wd 538 rfl rfl
set_option maxRecDepth 20000 in
theorem wd_540 : Cond.instanceMethod y_M_isLoose ∈ sx_gw := sx_wd 540 rfl rfl
set_option maxRecDepth 20000 in
theorem wd_541 : Cond.code y_M_isLoose b_M_isLoose 5 (some .boolean) ∈ sx_gw := sx_wd 541 rfl rfl
set_option maxRecDepth 20000 in
theorem wd_542 : Cond.methodLink R_M (127 : Nat) y_M_mark ∈ sx_gw := sx_wd 542 rfl rfl
set_option maxRecDepth 20000 in
theorem wd_544 : Cond.instanceMethod y_M_mark ∈ sx_gw := sx_wd 544 rfl rfl
set_option maxRecDepth 20000 in
theorem wd_545 : Cond.code y_M_mark b_M_mark 4 none ∈ sx_gw := sx_wd 545 rfl rfl
set_option maxRecDepth 20000 in
theorem wd_546 : Cond.methodLink R_M (131 : Nat) y_M_clashes ∈ sx_gw := sx_wd 546 rfl rfl
set_option maxRecDepth 20000 in
theorem wd_548 : Cond.instanceMethod y_M_clashes ∈ sx_gw := sx_wd 548 rfl rfl
set_option maxRecDepth 20000 in
theorem wd_549 : Cond.code y_M_clashes b_M_clashes 4 (some .boolean) ∈ sx_gw := sx_wd 549 rfl rfl
set_option maxRecDepth 20000 in
theorem wd_550 : Cond.methodLink R_L (85 : Nat) y_M_tried ∈ sx_gw := sx_wd 550 rfl rfl
set_option maxRecDepth 20000 in
theorem wd_551 : Cond.instanceMethod y_M_tried ∈ sx_gw := sx_wd 551 rfl rfl
set_option maxRecDepth 20000 in
theorem wd_552 : Cond.selects R_M y_M_tried y_M_tried ∈ sx_gw := sx_wd 552 rfl rfl
set_option maxRecDepth 20000 in
theorem wd_553 : Cond.code y_M_tried b_M_tried 3 (some .int) ∈ sx_gw := sx_wd 553 rfl rfl
set_option maxRecDepth 20000 in
theorem wd_554 : Cond.methodLink R_L (89 : Nat) y_M_about ∈ sx_gw := sx_wd 554 rfl rfl
set_option maxRecDepth 20000 in
theorem wd_555 : Cond.instanceMethod y_M_about ∈ sx_gw := sx_wd 555 rfl rfl
set_option maxRecDepth 20000 in
theorem wd_556 : Cond.selects R_M y_M_about y_M_about ∈ sx_gw := sx_wd 556 rfl rfl
set_option maxRecDepth 20000 in
theorem wd_557 : Cond.code y_M_about b_M_about 3 (some .int) ∈ sx_gw := sx_wd 557 rfl rfl
theorem ws_0 : Cond.selects R_X y_X_actionAt y_X_actionAt ∈ sx_gw := sx_wsel 0 rfl rfl
theorem ws_1 : Cond.selects R_X y_X_touchesDeclared y_X_touchesDeclared ∈ sx_gw := sx_wsel 1 rfl rfl
theorem ws_2 : Cond.selects R_X y_X_lacksInput y_X_lacksInput ∈ sx_gw := sx_wsel 2 rfl rfl
theorem ws_3 : Cond.selects R_X y_X_underDeclared y_X_underDeclared ∈ sx_gw := sx_wsel 3 rfl rfl
theorem ws_4 : Cond.selects R_X y_X_runningAt y_X_runningAt ∈ sx_gw := sx_wsel 4 rfl rfl
theorem ws_5 : Cond.selects R_X y_X_canPut y_X_canPut ∈ sx_gw := sx_wsel 5 rfl rfl
theorem ws_6 : Cond.selects R_X y_X_writable y_X_writable ∈ sx_gw := sx_wsel 6 rfl rfl
theorem ws_7 : Cond.selects R_X y_X_scratch y_X_scratch ∈ sx_gw := sx_wsel 7 rfl rfl
theorem ws_8 : Cond.selects R_X y_X_refuse y_X_refuse ∈ sx_gw := sx_wsel 8 rfl rfl
theorem ws_9 : Cond.selects R_X y_X_firstOutputFault y_X_firstOutputFault ∈ sx_gw := sx_wsel 9 rfl rfl
theorem ws_10 : Cond.selects R_X y_X_gather y_X_gather ∈ sx_gw := sx_wsel 10 rfl rfl
theorem ws_11 : Cond.selects R_M y_M_isPath y_M_isPath ∈ sx_gw := sx_wsel 11 rfl rfl
theorem ws_12 : Cond.selects R_M y_M_child y_M_child ∈ sx_gw := sx_wsel 12 rfl rfl
theorem ws_13 : Cond.selects R_M y_M_isUnder y_M_isUnder ∈ sx_gw := sx_wsel 13 rfl rfl
theorem ws_14 : Cond.selects R_M y_M_isAction y_M_isAction ∈ sx_gw := sx_wsel 14 rfl rfl
theorem ws_15 : Cond.selects R_M y_M_isDeclared y_M_isDeclared ∈ sx_gw := sx_wsel 15 rfl rfl
theorem ws_16 : Cond.selects R_M y_M_may y_M_may ∈ sx_gw := sx_wsel 16 rfl rfl
theorem ws_17 : Cond.selects R_M y_M_leads y_M_leads ∈ sx_gw := sx_wsel 17 rfl rfl
theorem ws_18 : Cond.selects R_M y_M_at y_M_at ∈ sx_gw := sx_wsel 18 rfl rfl
theorem ws_19 : Cond.selects R_M y_M_isWritable y_M_isWritable ∈ sx_gw := sx_wsel 19 rfl rfl
theorem ws_20 : Cond.selects R_M y_M_isInWay y_M_isInWay ∈ sx_gw := sx_wsel 20 rfl rfl
theorem ws_21 : Cond.selects R_M y_M_refuse y_M_refuse ∈ sx_gw := sx_wsel 21 rfl rfl
theorem ws_22 : Cond.selects R_M y_M_hasUnder y_M_hasUnder ∈ sx_gw := sx_wsel 22 rfl rfl
theorem ws_23 : Cond.selects R_M y_M_ended y_M_ended ∈ sx_gw := sx_wsel 23 rfl rfl
theorem ws_24 : Cond.selects R_M y_M_isLoose y_M_isLoose ∈ sx_gw := sx_wsel 24 rfl rfl
theorem ws_25 : Cond.selects R_M y_M_mark y_M_mark ∈ sx_gw := sx_wsel 25 rfl rfl
theorem ws_26 : Cond.selects R_M y_M_clashes y_M_clashes ∈ sx_gw := sx_wsel 26 rfl rfl
theorem iw_A : ∀ w ∈ u_ws R_A T_A 12, w ∈ sx_gw := by
  intro w hw
  obtain ⟨k, hk, rfl⟩ := List.mem_map.mp hw
  have hk := List.mem_range.mp hk
  match k, hk with
  | 0, _ => exact wd_182
  | 1, _ => exact wd_184
  | 2, _ => exact wd_186
  | 3, _ => exact wd_188
  | 4, _ => exact wd_190
  | 5, _ => exact wd_192
  | 6, _ => exact wd_194
  | 7, _ => exact wd_196
  | 8, _ => exact wd_198
  | 9, _ => exact wd_200
  | 10, _ => exact wd_202
  | 11, _ => exact wd_204
  | k + 12, h => exact absurd h (by omega)
theorem iw_P : ∀ w ∈ u_ws R_P T_P 5, w ∈ sx_gw := by
  intro w hw
  obtain ⟨k, hk, rfl⟩ := List.mem_map.mp hw
  have hk := List.mem_range.mp hk
  match k, hk with
  | 0, _ => exact wd_37
  | 1, _ => exact wd_39
  | 2, _ => exact wd_41
  | 3, _ => exact wd_43
  | 4, _ => exact wd_45
  | k + 5, h => exact absurd h (by omega)
theorem iw_S : ∀ w ∈ u_ws R_S T_S 3, w ∈ sx_gw := by
  intro w hw
  obtain ⟨k, hk, rfl⟩ := List.mem_map.mp hw
  have hk := List.mem_range.mp hk
  match k, hk with
  | 0, _ => exact wd_60
  | 1, _ => exact wd_62
  | 2, _ => exact wd_64
  | k + 3, h => exact absurd h (by omega)
theorem iw_X : ∀ w ∈ u_ws R_X T_X 6, w ∈ sx_gw := by
  intro w hw
  obtain ⟨k, hk, rfl⟩ := List.mem_map.mp hw
  have hk := List.mem_range.mp hk
  match k, hk with
  | 0, _ => exact wd_75
  | 1, _ => exact wd_77
  | 2, _ => exact wd_79
  | 3, _ => exact wd_81
  | 4, _ => exact wd_83
  | 5, _ => exact wd_85
  | k + 6, h => exact absurd h (by omega)
theorem iw_M : ∀ w ∈ u_ws R_M T_M 21, w ∈ sx_gw := by
  intro w hw
  obtain ⟨k, hk, rfl⟩ := List.mem_map.mp hw
  have hk := List.mem_range.mp hk
  match k, hk with
  | 0, _ => exact wd_385
  | 1, _ => exact wd_387
  | 2, _ => exact wd_389
  | 3, _ => exact wd_391
  | 4, _ => exact wd_393
  | 5, _ => exact wd_395
  | 6, _ => exact wd_397
  | 7, _ => exact wd_399
  | 8, _ => exact wd_401
  | 9, _ => exact wd_403
  | 10, _ => exact wd_405
  | 11, _ => exact wd_407
  | 12, _ => exact wd_409
  | 13, _ => exact wd_411
  | 14, _ => exact wd_413
  | 15, _ => exact wd_415
  | 16, _ => exact wd_417
  | 17, _ => exact wd_419
  | 18, _ => exact wd_421
  | 19, _ => exact wd_423
  | 20, _ => exact wd_425
  | k + 21, h => exact absurd h (by omega)
abbrev w_X_init : List Cond := Cond.code y_X_init b_X_init 2 none :: sx_gw
abbrev w_P_init : List Cond := Cond.code y_P_init b_P_init 1 none :: sx_gw
abbrev w_X_only : List Cond := Cond.code y_X_only b_X_only 1 (some .long) :: sx_gw
abbrev w_S_init : List Cond := Cond.code y_S_init b_S_init 1 none :: sx_gw
abbrev w_X_path : List Cond := Cond.code y_X_path b_X_path 4 (some .int) :: sx_gw
abbrev w_P_has : List Cond := Cond.code y_P_has b_P_has 2 (some .boolean) :: sx_gw
abbrev w_X_isLetter : List Cond := Cond.code y_X_isLetter b_X_isLetter 1 (some .boolean) :: sx_gw
abbrev w_P_find : List Cond := Cond.code y_P_find b_P_find 4 (some .int) :: sx_gw
abbrev w_P_add : List Cond := Cond.code y_P_add b_P_add 5 (some .int) :: sx_gw
abbrev w_X_holds : List Cond := Cond.code y_X_holds b_X_holds 3 (some .boolean) :: sx_gw
abbrev w_X_file : List Cond := Cond.code y_X_file b_X_file 3 (some .boolean) :: sx_gw
abbrev w_P_inTheWayOf : List Cond := Cond.code y_P_inTheWayOf b_P_inTheWayOf 2 (some .long) :: sx_gw
abbrev w_S_taken : List Cond := Cond.code y_S_taken b_S_taken 1 (some .long) :: sx_gw
abbrev w_S_takeAway : List Cond := Cond.code y_S_takeAway b_S_takeAway 2 none :: sx_gw
abbrev w_S_putFile : List Cond := Cond.code y_S_putFile b_S_putFile 3 none :: sx_gw
abbrev w_S_canHold : List Cond := Cond.code y_S_canHold b_S_canHold 1 (some .boolean) :: sx_gw
abbrev w_X_source : List Cond := Cond.code y_X_source b_X_source 2 (some .int) :: sx_gw
abbrev w_S_leadsTo : List Cond := Cond.code y_S_leadsTo b_S_leadsTo 4 (some .int) :: sx_gw
abbrev w_X_action : List Cond := Cond.code y_X_action b_X_action 2 (some .int) :: sx_gw
abbrev w_A_init : List Cond := Cond.code y_A_init b_A_init 1 none :: sx_gw
abbrev w_X_declare : List Cond := Cond.code y_X_declare b_X_declare 5 (some .int) :: sx_gw
abbrev w_X_actionAt : List Cond := Cond.code y_X_actionAt b_X_actionAt 2 (some (.object "SandboxTree$Action")) :: sx_gw
abbrev w_X_touchesDeclared : List Cond := Cond.code y_X_touchesDeclared b_X_touchesDeclared 6 (some .boolean) :: sx_gw
abbrev w_A_addDeclared : List Cond := Cond.code y_A_addDeclared b_A_addDeclared 3 none :: sx_gw
abbrev w_X_strict : List Cond := Cond.code y_X_strict b_X_strict 2 none :: sx_gw
abbrev w_X_begin : List Cond := Cond.code y_X_begin b_X_begin 3 (some .int) :: sx_gw
abbrev w_X_lacksInput : List Cond := Cond.code y_X_lacksInput b_X_lacksInput 5 (some .boolean) :: sx_gw
abbrev w_P_under : List Cond := Cond.code y_P_under b_P_under 2 (some .long) :: sx_gw
abbrev w_A_startWorld : List Cond := Cond.code y_A_startWorld b_A_startWorld 1 none :: sx_gw
abbrev w_X_underDeclared : List Cond := Cond.code y_X_underDeclared b_X_underDeclared 6 (some .long) :: sx_gw
abbrev w_S_copyFiles : List Cond := Cond.code y_S_copyFiles b_S_copyFiles 4 none :: sx_gw
abbrev w_J_bitCount : List Cond := Cond.code y_J_bitCount b_J_bitCount 2 (some .int) :: sx_gw
abbrev w_X_open : List Cond := Cond.code y_X_open b_X_open 5 (some .int) :: sx_gw
abbrev w_X_runningAt : List Cond := Cond.code y_X_runningAt b_X_runningAt 3 (some (.object "SandboxTree$Action")) :: sx_gw
abbrev w_A_startOperation : List Cond := Cond.code y_A_startOperation b_A_startOperation 2 (some .boolean) :: sx_gw
abbrev w_A_noteTried : List Cond := Cond.code y_A_noteTried b_A_noteTried 2 none :: sx_gw
abbrev w_X_write : List Cond := Cond.code y_X_write b_X_write 5 (some .int) :: sx_gw
abbrev w_X_canPut : List Cond := Cond.code y_X_canPut b_X_canPut 3 (some .boolean) :: sx_gw
abbrev w_X_writable : List Cond := Cond.code y_X_writable b_X_writable 2 (some .long) :: sx_gw
abbrev w_X_scratch : List Cond := Cond.code y_X_scratch b_X_scratch 3 (some .long) :: sx_gw
abbrev w_X_refuse : List Cond := Cond.code y_X_refuse b_X_refuse 2 (some .int) :: sx_gw
abbrev w_X_link : List Cond := Cond.code y_X_link b_X_link 7 (some .int) :: sx_gw
abbrev w_S_putLink : List Cond := Cond.code y_S_putLink b_S_putLink 3 none :: sx_gw
abbrev w_X_remove : List Cond := Cond.code y_X_remove b_X_remove 4 (some .int) :: sx_gw
abbrev w_X_list : List Cond := Cond.code y_X_list b_X_list 5 (some .int) :: sx_gw
abbrev w_P_letterInFolder : List Cond := Cond.code y_P_letterInFolder b_P_letterInFolder 9 (some .int) :: sx_gw
abbrev w_X_finish : List Cond := Cond.code y_X_finish b_X_finish 5 (some .int) :: sx_gw
abbrev w_X_firstOutputFault : List Cond := Cond.code y_X_firstOutputFault b_X_firstOutputFault 6 (some .int) :: sx_gw
abbrev w_S_hasLooseLink : List Cond := Cond.code y_S_hasLooseLink b_S_hasLooseLink 4 (some .boolean) :: sx_gw
abbrev w_X_gather : List Cond := Cond.code y_X_gather b_X_gather 11 (some .int) :: sx_gw
abbrev w_P_withAbove : List Cond := Cond.code y_P_withAbove b_P_withAbove 6 (some .long) :: sx_gw
abbrev w_P_hasClash : List Cond := Cond.code y_P_hasClash b_P_hasClash 5 (some .boolean) :: sx_gw
abbrev w_X_tried : List Cond := Cond.code y_X_tried b_X_tried 4 (some .int) :: sx_gw
abbrev w_X_about : List Cond := Cond.code y_X_about b_X_about 4 (some .int) :: sx_gw
abbrev w_L_cell : List Cond := Cond.code y_L_cell b_L_cell 2 (some .int) :: sx_gw
abbrev w_M_init : List Cond := Cond.code y_M_init b_M_init 2 none :: sx_gw
abbrev w_M_path : List Cond := Cond.code y_M_path b_M_path 4 (some .int) :: sx_gw
abbrev w_M_isPath : List Cond := Cond.code y_M_isPath b_M_isPath 2 (some .boolean) :: sx_gw
abbrev w_M_lower : List Cond := Cond.code y_M_lower b_M_lower 1 (some .int) :: sx_gw
abbrev w_M_child : List Cond := Cond.code y_M_child b_M_child 5 (some .int) :: sx_gw
abbrev w_M_file : List Cond := Cond.code y_M_file b_M_file 4 (some .boolean) :: sx_gw
abbrev w_M_isUnder : List Cond := Cond.code y_M_isUnder b_M_isUnder 4 (some .boolean) :: sx_gw
abbrev w_M_source : List Cond := Cond.code y_M_source b_M_source 2 (some .int) :: sx_gw
abbrev w_M_action : List Cond := Cond.code y_M_action b_M_action 1 (some .int) :: sx_gw
abbrev w_M_declare : List Cond := Cond.code y_M_declare b_M_declare 5 (some .int) :: sx_gw
abbrev w_M_isAction : List Cond := Cond.code y_M_isAction b_M_isAction 2 (some .boolean) :: sx_gw
abbrev w_M_strict : List Cond := Cond.code y_M_strict b_M_strict 2 none :: sx_gw
abbrev w_M_begin : List Cond := Cond.code y_M_begin b_M_begin 5 (some .int) :: sx_gw
abbrev w_M_isDeclared : List Cond := Cond.code y_M_isDeclared b_M_isDeclared 6 (some .boolean) :: sx_gw
abbrev w_M_open : List Cond := Cond.code y_M_open b_M_open 7 (some .int) :: sx_gw
abbrev w_M_may : List Cond := Cond.code y_M_may b_M_may 4 (some .int) :: sx_gw
abbrev w_M_leads : List Cond := Cond.code y_M_leads b_M_leads 5 (some .int) :: sx_gw
abbrev w_M_at : List Cond := Cond.code y_M_at b_M_at 3 (some .int) :: sx_gw
abbrev w_M_goal : List Cond := Cond.code y_M_goal b_M_goal 1 (some .int) :: sx_gw
abbrev w_M_write : List Cond := Cond.code y_M_write b_M_write 5 (some .int) :: sx_gw
abbrev w_M_isWritable : List Cond := Cond.code y_M_isWritable b_M_isWritable 4 (some .boolean) :: sx_gw
abbrev w_M_isInWay : List Cond := Cond.code y_M_isInWay b_M_isInWay 5 (some .boolean) :: sx_gw
abbrev w_M_refuse : List Cond := Cond.code y_M_refuse b_M_refuse 2 (some .int) :: sx_gw
abbrev w_M_link : List Cond := Cond.code y_M_link b_M_link 5 (some .int) :: sx_gw
abbrev w_M_remove : List Cond := Cond.code y_M_remove b_M_remove 4 (some .int) :: sx_gw
abbrev w_M_list : List Cond := Cond.code y_M_list b_M_list 8 (some .int) :: sx_gw
abbrev w_M_hasUnder : List Cond := Cond.code y_M_hasUnder b_M_hasUnder 5 (some .boolean) :: sx_gw
abbrev w_M_finish : List Cond := Cond.code y_M_finish b_M_finish 4 (some .int) :: sx_gw
abbrev w_M_ended : List Cond := Cond.code y_M_ended b_M_ended 6 (some .int) :: sx_gw
abbrev w_M_isLoose : List Cond := Cond.code y_M_isLoose b_M_isLoose 5 (some .boolean) :: sx_gw
abbrev w_M_mark : List Cond := Cond.code y_M_mark b_M_mark 4 none :: sx_gw
abbrev w_M_clashes : List Cond := Cond.code y_M_clashes b_M_clashes 4 (some .boolean) :: sx_gw
abbrev w_M_tried : List Cond := Cond.code y_M_tried b_M_tried 3 (some .int) :: sx_gw
abbrev w_M_about : List Cond := Cond.code y_M_about b_M_about 3 (some .int) :: sx_gw
end
section
/-! Pure words: booleans as ints, ranges, 'any', counting; the state of the system as a table of ints. -/
abbrev sx_A : Type := Nat → Nat → Int32
def sx_st (α : sx_A) (i j : Nat) (v : Int32) : sx_A := fun k => bif Nat.beq k i then upd (α i) j v else α k
theorem sx_st_eq {α : sx_A} {i j : Nat} {v : Int32} : sx_st α i j v i = upd (α i) j v := by
  have h : Nat.beq i i = true := Nat.beq_refl i
  simp only [sx_st, h, cond_true]
theorem sx_st_ne {α : sx_A} {i j k : Nat} {v : Int32} (h : k ≠ i) : sx_st α i j v k = α k := by
  have hb : Nat.beq k i = false := by
    cases hq : Nat.beq k i with
    | false => rfl
    | true => exact absurd (Nat.eq_of_beq_eq_true hq) h
  simp only [sx_st, hb, cond_false]
def sx_bI (b : Bool) : Int32 := bif b then 1 else 0
theorem sx_bI0 {b : Bool} (h : sx_bI b = 0) : b = false := by
  cases b with
  | false => rfl
  | true => exact absurd h (by decide)
theorem sx_bIn {b : Bool} (h : ¬ sx_bI b = 0) : b = true := by
  cases b with
  | true => rfl
  | false => exact absurd rfl h
theorem sx_bI0' {b : Bool} : sx_bI b = 0 ↔ b = false := ⟨sx_bI0, fun h => by rw [h]; rfl⟩
theorem sx_bI1' {b : Bool} : sx_bI b = 1 ↔ b = true := ⟨fun h => by cases b with | true => rfl | false => exact absurd h (by decide), fun h => by rw [h]; rfl⟩
theorem sx_bI_inj {a b : Bool} (h : sx_bI a = sx_bI b) : a = b := by cases a <;> cases b <;> first | rfl | exact absurd h (by decide)
theorem sx_bI_nar (b : Bool) : narrow .boolean (.int (sx_bI b)) = .int (sx_bI b) := by cases b <;> rfl
theorem sx_bI_fit (b : Bool) : fits .boolean (.int (sx_bI b)) = true := by cases b <;> rfl
theorem sx_bI_vnar (b : Bool) : vp_nar .boolean (sx_bI b) = sx_bI b := by cases b <;> rfl
def sx_has (n : Nat) (p : Int32) : Bool := decide (¬ p < 0) && decide (p < nI n)
theorem sx_has_t {n : Nat} {p : Int32} (hn : n < 2 ^ 31) (h : sx_has n p = true) : ∃ j : Nat, j < n ∧ p = nI j := by
  simp only [sx_has, Bool.and_eq_true, decide_eq_true_eq] at h
  obtain ⟨j, hj, rfl⟩ := nI_of h.1
  exact ⟨j, (nI_ltI hj hn).mp h.2, rfl⟩
theorem sx_has_nI {n j : Nat} (hn : n < 2 ^ 31) (h : j < n) : sx_has n (nI j) = true := by
  simp only [sx_has, Bool.and_eq_true, decide_eq_true_eq]
  exact ⟨nI_pos (by omega), (nI_ltI (by omega) hn).mpr h⟩
def sx_any (f : Nat → Bool) : Nat → Bool
  | 0 => false
  | k + 1 => sx_any f k || f k
theorem sx_any_t {f : Nat → Bool} {m : Nat} : sx_any f m = true ↔ ∃ k, k < m ∧ f k = true := by
  induction m with
  | zero => exact ⟨fun h => (by cases h), fun ⟨k, h, _⟩ => absurd h (Nat.not_lt_zero k)⟩
  | succ m ih =>
    simp only [sx_any, Bool.or_eq_true, ih]
    constructor
    · rintro (⟨k, h1, h2⟩ | h)
      · exact ⟨k, by omega, h2⟩
      · exact ⟨m, by omega, h⟩
    · rintro ⟨k, h1, h2⟩
      by_cases e : k = m
      · subst e; exact Or.inr h2
      · exact Or.inl ⟨k, by omega, h2⟩
theorem sx_any_f {f : Nat → Bool} {m : Nat} : sx_any f m = false ↔ ∀ k, k < m → f k = false := by
  constructor
  · intro h k hk
    cases e : f k with
    | false => rfl
    | true => rw [sx_any_t.mpr ⟨k, hk, e⟩] at h; cases h
  · intro h
    cases e : sx_any f m with
    | false => rfl
    | true =>
      obtain ⟨k, h1, h2⟩ := sx_any_t.mp e
      rw [h k h1] at h2; cases h2
theorem sx_any_congr {f g : Nat → Bool} {m : Nat} (h : ∀ k, k < m → f k = g k) : sx_any f m = sx_any g m := by
  induction m with
  | zero => rfl
  | succ m ih => simp only [sx_any]; rw [ih (fun k hk => h k (by omega)), h m (by omega)]
theorem sx_any_mono {f : Nat → Bool} {m k : Nat} (hk : m ≤ k) (h : sx_any f m = true) : sx_any f k = true := by
  obtain ⟨j, h1, h2⟩ := sx_any_t.mp h
  exact sx_any_t.mpr ⟨j, by omega, h2⟩
def sx_cnt (f : Nat → Bool) : Nat → Nat
  | 0 => 0
  | k + 1 => sx_cnt f k + (bif f k then 1 else 0)
theorem sx_cnt_le (f : Nat → Bool) (m : Nat) : sx_cnt f m ≤ m := by
  induction m with
  | zero => exact Nat.le_refl 0
  | succ m ih => simp only [sx_cnt]; cases f m <;> simp <;> omega
theorem sx_cnt_congr {f g : Nat → Bool} {m : Nat} (h : ∀ k, k < m → f k = g k) : sx_cnt f m = sx_cnt g m := by
  induction m with
  | zero => rfl
  | succ m ih => simp only [sx_cnt]; rw [ih (fun k hk => h k (by omega)), h m (by omega)]
theorem sx_cnt_0 {f : Nat → Bool} {m k : Nat} (hk : m ≤ k) (h : ∀ j, m ≤ j → j < k → f j = false) : sx_cnt f k = sx_cnt f m := by
  induction k with
  | zero => rw [show m = 0 by omega]
  | succ k ih =>
    by_cases e : m = k + 1
    · rw [e]
    · simp only [sx_cnt]
      rw [ih (by omega) (fun j a b => h j a (by omega)), h k (by omega) (by omega)]
      rfl
/-! The tree: PATH p is UNDER a. -/
def sx_un (par : Nat → Int32) (a : Nat) : Nat → Nat → Bool
  | 0, p => Nat.beq p a
  | f + 1, p => Nat.beq p a || (Nat.blt 0 p && sx_un par a f (par p).toNatClampNeg)
def sx_U (par : Nat → Int32) (p a : Nat) : Bool := sx_un par a p p
def sx_PO (n : Nat) (par : Nat → Int32) : Prop := par 0 = -1 ∧ ∀ k, 1 ≤ k → k < n → ∃ j, j < k ∧ par k = nI j
theorem sx_un_fuel {n : Nat} {par : Nat → Int32} {a : Nat} (h : sx_PO n par) (hn : n < 2 ^ 31) : ∀ p, p < n → ∀ f, p ≤ f → sx_un par a f p = sx_un par a p p := by
  intro p
  induction p using Nat.strongRecOn with
  | ind p ih =>
    intro hp f hf
    cases p with
    | zero =>
      cases f with
      | zero => rfl
      | succ f => simp [sx_un, Nat.blt, Nat.ble]
    | succ p =>
      cases f with
      | zero => omega
      | succ f =>
        obtain ⟨j, h1, h2⟩ := h.2 (p + 1) (by omega) hp
        simp only [sx_un]
        rw [h2, nI_clamp (by omega), ih j h1 (by omega) f (by omega), ih j h1 (by omega) p (by omega)]
theorem sx_U_0 (par : Nat → Int32) (a : Nat) : sx_U par 0 a = Nat.beq 0 a := rfl
theorem sx_U_step {n : Nat} {par : Nat → Int32} {p j a : Nat} (h : sx_PO n par) (hn : n < 2 ^ 31) (hp : 1 ≤ p) (hpn : p < n) (hj : j < p) (e : par p = nI j) : sx_U par p a = (Nat.beq p a || sx_U par j a) := by
  cases p with
  | zero => omega
  | succ p =>
    have hb : Nat.blt 0 (p + 1) = true := by simp [Nat.blt, Nat.ble]
    simp only [sx_U, sx_un]
    rw [e, nI_clamp (by omega), hb, Bool.true_and, sx_un_fuel h hn j (by omega) p (by omega)]
theorem sx_U_self (par : Nat → Int32) (p : Nat) : sx_U par p p = true := by
  cases p with
  | zero => rfl
  | succ p => simp [sx_U, sx_un]
theorem sx_U_le {n : Nat} {par : Nat → Int32} {a : Nat} (h : sx_PO n par) (hn : n < 2 ^ 31) : ∀ p, p < n → sx_U par p a = true → a ≤ p := by
  intro p
  induction p using Nat.strongRecOn with
  | ind p ih =>
    intro hp hu
    cases p with
    | zero =>
      rw [sx_U_0] at hu
      have := Nat.eq_of_beq_eq_true hu
      omega
    | succ p =>
      obtain ⟨j, h1, h2⟩ := h.2 (p + 1) (by omega) hp
      rw [sx_U_step h hn (by omega) hp h1 h2, Bool.or_eq_true] at hu
      rcases hu with hu | hu
      · have := Nat.eq_of_beq_eq_true hu
        omega
      · have := ih j h1 (by omega) hu
        omega
/-- a new path leaves the old ones as they are -/
theorem sx_un_old {n : Nat} {par par' : Nat → Int32} {a : Nat} (h : sx_PO n par) (hn : n < 2 ^ 31) (he : ∀ k, k < n → par' k = par k) : ∀ p, p < n → ∀ f, p ≤ f → sx_un par' a f p = sx_un par a f p := by
  intro p
  induction p using Nat.strongRecOn with
  | ind p ih =>
    intro hp f hf
    cases f with
    | zero => rfl
    | succ f =>
      cases p with
      | zero => simp [sx_un, Nat.blt, Nat.ble]
      | succ p =>
        obtain ⟨j, h1, h2⟩ := h.2 (p + 1) (by omega) hp
        simp only [sx_un]
        rw [he (p + 1) hp, h2, nI_clamp (by omega), ih j h1 (by omega) f (by omega)]
theorem sx_U_old {n : Nat} {par par' : Nat → Int32} {p a : Nat} (h : sx_PO n par) (hn : n < 2 ^ 31) (he : ∀ k, k < n → par' k = par k) (hp : p < n) : sx_U par' p a = sx_U par p a := sx_un_old h hn he p hp p (Nat.le_refl p)
end
section
/-! Sets of paths as words: bit j of a long. -/
theorem sx_inj {a b : Int64} (h : a.toBitVec = b.toBitVec) : a = b := Int64.toBitVec_inj.mp h
def sx_nat (f : Nat → Bool) : Nat → Nat
  | 0 => 0
  | k + 1 => sx_nat f k ||| (bif f k then 2 ^ k else 0)
theorem sx_nat_tb (f : Nat → Bool) (m j : Nat) : (sx_nat f m).testBit j = (decide (j < m) && f j) := by
  induction m with
  | zero => simp [sx_nat]
  | succ m ih =>
    simp only [sx_nat, Nat.testBit_or, ih]
    by_cases e : j = m
    · subst e
      cases f j <;> simp [Nat.testBit_two_pow]
    · have h1 : (bif f m then 2 ^ m else 0 : Nat).testBit j = false := by
        cases f m <;> simp [Nat.testBit_two_pow, Ne.symm e]
      have h2 : decide (j < m) = decide (j < m + 1) := decide_eq_decide.mpr (by omega)
      rw [h1, Bool.or_false, h2]
def sx_lw (f : Nat → Bool) : Int64 := lN (sx_nat f 64)
def sx_bt (w : Int64) (j : Nat) : Bool := w.toBitVec.getLsbD j
theorem sx_bt_lw {f : Nat → Bool} {j : Nat} (hj : j < 64) : sx_bt (sx_lw f) j = f j := by
  show (BitVec.ofNat 64 (sx_nat f 64)).getLsbD j = f j
  rw [BitVec.getLsbD_ofNat, sx_nat_tb]
  simp [hj]
theorem sx_ext {a b : Int64} (h : ∀ j, j < 64 → sx_bt a j = sx_bt b j) : a = b := sx_inj (BitVec.eq_of_getLsbD_eq h)
theorem sx_lw_of {w : Int64} {f : Nat → Bool} (h : ∀ j, j < 64 → sx_bt w j = f j) : w = sx_lw f := sx_ext fun j hj => by rw [h j hj, sx_bt_lw hj]
theorem sx_lw_congr {f g : Nat → Bool} (h : ∀ j, j < 64 → f j = g j) : sx_lw f = sx_lw g := sx_ext fun j hj => by rw [sx_bt_lw hj, sx_bt_lw hj, h j hj]
theorem sx_bt_and (a b : Int64) (j : Nat) : sx_bt (a &&& b) j = (sx_bt a j && sx_bt b j) := by
  unfold sx_bt
  rw [Int64.toBitVec_and, BitVec.getLsbD_and]
theorem sx_bt_or (a b : Int64) (j : Nat) : sx_bt (a ||| b) j = (sx_bt a j || sx_bt b j) := by
  unfold sx_bt
  rw [Int64.toBitVec_or, BitVec.getLsbD_or]
theorem sx_bt_not (a : Int64) {j : Nat} (hj : j < 64) : sx_bt (a ^^^ (-1)) j = !sx_bt a j := by
  have e : (-1 : Int64).toBitVec = BitVec.allOnes 64 := by decide
  unfold sx_bt
  rw [Int64.toBitVec_xor, e, BitVec.getLsbD_xor, BitVec.getLsbD_allOnes]
  simp [hj]
theorem sx_bt_0 (j : Nat) : sx_bt 0 j = false := by
  have e : (0 : Int64).toBitVec = 0#64 := by decide
  unfold sx_bt
  rw [e, BitVec.getLsbD_zero]
def sx_on (j : Nat) : Int64 := (1 : Int64) <<< ((nI j).toInt64 &&& 63)
theorem sx_sh : ∀ k, k < 64 → ((1 : Int64) <<< ((nI k).toInt64 &&& 63)).toBitVec = BitVec.twoPow 64 k := by decide +kernel
theorem sx_bt_on {i j : Nat} (hi : i < 64) (hj : j < 64) : sx_bt (sx_on j) i = decide (i = j) := by
  unfold sx_bt sx_on
  rw [sx_sh j hj, BitVec.getLsbD_twoPow]
  by_cases e : i = j
  · subst e; simp [hi]
  · have e2 : ¬ j = i := fun h => e h.symm
    simp [e, e2]
theorem sx_w0 {w : Int64} : w = 0 ↔ ∀ j, j < 64 → sx_bt w j = false := by
  constructor
  · intro h j _; rw [h, sx_bt_0]
  · intro h; exact sx_ext fun j hj => by rw [h j hj, sx_bt_0]
theorem sx_wne {w : Int64} (h : ¬ w = 0) : ∃ j, j < 64 ∧ sx_bt w j = true := by
  by_cases e : ∃ j, j < 64 ∧ sx_bt w j = true
  · exact e
  · refine absurd (sx_w0.mpr fun j hj => ?_) h
    cases q : sx_bt w j with
    | false => rfl
    | true => exact absurd ⟨j, hj, q⟩ e
theorem sx_holds {w : Int64} {j : Nat} (hj : j < 64) : w &&& sx_on j = 0 ↔ sx_bt w j = false := by
  rw [sx_w0]
  constructor
  · intro h
    have := h j hj
    rw [sx_bt_and, sx_bt_on hj hj] at this
    simpa using this
  · intro h i hi
    rw [sx_bt_and, sx_bt_on hi hj]
    by_cases e : i = j
    · subst e; rw [h]; rfl
    · simp [e]
theorem sx_cmp0 {x y : Int64} : lg_cmp x y = 0 ↔ x = y := lg_cmp_eq x y
end
section
/-! What each call answers and does, of the state (n paths, na actions, L the limit, sb strict, α the tables:
1 parent, 2 letter, 3 source, 4 declared, 5 declared paths (12 a + k), 6 operations, 7 refusals, 8 how many tried, 9 tried (60 a + k),
10 world (60 a + p: above 0 a file, below 0 a link to - 1 - x), 11 is output (12 a + k), 12 is there, 13 is broken, 14 was there). -/
def sx_row (α : sx_A) (i : Nat) (f : Nat → Int32) : sx_A := fun k => bif Nat.beq k i then f else α k
def sx_dN (α : sx_A) (a : Nat) : Nat := (α 4 a).toNatClampNeg
def sx_tN (α : sx_A) (a : Nat) : Nat := (α 8 a).toNatClampNeg
def sx_dp (α : sx_A) (a k : Nat) : Nat := (α 5 (12 * a + k)).toNatClampNeg
def sx_ch (α : sx_A) (p c : Int32) : Nat → Int32
  | 0 => -1
  | k + 1 => if 0 < k ∧ α 1 k = p ∧ α 2 k = c then nI k else sx_ch α p c k
def sx_isL (c : Int32) : Bool := (decide (97 ≤ c) && decide (c ≤ 122)) || (decide (65 ≤ c) && decide (c ≤ 90))
def sx_new (n : Nat) (α : sx_A) (p c : Int32) : Bool := (sx_has n p && sx_isL c) && (decide (sx_ch α p c n = -1) && !Nat.beq n 60)
def sx_pathA (n : Nat) (α : sx_A) (p c : Int32) : Int32 := bif sx_has n p && sx_isL c then (bif decide (sx_ch α p c n = -1) && !Nat.beq n 60 then nI n else sx_ch α p c n) else -1
def sx_pathN (n : Nat) (α : sx_A) (p c : Int32) : Nat := bif sx_new n α p c then n + 1 else n
def sx_pathS (n : Nat) (α : sx_A) (p c : Int32) : sx_A := bif sx_new n α p c then sx_st (sx_st α 1 n p) 2 n c else α
def sx_inS (n : Nat) (α : sx_A) (p : Nat) : Bool := sx_any (fun k => (Nat.blt 0 k && !Nat.beq k p) && (decide (0 < α 3 k) && (sx_U (α 1) k p || sx_U (α 1) p k))) n
def sx_fileA (n : Nat) (α : sx_A) (p c : Int32) : Bool := (sx_has n p && (!decide (p = 0) && !decide (c < 0))) && !sx_inS n α p.toNatClampNeg
def sx_fileS (n : Nat) (α : sx_A) (p c : Int32) : sx_A := bif sx_fileA n α p c then sx_st α 3 p.toNatClampNeg c else α
def sx_srcA (n : Nat) (α : sx_A) (p : Int32) : Int32 := bif sx_has n p then α 3 p.toNatClampNeg else 0
def sx_actA (na : Nat) : Int32 := bif Nat.beq na 10 then -1 else nI na
def sx_actN (na : Nat) : Nat := bif Nat.beq na 10 then na else na + 1
def sx_decT (α : sx_A) (a p : Nat) : Bool := sx_any (fun k => sx_U (α 1) p (sx_dp α a k) || sx_U (α 1) (sx_dp α a k) p) (sx_dN α a)
def sx_decO (n : Nat) (α : sx_A) (a : Nat) (p : Int32) : Bool := (sx_has n p && !decide (p = 0)) && (!decide (α 4 a = 12) && decide (α 12 a = 0))
def sx_decA (n : Nat) (α : sx_A) (a : Nat) (p : Int32) : Int32 := bif sx_decO n α a p then (bif sx_decT α a p.toNatClampNeg then -2 else 1) else -1
def sx_decS (n : Nat) (α : sx_A) (a : Nat) (p : Int32) (o : Bool) : sx_A := bif sx_decO n α a p && !sx_decT α a p.toNatClampNeg then sx_st (sx_st (sx_st α 5 (12 * a + sx_dN α a) p) 11 (12 * a + sx_dN α a) (sx_bI o)) 4 a (α 4 a + 1) else α
def sx_isD (α : sx_A) (a : Nat) (o : Bool) (p : Nat) : Bool := sx_any (fun k => decide (α 11 (12 * a + k) = sx_bI o) && sx_U (α 1) p (sx_dp α a k)) (sx_dN α a)
def sx_z (n : Nat) (α : sx_A) : Int32 := sx_ch α 0 122 n
def sx_isW (n : Nat) (α : sx_A) (a p : Nat) : Bool := sx_isD α a true p || ((!decide (sx_z n α = -1) && !Nat.beq p (sx_z n α).toNatClampNeg) && (sx_U (α 1) p (sx_z n α).toNatClampNeg && !sx_isD α a false p))
def sx_hasS (n : Nat) (α : sx_A) (o : Nat) : Bool := sx_any (fun p => Nat.blt 0 p && (decide (0 < α 3 p) && sx_U (α 1) p o)) n
def sx_lack (n : Nat) (α : sx_A) (a : Nat) : Bool := sx_any (fun k => decide (α 11 (12 * a + k) = 0) && !sx_hasS n α (sx_dp α a k)) (sx_dN α a)
def sx_nw (n : Nat) (α : sx_A) (a p : Nat) : Int32 := bif Nat.blt p n && sx_isD α a false p then α 3 p else 0
def sx_begO (n : Nat) (α : sx_A) (a : Nat) : Bool := decide (α 12 a = 0) && !sx_lack n α a
def sx_begA (n : Nat) (α : sx_A) (a : Nat) : Int32 := bif decide (α 12 a = 0) then (bif sx_lack n α a then -2 else nI (sx_cnt (fun p => decide (0 < sx_nw n α a p)) 60)) else -1
def sx_wrow (n : Nat) (α : sx_A) (a m : Nat) : Nat → Int32 := fun j => bif Nat.ble (60 * a) j && Nat.blt j (60 * a + m) then sx_nw n α a (j - 60 * a) else α 10 j
def sx_begS (n : Nat) (α : sx_A) (a : Nat) : sx_A := bif sx_begO n α a then sx_st (sx_st (sx_st (sx_st (sx_st (sx_st (sx_row α 10 (sx_wrow n α a 60)) 12 a 1) 14 a 1) 13 a 0) 6 a 0) 7 a 0) 8 a 0 else α
def sx_ld (w : Nat → Int32) : Nat → Int32 → Int32
  | 0, x => if 0 < x then x else 0
  | f + 1, x => if x < 0 then sx_ld w f (w (-1 - x).toNatClampNeg) else if 0 < x then x else 0
def sx_lead (α : sx_A) (a p : Nat) : Int32 := sx_ld (fun j => α 10 (60 * a + j)) 4 (α 10 (60 * a + p))
def sx_ok (n : Nat) (α : sx_A) (a : Nat) (p q : Int32) : Bool := !decide (α 12 a = 0) && (sx_has n p && sx_has n q)
def sx_may (n L : Nat) (α : sx_A) (a : Nat) (p q : Int32) : Int32 := bif sx_ok n α a p q then (bif decide (α 6 a = nI L) then -9 else 0) else -1
def sx_mayB (n L : Nat) (α : sx_A) (a : Nat) (p q : Int32) : Bool := sx_ok n α a p q && !decide (α 6 a = nI L)
def sx_mayS (n L : Nat) (α : sx_A) (a : Nat) (p q : Int32) : sx_A := bif sx_ok n α a p q then (bif decide (α 6 a = nI L) then sx_st α 13 a 1 else sx_st α 6 a (α 6 a + 1)) else α
def sx_nt (α : sx_A) (a p : Nat) : Bool := sx_any (fun k => decide (α 9 (60 * a + k) = nI p)) (sx_tN α a)
def sx_openA (n L : Nat) (α : sx_A) (a : Nat) (p : Int32) : Int32 := bif sx_mayB n L α a p 0 then sx_lead α a p.toNatClampNeg else sx_may n L α a p 0
def sx_openS (n L : Nat) (α : sx_A) (a : Nat) (p : Int32) : sx_A := bif sx_mayB n L α a p 0 && !(decide (0 < sx_lead α a p.toNatClampNeg) || sx_nt α a p.toNatClampNeg) then sx_st (sx_st (sx_st α 6 a (α 6 a + 1)) 9 (60 * a + sx_tN α a) p) 8 a (α 8 a + 1) else sx_mayS n L α a p 0
def sx_inW (n : Nat) (α : sx_A) (a p : Nat) : Bool := sx_any (fun k => (Nat.blt 0 k && !Nat.beq k p) && (!decide (α 10 (60 * a + k) = 0) && (sx_U (α 1) k p || sx_U (α 1) p k))) n
def sx_ref (sb : Bool) (α : sx_A) (a : Nat) : sx_A := sx_st (sx_st α 7 a (α 7 a + 1)) 13 a (sx_bI (!decide (α 13 a = 0) || sb))
def sx_do (n L : Nat) (sb : Bool) (α : sx_A) (a : Nat) (p q : Int32) (ok : Bool) (v : Int32) : sx_A := bif sx_mayB n L α a p q then (bif ok then sx_st (sx_st α 6 a (α 6 a + 1)) 10 (60 * a + p.toNatClampNeg) v else sx_ref sb (sx_st α 6 a (α 6 a + 1)) a) else sx_mayS n L α a p q
def sx_doA (n L : Nat) (α : sx_A) (a : Nat) (p q : Int32) (ok : Bool) : Int32 := bif sx_mayB n L α a p q then sx_bI ok else sx_may n L α a p q
def sx_wrO (n : Nat) (α : sx_A) (a : Nat) (p c : Int32) : Bool := (sx_isW n α a p.toNatClampNeg && !sx_inW n α a p.toNatClampNeg) && !decide (c < 1)
def sx_lkO (n : Nat) (α : sx_A) (a : Nat) (p q : Int32) : Bool := (sx_isW n α a p.toNatClampNeg && !sx_inW n α a p.toNatClampNeg) && (sx_isW n α a q.toNatClampNeg || sx_isD α a false q.toNatClampNeg)
def sx_rmO (n : Nat) (α : sx_A) (a : Nat) (p : Int32) : Bool := sx_isW n α a p.toNatClampNeg && !decide (α 10 (60 * a + p.toNatClampNeg) = 0)
def sx_hu (n : Nat) (α : sx_A) (a o : Nat) : Bool := sx_any (fun k => Nat.blt 0 k && (!decide (α 10 (60 * a + k) = 0) && sx_U (α 1) k o)) n
def sx_lq (n : Nat) (α : sx_A) (a : Nat) (p : Int32) (c : Nat) : Bool := !decide (sx_ch α p (nI c) n = -1) && sx_hu n α a (sx_ch α p (nI c) n).toNatClampNeg
def sx_pick (q : Nat → Bool) : Nat → Nat → Int32 → Int32
  | 0, _, _ => 0
  | m + 1, c, i => bif q c then (if i = 0 then nI c else sx_pick q m (c + 1) (i - 1)) else sx_pick q m (c + 1) i
def sx_listA (n L : Nat) (α : sx_A) (a : Nat) (p i : Int32) : Int32 := bif sx_mayB n L α a p 0 then sx_pick (sx_lq n α a p) 58 65 i else sx_may n L α a p 0
def sx_loose (n : Nat) (α : sx_A) (a o : Nat) : Bool := sx_any (fun p => Nat.blt 0 p && (decide (α 10 (60 * a + p) < 0) && (sx_U (α 1) p o && decide (sx_lead α a p = 0)))) n
def sx_fl (n : Nat) (α : sx_A) (a : Nat) : Nat → Nat → Nat → Int32
  | 0, _, _ => 0
  | m + 1, k, pl => bif decide (α 11 (12 * a + k) = 0) then sx_fl n α a m (k + 1) pl else (bif sx_hu n α a (sx_dp α a k) then (bif sx_loose n α a (sx_dp α a k) then -11 - 2 * nI pl else sx_fl n α a m (k + 1) (pl + 1)) else -10 - 2 * nI pl)
def sx_mk (n : Nat) (α : sx_A) (a q : Nat) : Bool := sx_any (fun k => Nat.blt 0 k && ((!decide (α 10 (60 * a + k) = 0) && sx_isD α a true k) && sx_U (α 1) k q)) n
def sx_low (c : Int32) : Int32 := if 65 ≤ c ∧ c ≤ 90 then c + 32 else c
def sx_cl (n : Nat) (α : sx_A) (a : Nat) : Bool := sx_any (fun p => Nat.blt 0 p && sx_any (fun k => Nat.blt 0 k && ((sx_mk n α a p && sx_mk n α a k) && (decide (α 1 p = α 1 k) && decide (sx_low (α 2 p) = sx_low (α 2 k))))) p) n
def sx_way (n : Nat) (α : sx_A) (a : Nat) : Bool := sx_any (fun p => Nat.blt 0 p && (sx_mk n α a p && (decide (0 < α 3 p) && !sx_isD α a true p))) n
def sx_cm (n : Nat) (α : sx_A) (a p : Nat) : Bool := (Nat.blt 0 p && Nat.blt p n) && sx_isD α a true p
def sx_finC (n : Nat) (α : sx_A) (a : Nat) : Int32 := nI (sx_cnt (fun p => sx_cm n α a p && decide (0 < sx_lead α a p)) n)
def sx_finA (n : Nat) (α : sx_A) (a : Nat) (failed : Bool) : Int32 := bif decide (α 12 a = 0) then -1 else bif failed then 0 else bif !decide (α 13 a = 0) then -2 else bif !decide (sx_fl n α a (sx_dN α a) 0 0 = 0) then sx_fl n α a (sx_dN α a) 0 0 else bif sx_cl n α a then -3 else bif sx_way n α a then -4 else sx_finC n α a
def sx_finO (n : Nat) (α : sx_A) (a : Nat) (failed : Bool) : Bool := (!failed && decide (α 13 a = 0)) && (decide (sx_fl n α a (sx_dN α a) 0 0 = 0) && (!sx_cl n α a && !sx_way n α a))
def sx_srow (n : Nat) (α : sx_A) (a m : Nat) : Nat → Int32 := fun p => bif Nat.blt p m && sx_cm n α a p then sx_lead α a p else α 3 p
def sx_finS (n : Nat) (α : sx_A) (a : Nat) (failed : Bool) : sx_A := bif decide (α 12 a = 0) then α else sx_st (bif sx_finO n α a failed then sx_row α 3 (sx_srow n α a n) else α) 12 a 0
def sx_triA (α : sx_A) (a : Nat) (i : Int32) : Int32 := bif sx_has (sx_tN α a) i then α 9 (60 * a + i.toNatClampNeg) else -1
def sx_aboA (α : sx_A) (a : Nat) (w : Int32) : Int32 := if w = 0 then (bif decide (α 12 a = 0) then 0 else 1) else bif decide (α 14 a = 0) then -1 else if w = 1 then α 6 a else if w = 2 then α 7 a else if w = 3 then (bif decide (α 13 a = 0) then 0 else 1) else -1
end
section
/-! What always holds of the tables. -/
def sx_ACT (n L : Nat) (α : sx_A) (a : Nat) : Prop :=
  (∃ d, d ≤ 12 ∧ α 4 a = nI d ∧ ∀ k, k < d → ∃ p, 1 ≤ p ∧ p < n ∧ α 5 (12 * a + k) = nI p) ∧
  (∀ k, k < 12 → ∃ b, α 11 (12 * a + k) = sx_bI b) ∧
  (∃ o, o ≤ L ∧ α 6 a = nI o) ∧
  (∃ t, t ≤ 60 ∧ α 8 a = nI t ∧ (∀ k, k < t → ∃ p, p < n ∧ α 9 (60 * a + k) = nI p) ∧ ∀ i k, i < t → k < t → α 9 (60 * a + i) = α 9 (60 * a + k) → i = k) ∧
  (∀ j, j < 60 → (α 10 (60 * a + j) < 0 → ∃ q, q < n ∧ α 10 (60 * a + j) = -1 - nI q) ∧ (j = 0 ∨ n ≤ j → α 10 (60 * a + j) = 0)) ∧
  (∃ b, α 12 a = sx_bI b) ∧ (∃ b, α 13 a = sx_bI b) ∧ ∃ b, α 14 a = sx_bI b
def sx_FR (α : sx_A) (a : Nat) : Prop :=
  (α 4 a = 0 ∧ α 6 a = 0 ∧ α 7 a = 0 ∧ α 8 a = 0 ∧ α 12 a = 0 ∧ α 13 a = 0 ∧ α 14 a = 0) ∧ (∀ k, k < 12 → α 5 (12 * a + k) = 0 ∧ α 11 (12 * a + k) = 0) ∧ ∀ j, j < 60 → α 9 (60 * a + j) = 0 ∧ α 10 (60 * a + j) = 0
/-- the two tables say the same of an action -/
def sx_AG (α α' : sx_A) (a : Nat) : Prop :=
  (α' 4 a = α 4 a ∧ α' 6 a = α 6 a ∧ α' 7 a = α 7 a ∧ α' 8 a = α 8 a ∧ α' 12 a = α 12 a ∧ α' 13 a = α 13 a ∧ α' 14 a = α 14 a) ∧ (∀ k, k < 12 → α' 5 (12 * a + k) = α 5 (12 * a + k) ∧ α' 11 (12 * a + k) = α 11 (12 * a + k)) ∧ ∀ j, j < 60 → α' 9 (60 * a + j) = α 9 (60 * a + j) ∧ α' 10 (60 * a + j) = α 10 (60 * a + j)
def sx_LT (n : Nat) (α : sx_A) : Prop := ∀ k, 1 ≤ k → k < n → sx_isL (α 2 k) = true
def sx_DI (n : Nat) (α : sx_A) : Prop := ∀ i k, 1 ≤ i → i < n → 1 ≤ k → k < n → α 1 i = α 1 k → α 2 i = α 2 k → i = k
def sx_SR (n : Nat) (s : Nat → Int32) : Prop := (∀ j, ¬ s j < 0) ∧ s 0 = 0 ∧ ∀ j, n ≤ j → s j = 0
def sx_INV (n na L : Nat) (α : sx_A) : Prop := ((1 ≤ n ∧ n ≤ 60) ∧ na ≤ 10 ∧ 1 ≤ L ∧ L ≤ 500) ∧ sx_PO n (α 1) ∧ sx_LT n α ∧ sx_DI n α ∧ sx_SR n (α 3) ∧ (∀ a, a < 10 → sx_ACT n L α a) ∧ ∀ a, na ≤ a → a < 10 → sx_FR α a
theorem sx_ACT_ag {n n' L : Nat} {α α' : sx_A} {a : Nat} (hn : n ≤ n') (hw : ∀ j, j < 60 → n' ≤ j → α 10 (60 * a + j) = 0) (g : sx_AG α α' a) (h : sx_ACT n L α a) : sx_ACT n' L α' a := by
  obtain ⟨⟨g4, g6, g7, g8, g12, g13, g14⟩, gk, gj⟩ := g
  obtain ⟨⟨d, d1, d2, d3⟩, hk, ⟨o, o1, o2⟩, ⟨t, t1, t2, t3, t4⟩, hj, ⟨b1, e1⟩, ⟨b2, e2⟩, ⟨b3, e3⟩⟩ := h
  refine ⟨⟨d, d1, by rw [g4, d2], fun k hk => ?_⟩, fun k h => ?_, ⟨o, o1, by rw [g6, o2]⟩, ⟨t, t1, by rw [g8, t2], fun k h => ?_, fun i k hi hk e => ?_⟩, fun j h => ⟨fun z => ?_, fun z => ?_⟩, ⟨b1, by rw [g12, e1]⟩, ⟨b2, by rw [g13, e2]⟩, ⟨b3, by rw [g14, e3]⟩⟩
  · obtain ⟨p, p1, p2, p3⟩ := d3 k hk
    exact ⟨p, p1, by omega, by rw [(gk k (by omega)).1, p3]⟩
  · obtain ⟨b, e⟩ := hk k h
    exact ⟨b, by rw [(gk k h).2, e]⟩
  · obtain ⟨p, p1, p2⟩ := t3 k h
    exact ⟨p, by omega, by rw [(gj k (by omega)).1, p2]⟩
  · rw [(gj i (by omega)).1, (gj k (by omega)).1] at e
    exact t4 i k hi hk e
  · rw [(gj j h).2] at z ⊢
    obtain ⟨q, q1, q2⟩ := (hj j h).1 z
    exact ⟨q, by omega, q2⟩
  · rw [(gj j h).2]
    rcases z with z | z
    · exact (hj j h).2 (Or.inl z)
    · exact hw j h z
theorem sx_FR_ag {α α' : sx_A} {a : Nat} (g : sx_AG α α' a) (h : sx_FR α a) : sx_FR α' a := by
  obtain ⟨⟨g4, g6, g7, g8, g12, g13, g14⟩, gk, gj⟩ := g
  obtain ⟨⟨h4, h6, h7, h8, h12, h13, h14⟩, hk, hj⟩ := h
  exact ⟨⟨by rw [g4, h4], by rw [g6, h6], by rw [g7, h7], by rw [g8, h8], by rw [g12, h12], by rw [g13, h13], by rw [g14, h14]⟩, fun k h => ⟨by rw [(gk k h).1, (hk k h).1], by rw [(gk k h).2, (hk k h).2]⟩, fun j h => ⟨by rw [(gj j h).1, (hj j h).1], by rw [(gj j h).2, (hj j h).2]⟩⟩
theorem sx_AG_rf (α : sx_A) (a : Nat) : sx_AG α α a := ⟨⟨rfl, rfl, rfl, rfl, rfl, rfl, rfl⟩, fun _ _ => ⟨rfl, rfl⟩, fun _ _ => ⟨rfl, rfl⟩⟩
theorem sx_AG_tr {α β γ : sx_A} {a : Nat} (g : sx_AG α β a) (h : sx_AG β γ a) : sx_AG α γ a := by
  obtain ⟨⟨g4, g6, g7, g8, g12, g13, g14⟩, gk, gj⟩ := g
  obtain ⟨⟨h4, h6, h7, h8, h12, h13, h14⟩, hk, hj⟩ := h
  exact ⟨⟨h4.trans g4, h6.trans g6, h7.trans g7, h8.trans g8, h12.trans g12, h13.trans g13, h14.trans g14⟩, fun k z => ⟨(hk k z).1.trans (gk k z).1, (hk k z).2.trans (gk k z).2⟩, fun j z => ⟨(hj j z).1.trans (gj j z).1, (hj j z).2.trans (gj j z).2⟩⟩
/-- a write at one place of one table: which places of an action it leaves -/
theorem sx_AG_st {α : sx_A} {i x a : Nat} {v : Int32} (h1 : i = 4 ∨ i = 6 ∨ i = 7 ∨ i = 8 ∨ i = 12 ∨ i = 13 ∨ i = 14 → x ≠ a) (h2 : i = 5 ∨ i = 11 → ∀ k, k < 12 → x ≠ 12 * a + k) (h3 : i = 9 ∨ i = 10 → ∀ j, j < 60 → x ≠ 60 * a + j) : sx_AG α (sx_st α i x v) a := by
  have key : ∀ (r q : Nat), (i = r → x ≠ q) → sx_st α i x v r q = α r q := by
    intro r q h
    by_cases e : r = i
    · subst e
      rw [sx_st_eq]
      exact pk_un (fun z => h rfl z.symm)
    · rw [sx_st_ne e]
  exact ⟨⟨key 4 a (fun e => h1 (by omega)), key 6 a (fun e => h1 (by omega)), key 7 a (fun e => h1 (by omega)), key 8 a (fun e => h1 (by omega)), key 12 a (fun e => h1 (by omega)), key 13 a (fun e => h1 (by omega)), key 14 a (fun e => h1 (by omega))⟩,
    fun k h => ⟨key 5 _ (fun e => h2 (by omega) k h), key 11 _ (fun e => h2 (by omega) k h)⟩, fun j h => ⟨key 9 _ (fun e => h3 (by omega) j h), key 10 _ (fun e => h3 (by omega) j h)⟩⟩
/-- a write of action b's leaves the others -/
theorem sx_AG_one {α : sx_A} {i x a b : Nat} {v : Int32} (hab : a ≠ b) (h1 : i = 4 ∨ i = 6 ∨ i = 7 ∨ i = 8 ∨ i = 12 ∨ i = 13 ∨ i = 14 → x = b) (h2 : i = 5 ∨ i = 11 → ∃ k, k < 12 ∧ x = 12 * b + k) (h3 : i = 9 ∨ i = 10 → ∃ j, j < 60 ∧ x = 60 * b + j) : sx_AG α (sx_st α i x v) a := by
  refine sx_AG_st (fun e => ?_) (fun e k hk => ?_) (fun e j hj => ?_)
  · have q := h1 e; clear h1 h2 h3; omega
  · obtain ⟨z, z1, z2⟩ := h2 e; clear h1 h2 h3; omega
  · obtain ⟨z, z1, z2⟩ := h3 e; clear h1 h2 h3; omega
theorem sx_row_eq {α : sx_A} {i : Nat} {f : Nat → Int32} : sx_row α i f i = f := by
  have h : Nat.beq i i = true := Nat.beq_refl i
  simp only [sx_row, h, cond_true]
theorem sx_row_ne {α : sx_A} {i k : Nat} {f : Nat → Int32} (h : k ≠ i) : sx_row α i f k = α k := by
  have hb : Nat.beq k i = false := by
    cases hq : Nat.beq k i with
    | false => rfl
    | true => exact absurd (Nat.eq_of_beq_eq_true hq) h
  simp only [sx_row, hb, cond_false]
/-- the parts that only path and the source's calls change are as they were -/
theorem sx_INV_act {n na L : Nat} {α α' : sx_A} {a : Nat} (h : sx_INV n na L α) (ha : a < na) (e1 : α' 1 = α 1) (e2 : α' 2 = α 2) (e3 : sx_SR n (α' 3)) (g : ∀ b, b ≠ a → b < 10 → sx_AG α α' b) (hA : sx_ACT n L α' a) : sx_INV n na L α' := by
  obtain ⟨h0, h1, h2, h3, h4, h5, h6⟩ := h
  refine ⟨h0, by rw [e1]; exact h1, fun k a b => by rw [e2]; exact h2 k a b, fun i k a b c d x y => by rw [e1] at x; rw [e2] at y; exact h3 i k a b c d x y, e3, fun b hb => ?_, fun b hb hb2 => sx_FR_ag (g b (by omega) hb2) (h6 b hb hb2)⟩
  by_cases e : b = a
  · subst e; exact hA
  · exact sx_ACT_ag (Nat.le_refl n) (fun j z1 z2 => ((h5 b hb).2.2.2.2.1 j z1).2 (Or.inr z2)) (g b e hb) (h5 b hb)
end
section
/-! The invariant is kept by every call. -/
theorem sx_at {α : sx_A} {i x : Nat} {v : Int32} : sx_st α i x v i x = v := by rw [sx_st_eq]; exact pk_us
theorem sx_off {α : sx_A} {i x y : Nat} {v : Int32} (h : y ≠ x) : sx_st α i x v i y = α i y := by rw [sx_st_eq]; exact pk_un h
theorem sx_ACT_6 {n L o : Nat} {α : sx_A} {a : Nat} (h : sx_ACT n L α a) (ho : o ≤ L) : sx_ACT n L (sx_st α 6 a (nI o)) a := ⟨h.1, h.2.1, ⟨o, ho, sx_at⟩, h.2.2.2.1, h.2.2.2.2.1, h.2.2.2.2.2.1, h.2.2.2.2.2.2.1, h.2.2.2.2.2.2.2⟩
theorem sx_ACT_7 {n L : Nat} {α : sx_A} {a : Nat} {v : Int32} (h : sx_ACT n L α a) : sx_ACT n L (sx_st α 7 a v) a := ⟨h.1, h.2.1, h.2.2.1, h.2.2.2.1, h.2.2.2.2.1, h.2.2.2.2.2.1, h.2.2.2.2.2.2.1, h.2.2.2.2.2.2.2⟩
theorem sx_ACT_12 {n L : Nat} {α : sx_A} {a : Nat} {b : Bool} (h : sx_ACT n L α a) : sx_ACT n L (sx_st α 12 a (sx_bI b)) a := ⟨h.1, h.2.1, h.2.2.1, h.2.2.2.1, h.2.2.2.2.1, ⟨b, sx_at⟩, h.2.2.2.2.2.2.1, h.2.2.2.2.2.2.2⟩
theorem sx_ACT_13 {n L : Nat} {α : sx_A} {a : Nat} {b : Bool} (h : sx_ACT n L α a) : sx_ACT n L (sx_st α 13 a (sx_bI b)) a := ⟨h.1, h.2.1, h.2.2.1, h.2.2.2.1, h.2.2.2.2.1, h.2.2.2.2.2.1, ⟨b, sx_at⟩, h.2.2.2.2.2.2.2⟩
theorem sx_ACT_14 {n L : Nat} {α : sx_A} {a : Nat} {b : Bool} (h : sx_ACT n L α a) : sx_ACT n L (sx_st α 14 a (sx_bI b)) a := ⟨h.1, h.2.1, h.2.2.1, h.2.2.2.1, h.2.2.2.2.1, h.2.2.2.2.2.1, h.2.2.2.2.2.2.1, ⟨b, sx_at⟩⟩
theorem sx_ACT_80 {n L : Nat} {α : sx_A} {a : Nat} (h : sx_ACT n L α a) : sx_ACT n L (sx_st α 8 a 0) a := ⟨h.1, h.2.1, h.2.2.1, ⟨0, by omega, sx_at, fun k hk => absurd hk (Nat.not_lt_zero k), fun i k hi => absurd hi (Nat.not_lt_zero i)⟩, h.2.2.2.2.1, h.2.2.2.2.2.1, h.2.2.2.2.2.2.1, h.2.2.2.2.2.2.2⟩
theorem sx_ACT_10 {n L p : Nat} {α : sx_A} {a : Nat} {v : Int32} (h : sx_ACT n L α a) (hp : 1 ≤ p) (hpn : p < n) (hv : v < 0 → ∃ q, q < n ∧ v = -1 - nI q) : sx_ACT n L (sx_st α 10 (60 * a + p) v) a := by
  refine ⟨h.1, h.2.1, h.2.2.1, h.2.2.2.1, fun j hj => ?_, h.2.2.2.2.2.1, h.2.2.2.2.2.2.1, h.2.2.2.2.2.2.2⟩
  by_cases e : j = p
  · subst e
    rw [sx_at]
    exact ⟨hv, fun z => by omega⟩
  · rw [sx_off (show 60 * a + j ≠ 60 * a + p by omega)]
    exact h.2.2.2.2.1 j hj
theorem sx_nI_inj {i k : Nat} (hi : i < 2 ^ 31) (hk : k < 2 ^ 31) (h : nI i = nI k) : i = k := (nI_eq hi hk).mp h
/-- so many different numbers below m are at most m -/
theorem sx_pigeon : ∀ (m t : Nat) (f : Nat → Nat), (∀ i, i < t → f i < m) → (∀ i k, i < t → k < t → f i = f k → i = k) → t ≤ m := by
  intro m
  induction m with
  | zero =>
    intro t f h _
    cases t with
    | zero => exact Nat.le_refl 0
    | succ t => exact absurd (h 0 (by omega)) (Nat.not_lt_zero _)
  | succ m ih =>
    intro t f h hi
    by_cases e : ∃ k, k < t ∧ f k = m
    · obtain ⟨k, k1, k2⟩ := e
      cases t with
      | zero => omega
      | succ t =>
        have := ih t (fun i => if i < k then f i else f (i + 1)) (fun i hit => by
            by_cases c : i < k
            · simp only [c, if_true]
              have a1 := h i (by omega)
              have a2 : f i ≠ m := fun z => by have := hi i k (by omega) k1 (z.trans k2.symm); omega
              omega
            · simp only [c, if_false]
              have a1 := h (i + 1) (by omega)
              have a2 : f (i + 1) ≠ m := fun z => by have := hi (i + 1) k (by omega) k1 (z.trans k2.symm); omega
              omega) (fun i j hit hjt z => by
            by_cases c : i < k <;> by_cases d : j < k <;> simp only [c, d, if_true, if_false] at z
            · exact hi i j (by omega) (by omega) z
            · have := hi i (j + 1) (by omega) (by omega) z; omega
            · have := hi (i + 1) j (by omega) (by omega) z; omega
            · have := hi (i + 1) (j + 1) (by omega) (by omega) z; omega)
        omega
    · have := ih t f (fun i hit => by
        have a1 := h i hit
        have a2 : f i ≠ m := fun z => e ⟨i, hit, z⟩
        omega) hi
      omega
/-- a path that isn't noted yet can be noted: there is room -/
theorem sx_room {n L : Nat} {α : sx_A} {a p : Nat} (hn : n ≤ 60) (h : sx_ACT n L α a) (hp : p < n) (hq : sx_nt α a p = false) : sx_tN α a < 60 := by
  obtain ⟨t, t1, t2, t3, t4⟩ := h.2.2.2.1
  have ht : sx_tN α a = t := by unfold sx_tN; rw [t2, nI_clamp (by omega)]
  unfold sx_nt at hq
  rw [ht] at hq ⊢
  rw [sx_any_f] at hq
  have := sx_pigeon n (t + 1) (fun i => if i < t then (α 9 (60 * a + i)).toNatClampNeg else p) (fun i hi => by
      by_cases c : i < t
      · simp only [c, if_true]
        obtain ⟨q, q1, q2⟩ := t3 i c
        rw [q2, nI_clamp (by omega)]; exact q1
      · simp only [c, if_false]; exact hp) (fun i k hi hk z => by
      by_cases c : i < t <;> by_cases d : k < t <;> simp only [c, d, if_true, if_false] at z
      · obtain ⟨q, q1, q2⟩ := t3 i c
        obtain ⟨r, r1, r2⟩ := t3 k d
        rw [q2, r2, nI_clamp (by omega), nI_clamp (by omega)] at z
        exact t4 i k c d (by rw [q2, r2, z])
      · obtain ⟨q, q1, q2⟩ := t3 i c
        rw [q2, nI_clamp (by omega)] at z
        have := hq i c
        rw [q2, z] at this
        simp at this
      · obtain ⟨q, q1, q2⟩ := t3 k d
        rw [q2, nI_clamp (by omega)] at z
        have := hq k d
        rw [q2, ← z] at this
        simp at this
      · omega)
  omega
theorem sx_ACT_9 {n L p : Nat} {α : sx_A} {a : Nat} (hn : n ≤ 60) (h : sx_ACT n L α a) (hp : p < n) (hq : sx_nt α a p = false) : sx_ACT n L (sx_st (sx_st α 9 (60 * a + sx_tN α a) (nI p)) 8 a (α 8 a + 1)) a := by
  have hr := sx_room hn h hp hq
  obtain ⟨t, t1, t2, t3, t4⟩ := h.2.2.2.1
  have ht : sx_tN α a = t := by unfold sx_tN; rw [t2, nI_clamp (by omega)]
  unfold sx_nt at hq
  rw [ht] at hq hr ⊢
  rw [sx_any_f] at hq
  have e9 : ∀ k, (sx_st (sx_st α 9 (60 * a + t) (nI p)) 8 a (α 8 a + 1)) 9 k = sx_st α 9 (60 * a + t) (nI p) 9 k := fun k => rfl
  refine ⟨h.1, h.2.1, h.2.2.1, ⟨t + 1, by omega, by rw [sx_at, t2, nI_1], fun k hk => ?_, fun i k hi hk z => ?_⟩, h.2.2.2.2.1, h.2.2.2.2.2.1, h.2.2.2.2.2.2.1, h.2.2.2.2.2.2.2⟩
  · rw [e9]
    by_cases e : k = t
    · subst e; exact ⟨p, hp, sx_at⟩
    · rw [sx_off (by omega)]; exact t3 k (by omega)
  · rw [e9, e9] at z
    by_cases c : i = t <;> by_cases d : k = t
    · omega
    · subst c
      rw [sx_at, sx_off (by omega)] at z
      have := hq k (by omega)
      rw [← z] at this
      simp at this
    · subst d
      rw [sx_at, sx_off (by omega)] at z
      have := hq i (by omega)
      rw [z] at this
      simp at this
    · rw [sx_off (by omega), sx_off (by omega)] at z
      exact t4 i k (by omega) (by omega) z
theorem sx_INV_n {n na L : Nat} {α : sx_A} (h : sx_INV n na L α) : n < 2 ^ 31 := by have := h.1.1.2; omega
theorem sx_U0 {n : Nat} {par : Nat → Int32} (h : sx_PO n par) (hn : n < 2 ^ 31) {a : Nat} (h0 : 0 < n) (ha : 1 ≤ a) : sx_U par 0 a = false := by
  cases e : sx_U par 0 a with
  | false => rfl
  | true => have := sx_U_le h hn 0 h0 e; omega
theorem sx_dp_ok {n L : Nat} {α : sx_A} {a k : Nat} (hn : n < 2 ^ 31) (h : sx_ACT n L α a) (hk : k < sx_dN α a) : 1 ≤ sx_dp α a k ∧ sx_dp α a k < n ∧ α 5 (12 * a + k) = nI (sx_dp α a k) := by
  obtain ⟨d, d1, d2, d3⟩ := h.1
  have hd : sx_dN α a = d := by unfold sx_dN; rw [d2, nI_clamp (by omega)]
  obtain ⟨p, p1, p2, p3⟩ := d3 k (by omega)
  unfold sx_dp
  rw [p3, nI_clamp (by omega)]
  exact ⟨p1, p2, rfl⟩
theorem sx_dN_ok {n L : Nat} {α : sx_A} {a : Nat} (h : sx_ACT n L α a) : sx_dN α a ≤ 12 ∧ α 4 a = nI (sx_dN α a) := by
  obtain ⟨d, d1, d2, d3⟩ := h.1
  have hd : sx_dN α a = d := by unfold sx_dN; rw [d2, nI_clamp (by omega)]
  rw [hd]; exact ⟨d1, d2⟩
theorem sx_tN_ok {n L : Nat} {α : sx_A} {a : Nat} (h : sx_ACT n L α a) : sx_tN α a ≤ 60 ∧ α 8 a = nI (sx_tN α a) := by
  obtain ⟨d, d1, d2, d3⟩ := h.2.2.2.1
  have hd : sx_tN α a = d := by unfold sx_tN; rw [d2, nI_clamp (by omega)]
  rw [hd]; exact ⟨d1, d2⟩
theorem sx_isD0 {n L : Nat} {α : sx_A} {a : Nat} {o : Bool} (h1 : sx_PO n (α 1)) (hn : n < 2 ^ 31) (h0 : 0 < n) (h : sx_ACT n L α a) : sx_isD α a o 0 = false := by
  unfold sx_isD
  rw [sx_any_f]
  intro k hk
  rw [sx_U0 h1 hn h0 (sx_dp_ok hn h hk).1, Bool.and_false]
theorem sx_ch_ok {α : sx_A} {p c : Int32} : ∀ m, m < 2 ^ 31 → (sx_ch α p c m = -1 ∧ (∀ k, 0 < k → k < m → ¬ (α 1 k = p ∧ α 2 k = c))) ∨ ∃ k, 0 < k ∧ k < m ∧ α 1 k = p ∧ α 2 k = c ∧ sx_ch α p c m = nI k := by
  intro m
  induction m with
  | zero => exact fun _ => Or.inl ⟨rfl, fun k _ h => absurd h (Nat.not_lt_zero k)⟩
  | succ m ih =>
    intro hm
    by_cases e : 0 < m ∧ α 1 m = p ∧ α 2 m = c
    · exact Or.inr ⟨m, e.1, by omega, e.2.1, e.2.2, by simp only [sx_ch, if_pos e]⟩
    · have e2 : sx_ch α p c (m + 1) = sx_ch α p c m := by simp only [sx_ch, if_neg e]
      rw [e2]
      rcases ih (by omega) with ⟨a, b⟩ | ⟨k, a, b, c1, d, f⟩
      · refine Or.inl ⟨a, fun k h1 h2 => ?_⟩
        by_cases q : k = m
        · subst q; exact fun z => e ⟨h1, z⟩
        · exact b k h1 (by omega)
      · exact Or.inr ⟨k, a, by omega, c1, d, f⟩
theorem sx_nI_m1 {k : Nat} (h : k < 2 ^ 31) : nI k ≠ -1 := by
  intro e
  have := congrArg Int32.toInt e
  rw [nI_toInt h] at this
  have h2 : (-1 : Int32).toInt = -1 := by decide
  omega
theorem sx_z0 {n L : Nat} {α : sx_A} {a : Nat} (h1 : sx_PO n (α 1)) (hn : n < 2 ^ 31) (h0 : 0 < n) (h : sx_ACT n L α a) : sx_isW n α a 0 = false := by
  unfold sx_isW
  rw [sx_isD0 h1 hn h0 h, Bool.false_or]
  rcases sx_ch_ok (α := α) (p := 0) (c := 122) n hn with ⟨e, _⟩ | ⟨k, k1, k2, _, _, e⟩
  · have : sx_z n α = -1 := e
    rw [this]; rfl
  · have : sx_z n α = nI k := e
    rw [this, nI_clamp (by omega), sx_U0 h1 hn h0 k1]
    simp
end
section
theorem sx_AG_s {α : sx_A} {i a b : Nat} {v : Int32} (hab : b ≠ a) (hi : i ≠ 5 ∧ i ≠ 11 ∧ i ≠ 9 ∧ i ≠ 10) : sx_AG α (sx_st α i a v) b := sx_AG_one hab (fun _ => rfl) (fun e => by omega) (fun e => by omega)
theorem sx_AG_k {α : sx_A} {i a b k : Nat} {v : Int32} (hab : b ≠ a) (hk : k < 12) (hi : i = 5 ∨ i = 11) : sx_AG α (sx_st α i (12 * a + k) v) b := sx_AG_one hab (fun e => by omega) (fun _ => ⟨k, hk, rfl⟩) (fun e => by omega)
theorem sx_AG_j {α : sx_A} {i a b j : Nat} {v : Int32} (hab : b ≠ a) (hj : j < 60) (hi : i = 9 ∨ i = 10) : sx_AG α (sx_st α i (60 * a + j) v) b := sx_AG_one hab (fun e => by omega) (fun e => by omega) (fun _ => ⟨j, hj, rfl⟩)
theorem sx_INV_A {n na L : Nat} {α : sx_A} {a : Nat} (h : sx_INV n na L α) (ha : a < na) : sx_ACT n L α a := h.2.2.2.2.2.1 a (by have := h.1.2.1; omega)
theorem sx_op_lt {n na L : Nat} {α : sx_A} {a : Nat} (h : sx_INV n na L α) (ha : a < na) (e : ¬ α 6 a = nI L) : ∃ o, o < L ∧ α 6 a = nI o := by
  obtain ⟨o, o1, o2⟩ := (sx_INV_A h ha).2.2.1
  refine ⟨o, ?_, o2⟩
  rcases Nat.lt_or_ge o L with q | q
  · exact q
  · rw [show o = L by omega] at o2
    exact absurd o2 e
theorem sx_ACT_op {n na L : Nat} {α : sx_A} {a : Nat} (h : sx_INV n na L α) (ha : a < na) (e : ¬ α 6 a = nI L) : sx_ACT n L (sx_st α 6 a (α 6 a + 1)) a := by
  obtain ⟨o, o1, o2⟩ := sx_op_lt h ha e
  rw [o2, nI_1]
  exact sx_ACT_6 (sx_INV_A h ha) o1
theorem sx_INV_op {n na L : Nat} {α : sx_A} {a : Nat} (h : sx_INV n na L α) (ha : a < na) (e : ¬ α 6 a = nI L) : sx_INV n na L (sx_st α 6 a (α 6 a + 1)) :=
  sx_INV_act h ha rfl rfl h.2.2.2.2.1 (fun b hb _ => sx_AG_s hb (by omega)) (sx_ACT_op h ha e)
theorem sx_INV_mayS {n na L : Nat} {α : sx_A} {a : Nat} {p q : Int32} (h : sx_INV n na L α) (ha : a < na) : sx_INV n na L (sx_mayS n L α a p q) := by
  unfold sx_mayS
  cases e1 : sx_ok n α a p q with
  | false => exact h
  | true =>
    by_cases e2 : α 6 a = nI L
    · rw [decide_eq_true e2]
      exact sx_INV_act h ha rfl rfl h.2.2.2.2.1 (fun b hb _ => sx_AG_s hb (by omega)) (sx_ACT_13 (b := true) (sx_INV_A h ha))
    · rw [decide_eq_false e2]
      exact sx_INV_op h ha e2
theorem sx_mayB_t {n L : Nat} {α : sx_A} {a : Nat} {p q : Int32} (h : sx_mayB n L α a p q = true) : (¬ α 12 a = 0) ∧ sx_has n p = true ∧ sx_has n q = true ∧ ¬ α 6 a = nI L := by
  simp only [sx_mayB, sx_ok, Bool.and_eq_true, Bool.not_eq_true', decide_eq_false_iff_not] at h
  exact ⟨h.1.1, h.1.2.1, h.1.2.2, h.2⟩
theorem sx_INV_do {n na L : Nat} {sb ok : Bool} {α : sx_A} {a : Nat} {p q v : Int32} (h : sx_INV n na L α) (ha : a < na) (hok : ok = true → sx_isW n α a p.toNatClampNeg = true) (hv : sx_mayB n L α a p q = true → ok = true → v < 0 → ∃ k, k < n ∧ v = -1 - nI k) : sx_INV n na L (sx_do n L sb α a p q ok v) := by
  have hn := sx_INV_n h
  unfold sx_do
  cases e1 : sx_mayB n L α a p q with
  | false => exact sx_INV_mayS h ha
  | true =>
    obtain ⟨m1, m2, m3, m4⟩ := sx_mayB_t e1
    have h1 := sx_INV_op h ha m4
    cases e2 : ok with
    | false =>
      refine sx_INV_act h1 ha rfl rfl h1.2.2.2.2.1 (fun b hb _ => sx_AG_tr (sx_AG_s hb (by omega)) (sx_AG_s hb (by omega))) ?_
      exact sx_ACT_13 (sx_ACT_7 (sx_INV_A h1 ha))
    | true =>
      obtain ⟨j, j1, rfl⟩ := sx_has_t hn m2
      have hj := hok e2
      rw [nI_clamp (by omega)] at hj
      have hj0 : 1 ≤ j := by
        rcases Nat.eq_zero_or_pos j with z | z
        · subst z
          rw [sx_z0 h.2.1 hn (by omega) (sx_INV_A h ha)] at hj
          cases hj
        · exact z
      show sx_INV n na L (sx_st (sx_st α 6 a (α 6 a + 1)) 10 (60 * a + (nI j).toNatClampNeg) v)
      rw [nI_clamp (by omega)]
      have := h.1.1.2
      exact sx_INV_act h1 ha rfl rfl h1.2.2.2.2.1 (fun b hb _ => sx_AG_j hb (by omega) (by omega)) (sx_ACT_10 (sx_INV_A h1 ha) hj0 j1 (hv e1 e2))
theorem sx_INV_write {n na L : Nat} {sb : Bool} {α : sx_A} {a : Nat} {p c : Int32} (h : sx_INV n na L α) (ha : a < na) : sx_INV n na L (sx_do n L sb α a p 0 (sx_wrO n α a p c) c) := by
  refine sx_INV_do h ha (fun e => ?_) (fun _ e z => ?_)
  · simp only [sx_wrO, Bool.and_eq_true] at e
    exact e.1.1
  · simp only [sx_wrO, Bool.and_eq_true, Bool.not_eq_true', decide_eq_false_iff_not] at e
    have e2 := e.2
    rw [Int32.lt_iff_toInt_lt] at e2 z
    have i1 : (1 : Int32).toInt = 1 := by decide
    have i0 : (0 : Int32).toInt = 0 := by decide
    omega
theorem sx_INV_link {n na L : Nat} {sb : Bool} {α : sx_A} {a : Nat} {p q : Int32} (h : sx_INV n na L α) (ha : a < na) : sx_INV n na L (sx_do n L sb α a p q (sx_lkO n α a p q) (-1 - q)) := by
  refine sx_INV_do h ha (fun e => ?_) (fun e _ _ => ?_)
  · simp only [sx_lkO, Bool.and_eq_true] at e
    exact e.1.1
  · obtain ⟨k, k1, rfl⟩ := sx_has_t (sx_INV_n h) (sx_mayB_t e).2.2.1
    exact ⟨k, k1, rfl⟩
theorem sx_INV_remove {n na L : Nat} {sb : Bool} {α : sx_A} {a : Nat} {p : Int32} (h : sx_INV n na L α) (ha : a < na) : sx_INV n na L (sx_do n L sb α a p 0 (sx_rmO n α a p) 0) := by
  refine sx_INV_do h ha (fun e => ?_) (fun _ _ z => absurd z (by decide))
  simp only [sx_rmO, Bool.and_eq_true] at e
  exact e.1
theorem sx_INV_open {n na L : Nat} {α : sx_A} {a : Nat} {p : Int32} (h : sx_INV n na L α) (ha : a < na) : sx_INV n na L (sx_openS n L α a p) := by
  have hn := sx_INV_n h
  unfold sx_openS
  cases e1 : sx_mayB n L α a p 0 with
  | false => exact sx_INV_mayS h ha
  | true =>
    cases e2 : (decide (0 < sx_lead α a p.toNatClampNeg) || sx_nt α a p.toNatClampNeg) with
    | true => exact sx_INV_mayS h ha
    | false =>
      obtain ⟨m1, m2, m3, m4⟩ := sx_mayB_t e1
      have h1 := sx_INV_op h ha m4
      obtain ⟨j, j1, rfl⟩ := sx_has_t hn m2
      simp only [Bool.or_eq_false_iff] at e2
      have e3 := e2.2
      rw [nI_clamp (by omega)] at e3
      have hn60 := h.1.1.2
      have hr : sx_tN α a < 60 := sx_room hn60 (sx_INV_A h ha) j1 e3
      exact sx_INV_act h1 ha rfl rfl h1.2.2.2.2.1 (fun b hb _ => sx_AG_tr (sx_AG_j hb hr (by omega)) (sx_AG_s hb (by omega))) (sx_ACT_9 hn60 (sx_INV_A h1 ha) j1 e3)
theorem sx_INV_dec {n na L : Nat} {α : sx_A} {a : Nat} {p : Int32} {o : Bool} (h : sx_INV n na L α) (ha : a < na) : sx_INV n na L (sx_decS n α a p o) := by
  have hn := sx_INV_n h
  have hA := sx_INV_A h ha
  obtain ⟨hd1, hd2⟩ := sx_dN_ok hA
  unfold sx_decS
  cases e : (sx_decO n α a p && !sx_decT α a p.toNatClampNeg) with
  | false => exact h
  | true =>
    simp only [sx_decO, Bool.and_eq_true, Bool.not_eq_true', decide_eq_false_iff_not] at e
    obtain ⟨⟨⟨e1, e2⟩, e3, -⟩, -⟩ := e
    obtain ⟨j, j1, rfl⟩ := sx_has_t hn e1
    have hj0 : 1 ≤ j := by
      rcases Nat.eq_zero_or_pos j with z | z
      · subst z; exact absurd rfl e2
      · exact z
    have hd : sx_dN α a < 12 := by
      rcases Nat.lt_or_ge (sx_dN α a) 12 with q | q
      · exact q
      · rw [show sx_dN α a = 12 by omega] at hd2
        exact absurd hd2 e3
    show sx_INV n na L (sx_st (sx_st (sx_st α 5 (12 * a + sx_dN α a) (nI j)) 11 (12 * a + sx_dN α a) (sx_bI o)) 4 a (α 4 a + 1))
    refine sx_INV_act h ha rfl rfl h.2.2.2.2.1 (fun b hb _ => sx_AG_tr (sx_AG_tr (sx_AG_k hb hd (by omega)) (sx_AG_k hb hd (by omega))) (sx_AG_s hb (by omega))) ?_
    generalize hdd : sx_dN α a = d at hd hd2 hd1 ⊢
    refine ⟨⟨d + 1, by omega, by rw [hd2, nI_1]; exact sx_at, fun k hk => ?_⟩, fun k hk => ?_, hA.2.2.1, hA.2.2.2.1, hA.2.2.2.2.1, hA.2.2.2.2.2.1, hA.2.2.2.2.2.2.1, hA.2.2.2.2.2.2.2⟩
    · show ∃ p, 1 ≤ p ∧ p < n ∧ sx_st α 5 (12 * a + d) (nI j) 5 (12 * a + k) = nI p
      by_cases c : k = d
      · subst c; exact ⟨j, hj0, j1, sx_at⟩
      · rw [sx_off (by omega)]
        obtain ⟨q1, q2, q3⟩ := sx_dp_ok hn hA (show k < sx_dN α a by omega)
        exact ⟨_, q1, q2, q3⟩
    · show ∃ b, sx_st (sx_st α 5 (12 * a + d) (nI j)) 11 (12 * a + d) (sx_bI o) 11 (12 * a + k) = sx_bI b
      by_cases c : k = d
      · subst c; exact ⟨o, sx_at⟩
      · rw [sx_off (by omega)]
        exact hA.2.1 k hk
theorem sx_nw_ok {n na L : Nat} {α : sx_A} {a p : Nat} (h : sx_INV n na L α) : ¬ sx_nw n α a p < 0 ∧ (p = 0 ∨ n ≤ p → sx_nw n α a p = 0) := by
  obtain ⟨s1, s2, s3⟩ := h.2.2.2.2.1
  unfold sx_nw
  cases e : (Nat.blt p n && sx_isD α a false p) with
  | false => exact ⟨(show ¬ (0 : Int32) < 0 by decide), fun _ => rfl⟩
  | true =>
    refine ⟨s1 p, fun z => ?_⟩
    rcases z with z | z
    · subst z; exact s2
    · exact s3 p z
theorem sx_INV_beg {n na L : Nat} {α : sx_A} {a : Nat} (h : sx_INV n na L α) (ha : a < na) : sx_INV n na L (sx_begS n α a) := by
  have hA := sx_INV_A h ha
  unfold sx_begS
  cases e : sx_begO n α a with
  | false => exact h
  | true =>
    have h10 : ∀ j, j < 60 → sx_wrow n α a 60 (60 * a + j) = sx_nw n α a j := by
      intro j hj
      have b1 : Nat.ble (60 * a) (60 * a + j) = true := Nat.ble_eq_true_of_le (by omega)
      have b2 : Nat.blt (60 * a + j) (60 * a + 60) = true := by simp only [Nat.blt]; exact Nat.ble_eq_true_of_le (by omega)
      simp only [sx_wrow, b1, b2, Bool.and_self, cond_true, Nat.add_sub_cancel_left]
    have hoth : ∀ b j, b ≠ a → j < 60 → sx_wrow n α a 60 (60 * b + j) = α 10 (60 * b + j) := by
      intro b j hb hj
      have b1 : (Nat.ble (60 * a) (60 * b + j) && Nat.blt (60 * b + j) (60 * a + 60)) = false := by
        cases c : (Nat.ble (60 * a) (60 * b + j) && Nat.blt (60 * b + j) (60 * a + 60)) with
        | false => rfl
        | true =>
          simp only [Bool.and_eq_true, Nat.blt] at c
          have c1 := Nat.le_of_ble_eq_true c.1
          have c2 := Nat.le_of_ble_eq_true c.2
          omega
      simp only [sx_wrow, b1, cond_false]
    have hrow : sx_ACT n L (sx_row α 10 (sx_wrow n α a 60)) a := by
      refine ⟨hA.1, hA.2.1, hA.2.2.1, hA.2.2.2.1, fun j hj => ?_, hA.2.2.2.2.2.1, hA.2.2.2.2.2.2.1, hA.2.2.2.2.2.2.2⟩
      show (sx_wrow n α a 60 (60 * a + j) < 0 → ∃ q, q < n ∧ sx_wrow n α a 60 (60 * a + j) = -1 - nI q) ∧ (j = 0 ∨ n ≤ j → sx_wrow n α a 60 (60 * a + j) = 0)
      rw [h10 j hj]
      exact ⟨fun z => absurd z (sx_nw_ok h).1, (sx_nw_ok h).2⟩
    have hag : ∀ b, b ≠ a → sx_AG α (sx_row α 10 (sx_wrow n α a 60)) b := fun b hb => ⟨⟨rfl, rfl, rfl, rfl, rfl, rfl, rfl⟩, fun _ _ => ⟨rfl, rfl⟩, fun j hj => ⟨rfl, hoth b j hb hj⟩⟩
    refine sx_INV_act h ha rfl rfl h.2.2.2.2.1 (fun b hb _ => sx_AG_tr (sx_AG_tr (sx_AG_tr (sx_AG_tr (sx_AG_tr (sx_AG_tr (hag b hb) (sx_AG_s hb (by omega))) (sx_AG_s hb (by omega))) (sx_AG_s hb (by omega))) (sx_AG_s hb (by omega))) (sx_AG_s hb (by omega))) (sx_AG_s hb (by omega))) ?_
    exact sx_ACT_80 (sx_ACT_7 (sx_ACT_6 (o := 0) (sx_ACT_13 (b := false) (sx_ACT_14 (b := true) (sx_ACT_12 (b := true) hrow))) (by omega)))
theorem sx_ld_ok (w : Nat → Int32) : ∀ (f : Nat) (x : Int32), ¬ sx_ld w f x < 0 := by
  intro f
  induction f with
  | zero =>
    intro x
    simp only [sx_ld]
    split
    · next h => exact fun z => Int32.lt_irrefl (Int32.lt_trans h z)
    · decide
  | succ f ih =>
    intro x
    simp only [sx_ld]
    split
    · exact ih _
    · split
      · next h => exact fun z => Int32.lt_irrefl (Int32.lt_trans h z)
      · decide
theorem sx_srow_ok {n na L : Nat} {α : sx_A} {a : Nat} (h : sx_INV n na L α) : sx_SR n (sx_srow n α a n) := by
  obtain ⟨s1, s2, s3⟩ := h.2.2.2.2.1
  refine ⟨fun j => ?_, ?_, fun j hj => ?_⟩
  · unfold sx_srow
    cases e : (Nat.blt j n && sx_cm n α a j) with
    | false => exact s1 j
    | true => exact sx_ld_ok _ _ _
  · unfold sx_srow sx_cm
    have : Nat.blt 0 0 = false := rfl
    simp only [this, Bool.false_and, Bool.and_false, cond_false]
    exact s2
  · unfold sx_srow
    have : Nat.blt j n = false := by
      cases c : Nat.blt j n with
      | false => rfl
      | true => have := Nat.le_of_ble_eq_true c; omega
    simp only [this, Bool.false_and, cond_false]
    exact s3 j hj
theorem sx_INV_fin {n na L : Nat} {α : sx_A} {a : Nat} {f : Bool} (h : sx_INV n na L α) (ha : a < na) : sx_INV n na L (sx_finS n α a f) := by
  have hA := sx_INV_A h ha
  unfold sx_finS
  cases e : decide (α 12 a = 0) with
  | true => exact h
  | false =>
    cases e2 : sx_finO n α a f with
    | false => exact sx_INV_act h ha rfl rfl h.2.2.2.2.1 (fun b hb _ => sx_AG_s hb (by omega)) (sx_ACT_12 (b := false) hA)
    | true =>
      have hrow : sx_ACT n L (sx_row α 3 (sx_srow n α a n)) a := hA
      exact sx_INV_act h ha rfl rfl (sx_srow_ok h) (fun b hb _ => sx_AG_tr (show sx_AG α (sx_row α 3 (sx_srow n α a n)) b from sx_AG_rf α b) (sx_AG_s hb (by omega))) (sx_ACT_12 (b := false) hrow)
theorem sx_INV_file {n na L : Nat} {α : sx_A} {p c : Int32} (h : sx_INV n na L α) : sx_INV n na L (sx_fileS n α p c) := by
  have hn := sx_INV_n h
  unfold sx_fileS
  cases e : sx_fileA n α p c with
  | false => exact h
  | true =>
    simp only [sx_fileA, Bool.and_eq_true, Bool.not_eq_true', decide_eq_false_iff_not] at e
    obtain ⟨⟨e1, e2, e3⟩, -⟩ := e
    obtain ⟨j, j1, rfl⟩ := sx_has_t hn e1
    rw [nI_clamp (by omega)]
    have hj0 : 1 ≤ j := by
      rcases Nat.eq_zero_or_pos j with z | z
      · subst z; exact absurd rfl e2
      · exact z
    obtain ⟨h0, h1, h2, h3, ⟨s1, s2, s3⟩, h5, h6⟩ := h
    refine ⟨h0, h1, h2, h3, ⟨fun i => ?_, ?_, fun i hi => ?_⟩, h5, h6⟩
    · by_cases z : i = j
      · subst z; show ¬ sx_st α 3 i c 3 i < 0; rw [sx_at]; exact e3
      · show ¬ sx_st α 3 j c 3 i < 0; rw [sx_off z]; exact s1 i
    · show sx_st α 3 j c 3 0 = 0; rw [sx_off (by omega)]; exact s2
    · show sx_st α 3 j c 3 i = 0; rw [sx_off (by omega)]; exact s3 i hi
theorem sx_INV_action {n na L : Nat} {α : sx_A} (h : sx_INV n na L α) : sx_INV n (sx_actN na) L α := by
  unfold sx_actN
  cases e : Nat.beq na 10 with
  | true => exact h
  | false =>
    have hne : na ≠ 10 := fun z => by subst z; cases e
    obtain ⟨⟨h0, h0a, h0b⟩, h1, h2, h3, h4, h5, h6⟩ := h
    exact ⟨⟨h0, by show na + 1 ≤ 10; omega, h0b⟩, h1, h2, h3, h4, h5, fun a ha hb => h6 a (by have ha : na + 1 ≤ a := ha; omega) hb⟩
theorem sx_INV_path {n na L : Nat} {α : sx_A} {p c : Int32} (h : sx_INV n na L α) : sx_INV (sx_pathN n α p c) na L (sx_pathS n α p c) := by
  have hn := sx_INV_n h
  unfold sx_pathN sx_pathS
  cases e : sx_new n α p c with
  | false => exact h
  | true =>
    simp only [sx_new, Bool.and_eq_true, Bool.not_eq_true', decide_eq_true_eq] at e
    obtain ⟨⟨e1, e2⟩, e3, e4⟩ := e
    obtain ⟨j, j1, rfl⟩ := sx_has_t hn e1
    have hne : n ≠ 60 := fun z => by subst z; cases e4
    have hch : ∀ k, 0 < k → k < n → ¬ (α 1 k = nI j ∧ α 2 k = c) := by
      rcases sx_ch_ok (α := α) (p := nI j) (c := c) n hn with ⟨_, b⟩ | ⟨k, k1, k2, _, _, k5⟩
      · exact b
      · rw [e3] at k5; exact absurd k5.symm (sx_nI_m1 (by omega))
    obtain ⟨⟨⟨h0, h00⟩, h0b⟩, h1, h2, h3, ⟨s1, s2, s3⟩, h5, h6⟩ := h
    have r1 : ∀ k, k < n → (sx_st (sx_st α 1 n (nI j)) 2 n c) 1 k = α 1 k := fun k hk => by show sx_st α 1 n (nI j) 1 k = α 1 k; exact sx_off (by omega)
    have r2 : ∀ k, k < n → (sx_st (sx_st α 1 n (nI j)) 2 n c) 2 k = α 2 k := fun k hk => by show sx_st (sx_st α 1 n (nI j)) 2 n c 2 k = α 2 k; exact sx_off (by omega)
    have q1 : (sx_st (sx_st α 1 n (nI j)) 2 n c) 1 n = nI j := by show sx_st α 1 n (nI j) 1 n = nI j; exact sx_at
    have q2 : (sx_st (sx_st α 1 n (nI j)) 2 n c) 2 n = c := sx_at
    show sx_INV (n + 1) na L (sx_st (sx_st α 1 n (nI j)) 2 n c)
    generalize hβ : sx_st (sx_st α 1 n (nI j)) 2 n c = β at r1 r2 q1 q2 ⊢
    have hag : ∀ a, sx_AG α β a := fun a => by rw [← hβ]; exact sx_AG_rf α a
    have h3r : β 3 = α 3 := by rw [← hβ]; rfl
    refine ⟨⟨⟨by omega, by omega⟩, h0b⟩, ⟨by rw [r1 0 (by omega)]; exact h1.1, fun k a b => ?_⟩, fun k a b => ?_, fun i k a b x d u w => ?_, ⟨by rw [h3r]; exact s1, by rw [h3r]; exact s2, fun i hi => by rw [h3r]; exact s3 i (by omega)⟩, fun a ha => sx_ACT_ag (by omega) (fun i z1 z2 => ((h5 a ha).2.2.2.2.1 i z1).2 (Or.inr (by omega))) (hag a) (h5 a ha), fun a ha hb => sx_FR_ag (hag a) (h6 a ha hb)⟩
    · by_cases z : k = n
      · subst z; exact ⟨j, j1, q1⟩
      · rw [r1 k (by omega)]; exact h1.2 k a (by omega)
    · by_cases z : k = n
      · subst z; rw [q2]; exact e2
      · rw [r2 k (by omega)]; exact h2 k a (by omega)
    · by_cases z : i = n <;> by_cases z2 : k = n
      · omega
      · subst z
        rw [q1, r1 k (by omega)] at u
        rw [q2, r2 k (by omega)] at w
        exact absurd ⟨u.symm, w.symm⟩ (hch k (by omega) (by omega))
      · subst z2
        rw [q1, r1 i (by omega)] at u
        rw [q2, r2 i (by omega)] at w
        exact absurd ⟨u, w⟩ (hch i (by omega) (by omega))
      · rw [r1 i (by omega), r1 k (by omega)] at u
        rw [r2 i (by omega), r2 k (by omega)] at w
        exact h3 i k a (by omega) x (by omega) u w
def sx_A0 : sx_A := sx_st (fun _ _ => 0) 1 0 (-1)
theorem sx_INV_0 {L : Nat} (h1 : 1 ≤ L) (h2 : L ≤ 500) : sx_INV 1 0 L sx_A0 := by
  refine ⟨⟨⟨by omega, by omega⟩, by omega, h1, h2⟩, ⟨sx_at, fun k a b => by omega⟩, fun k a b => by omega, fun i k a b => by omega, ⟨fun j => (show ¬ (0 : Int32) < 0 by decide), rfl, fun j _ => rfl⟩, fun a ha => ?_, fun a _ _ => ⟨⟨rfl, rfl, rfl, rfl, rfl, rfl, rfl⟩, fun _ _ => ⟨rfl, rfl⟩, fun _ _ => ⟨rfl, rfl⟩⟩⟩
  exact ⟨⟨0, by omega, rfl, fun k hk => absurd hk (Nat.not_lt_zero k)⟩, fun k _ => ⟨false, rfl⟩, ⟨0, by omega, rfl⟩, ⟨0, by omega, rfl, fun k hk => absurd hk (Nat.not_lt_zero k), fun i k hi => absurd hi (Nat.not_lt_zero i)⟩, fun j _ => ⟨fun z => absurd z (by show ¬ (0 : Int32) < 0; decide), fun _ => rfl⟩, ⟨false, rfl⟩, ⟨false, rfl⟩, ⟨false, rfl⟩⟩
end
section
/-! How the class holds the tree, and what its words say. -/
def sx_RP (n : Nat) (par : Nat → Int32) (ab un : Nat → Int64) : Prop :=
  (∀ p, p < n → ∀ q, q < 64 → sx_bt (ab p) q = sx_U par p q) ∧ (∀ q, q < n → ∀ p, p < 64 → sx_bt (un q) p = (Nat.blt p n && sx_U par p q)) ∧ ∀ q, n ≤ q → q < 60 → un q = 0
def sx_unG (un : Nat → Int64) (w : Int64) (n i : Nat) : Nat → Int64 := fun q => bif Nat.blt q i && sx_bt w q then un q ||| sx_on n else un q
theorem sx_blt {a b : Nat} : Nat.blt a b = decide (a < b) := by
  by_cases h : a < b
  · rw [decide_eq_true h]; simp only [Nat.blt]; exact Nat.ble_eq_true_of_le h
  · rw [decide_eq_false h]
    cases c : Nat.blt a b with
    | false => rfl
    | true => exact absurd (Nat.le_of_ble_eq_true c) h
theorem sx_beq {a b : Nat} : Nat.beq a b = decide (a = b) := by
  by_cases h : a = b
  · subst h; simp
  · rw [decide_eq_false h]
    cases c : Nat.beq a b with
    | false => rfl
    | true => exact absurd (Nat.eq_of_beq_eq_true c) h
theorem sx_unG_0 (un : Nat → Int64) (w : Int64) (n : Nat) : sx_unG un w n 0 = un := by
  funext q
  simp [sx_unG, sx_blt]
theorem sx_unG_t {un : Nat → Int64} {w : Int64} {n i : Nat} (h : sx_bt w i = true) : vp_updL (sx_unG un w n i) i (sx_unG un w n i i ||| sx_on n) = sx_unG un w n (i + 1) := by
  funext q
  unfold vp_updL sx_unG
  by_cases e : q = i
  · subst e; simp [sx_blt, h]
  · rw [if_neg e]
    have e2 : decide (q < i) = decide (q < i + 1) := decide_eq_decide.mpr (by omega)
    rw [sx_blt, sx_blt, e2]
theorem sx_unG_f {un : Nat → Int64} {w : Int64} {n i : Nat} (h : sx_bt w i = false) : sx_unG un w n i = sx_unG un w n (i + 1) := by
  funext q
  unfold sx_unG
  by_cases e : q = i
  · subst e; simp [h]
  · have e2 : decide (q < i) = decide (q < i + 1) := decide_eq_decide.mpr (by omega)
    rw [sx_blt, sx_blt, e2]
theorem sx_PO_add {n j : Nat} {par : Nat → Int32} (h : sx_PO n par) (h1 : 1 ≤ n) (hj : j < n) : sx_PO (n + 1) (upd par n (nI j)) := by
  refine ⟨by rw [pk_un (by omega)]; exact h.1, fun k a b => ?_⟩
  by_cases e : k = n
  · subst e; exact ⟨j, hj, pk_us⟩
  · rw [pk_un e]; exact h.2 k a (by omega)
theorem sx_U_new {n j : Nat} {par : Nat → Int32} (h : sx_PO n par) (hn : n < 60) (h1 : 1 ≤ n) (hj : j < n) (p q : Nat) (hp : p < n + 1) : sx_U (upd par n (nI j)) p q = if p = n then (Nat.beq n q || sx_U par j q) else sx_U par p q := by
  have he : ∀ k, k < n → upd par n (nI j) k = par k := fun k hk => pk_un (by omega)
  by_cases e : p = n
  · subst e
    rw [if_pos rfl, sx_U_step (sx_PO_add h h1 hj) (by omega) h1 (by omega) hj pk_us, sx_U_old h (by omega) he hj]
  · rw [if_neg e, sx_U_old h (by omega) he (by omega)]
theorem sx_RP_add {n j : Nat} {par : Nat → Int32} {ab un : Nat → Int64} (h : sx_RP n par ab un) (hP : sx_PO n par) (hn : n < 60) (h1 : 1 ≤ n) (hj : j < n) : sx_RP (n + 1) (upd par n (nI j)) (vp_updL ab n (ab j ||| sx_on n)) (sx_unG un (ab j ||| sx_on n) n (n + 1)) := by
  obtain ⟨r1, r2, r3⟩ := h
  have hw : ∀ q, q < 64 → sx_bt (ab j ||| sx_on n) q = (sx_U par j q || decide (q = n)) := fun q hq => by
    rw [sx_bt_or, sx_bt_on hq (by omega), r1 j hj q hq]
  refine ⟨fun p hp q hq => ?_, fun q hq p hp => ?_, fun q a b => ?_⟩
  · rw [sx_U_new hP hn h1 hj p q hp]
    unfold vp_updL
    by_cases e : p = n
    · subst e
      rw [if_pos rfl, if_pos rfl, hw q hq, sx_beq, Bool.or_comm]
      congr 1
      exact decide_eq_decide.mpr ⟨fun h => h.symm, fun h => h.symm⟩
    · rw [if_neg e, if_neg e]
      exact r1 p (by omega) q hq
  · have hq1 : Nat.blt q (n + 1) = true := by rw [sx_blt]; exact decide_eq_true hq
    unfold sx_unG
    rw [hq1, Bool.true_and, hw q (by omega)]
    by_cases e : q = n
    · subst e
      rw [decide_eq_true (rfl : q = q), Bool.or_true, cond_true, sx_bt_or, sx_bt_on hp (by omega), r3 q (Nat.le_refl q) (by omega), sx_bt_0, Bool.false_or, sx_blt]
      by_cases c : p < q + 1
      · rw [decide_eq_true c, Bool.true_and, sx_U_new hP hn h1 hj p q c]
        by_cases d : p = q
        · subst d; simp
        · rw [if_neg d, decide_eq_false d]
          cases f : sx_U par p q with
          | false => rfl
          | true => have := sx_U_le hP (by omega) p (by omega) f; omega
      · rw [decide_eq_false c, decide_eq_false (show ¬ p = q by omega)]; rfl
    · rw [decide_eq_false e, Bool.or_false]
      have hqn : q < n := by omega
      have key : sx_bt (bif sx_U par j q then un q ||| sx_on n else un q) p = ((decide (p < n) && sx_U par p q) || (sx_U par j q && decide (p = n))) := by
        cases f : sx_U par j q with
        | false => rw [cond_false, r2 q hqn p hp, sx_blt]; simp
        | true => rw [cond_true, sx_bt_or, r2 q hqn p hp, sx_bt_on hp (by omega), sx_blt]; simp
      rw [key, sx_blt]
      by_cases c : p < n + 1
      · rw [decide_eq_true c, Bool.true_and, sx_U_new hP hn h1 hj p q c]
        by_cases d : p = n
        · subst d
          have : ¬ p = q := fun z => e z.symm
          rw [if_pos rfl, sx_beq, decide_eq_false this]
          simp
        · rw [if_neg d, decide_eq_false d, decide_eq_true (show p < n by omega)]; simp
      · rw [decide_eq_false c, decide_eq_false (show ¬ p < n by omega), decide_eq_false (show ¬ p = n by omega)]; simp
  · unfold sx_unG
    have hq1 : Nat.blt q (n + 1) = false := by rw [sx_blt]; exact decide_eq_false (by omega)
    rw [hq1, Bool.false_and, cond_false]
    exact r3 q (by omega) b
/-- something that is taken is in the way of p -/
theorem sx_way_iff {n p : Nat} {par : Nat → Int32} {ab un : Nat → Int64} {w : Int64} {t : Nat → Bool} (h : sx_RP n par ab un) (hn : n ≤ 60) (hp : p < n) (ht : ∀ k, k < 64 → sx_bt w k = t k) (h0 : t 0 = false) (hb : ∀ k, n ≤ k → k < 64 → t k = false) :
    (((ab p ||| un p) &&& (sx_on p ^^^ (-1))) &&& w = 0) ↔ sx_any (fun k => (Nat.blt 0 k && !Nat.beq k p) && (t k && (sx_U par k p || sx_U par p k))) n = false := by
  obtain ⟨r1, r2, r3⟩ := h
  have key : ∀ k, k < 64 → sx_bt (((ab p ||| un p) &&& (sx_on p ^^^ (-1))) &&& w) k = (((sx_U par p k || (decide (k < n) && sx_U par k p)) && !decide (k = p)) && t k) := fun k hk => by
    rw [sx_bt_and, sx_bt_and, sx_bt_or, sx_bt_not _ hk, sx_bt_on hk (by omega), r1 p hp k hk, r2 p hp k hk, ht k hk, sx_blt]
  rw [sx_w0, sx_any_f]
  constructor
  · intro z k hk
    have := z k (by omega)
    rw [key k (by omega), decide_eq_true hk] at this
    rw [sx_beq]
    revert this
    cases sx_U par p k <;> cases sx_U par k p <;> cases decide (k = p) <;> cases t k <;> simp
  · intro z k hk
    rw [key k hk]
    by_cases c : k < n
    · have := z k c
      rw [sx_beq, sx_blt] at this
      rw [decide_eq_true c]
      by_cases d : 0 < k
      · rw [decide_eq_true d] at this
        revert this
        cases sx_U par p k <;> cases sx_U par k p <;> cases decide (k = p) <;> cases t k <;> simp
      · rw [show k = 0 by omega, h0, Bool.and_false]
    · rw [hb k (by omega) hk, Bool.and_false]
/-- something is taken under o -/
theorem sx_und_iff {n o : Nat} {par : Nat → Int32} {ab un : Nat → Int64} {w : Int64} {t : Nat → Bool} (h : sx_RP n par ab un) (hn : n ≤ 60) (ho : o < n) (ht : ∀ k, k < 64 → sx_bt w k = t k) (h0 : t 0 = false) :
    (un o &&& w = 0) ↔ sx_any (fun k => Nat.blt 0 k && (t k && sx_U par k o)) n = false := by
  obtain ⟨r1, r2, r3⟩ := h
  have key : ∀ k, k < 64 → sx_bt (un o &&& w) k = ((decide (k < n) && sx_U par k o) && t k) := fun k hk => by
    rw [sx_bt_and, r2 o ho k hk, ht k hk, sx_blt]
  rw [sx_w0, sx_any_f]
  constructor
  · intro z k hk
    have := z k (by omega)
    rw [key k (by omega), decide_eq_true hk] at this
    revert this
    cases sx_U par k o <;> cases t k <;> simp
  · intro z k hk
    rw [key k hk]
    by_cases c : k < n
    · have := z k c
      rw [sx_blt] at this
      rw [decide_eq_true c]
      by_cases d : 0 < k
      · rw [decide_eq_true d] at this
        revert this
        cases sx_U par k o <;> cases t k <;> simp
      · rw [show k = 0 by omega, h0, Bool.and_false]
    · rw [decide_eq_false c]; rfl
end
section
/-! Long.bitCount: the number of bits. -/
def sx_g1 (b : Nat) : Nat := b - ((b / 2) &&& 85)
def sx_g2 (y : Nat) : Nat := (y &&& 51) + ((y / 4) &&& 51)
def sx_g3 (y : Nat) : Nat := (y + y / 16) % 16
def sx_G (b : Nat) : Nat := sx_g3 (sx_g2 (sx_g1 b))
def sx_m (c : Nat) : Nat → Nat
  | 0 => 0
  | k + 1 => c + 256 * sx_m c k
def sx_s1 (k x : Nat) : Nat := x - ((x / 2) &&& sx_m 85 k)
def sx_s2 (k y : Nat) : Nat := (y &&& sx_m 51 k) + ((y / 4) &&& sx_m 51 k)
def sx_s3 (k y : Nat) : Nat := (y + y / 16) &&& sx_m 15 k
theorem sx_and256 (A μ m : Nat) (hμ : μ < 256) : A &&& (μ + 256 * m) = ((A % 256) &&& μ) + 256 * ((A / 256) &&& m) := by
  have h1 : (A &&& (μ + 256 * m)) % 2 ^ 8 = (A % 2 ^ 8) &&& ((μ + 256 * m) % 2 ^ 8) := Nat.and_mod_two_pow
  have h2 : (A &&& (μ + 256 * m)) / 2 ^ 8 = (A / 2 ^ 8) &&& ((μ + 256 * m) / 2 ^ 8) := Nat.and_div_two_pow
  rw [show (μ + 256 * m) % 2 ^ 8 = μ by omega] at h1
  rw [show (μ + 256 * m) / 2 ^ 8 = m by omega] at h2
  have e : (2 : Nat) ^ 8 = 256 := by decide
  rw [e] at h1 h2
  rw [← h1, ← h2]
  omega
theorem sx_andlow (A μ s : Nat) (hμ : μ < 2 ^ s) : A &&& μ = (A % 2 ^ s) &&& μ := by
  have h1 : (A &&& μ) % 2 ^ s = (A % 2 ^ s) &&& (μ % 2 ^ s) := Nat.and_mod_two_pow
  rw [Nat.mod_eq_of_lt hμ, Nat.mod_eq_of_lt (Nat.lt_of_le_of_lt Nat.and_le_right hμ)] at h1
  exact h1
theorem sx_s1_s (k b y : Nat) (hb : b < 256) : sx_s1 (k + 1) (b + 256 * y) = sx_g1 b + 256 * sx_s1 k y := by
  unfold sx_s1 sx_g1
  rw [show sx_m 85 (k + 1) = 85 + 256 * sx_m 85 k from rfl, sx_and256 _ 85 _ (by decide), sx_andlow _ 85 7 (by decide), show (b + 256 * y) / 2 % 256 % 2 ^ 7 = b / 2 by omega, show (b + 256 * y) / 2 / 256 = y / 2 by omega]
  have h1 : (b / 2) &&& 85 ≤ b / 2 := Nat.and_le_left
  have h2 : (y / 2) &&& sx_m 85 k ≤ y / 2 := Nat.and_le_left
  generalize (b / 2) &&& 85 = u at h1 ⊢
  generalize (y / 2) &&& sx_m 85 k = v at h2 ⊢
  omega
theorem sx_s2_s (k b y : Nat) (hb : b < 256) : sx_s2 (k + 1) (b + 256 * y) = sx_g2 b + 256 * sx_s2 k y := by
  unfold sx_s2 sx_g2
  rw [show sx_m 51 (k + 1) = 51 + 256 * sx_m 51 k from rfl, sx_and256 _ 51 _ (by decide), sx_and256 _ 51 _ (by decide), sx_andlow ((b + 256 * y) / 4 % 256) 51 6 (by decide), show (b + 256 * y) / 4 % 256 % 2 ^ 6 = b / 4 by omega, show (b + 256 * y) / 4 / 256 = y / 4 by omega, show (b + 256 * y) % 256 = b by omega, show (b + 256 * y) / 256 = y by omega]
  omega
theorem sx_s3_s (k c y : Nat) (hc : c ≤ 68) (hy : y % 16 ≤ 4) : sx_s3 (k + 1) (c + 256 * y) = sx_g3 c + 256 * sx_s3 k y := by
  unfold sx_s3 sx_g3
  rw [show sx_m 15 (k + 1) = 15 + 256 * sx_m 15 k from rfl, sx_and256 _ 15 _ (by decide), show (c + 256 * y + (c + 256 * y) / 16) / 256 = y + y / 16 by omega]
  have h : (c + 256 * y + (c + 256 * y) / 16) % 256 &&& 15 = (c + c / 16) % 16 := by
    rw [show (15 : Nat) = 2 ^ 4 - 1 from rfl, Nat.and_two_pow_sub_one_eq_mod]
    omega
  rw [h]
theorem sx_byte : ∀ b, b < 256 → sx_g1 b < 256 ∧ sx_g2 (sx_g1 b) ≤ 68 ∧ sx_g2 (sx_g1 b) % 16 ≤ 4 ∧ sx_G b = sx_cnt (fun j => b.testBit j) 8 := by decide +kernel
theorem sx_nib (k x : Nat) : sx_s2 k (sx_s1 k x) % 16 ≤ 4 := by
  cases k with
  | zero => simp [sx_s2, sx_m]
  | succ k =>
    have e : x = x % 256 + 256 * (x / 256) := by omega
    have hb := sx_byte (x % 256) (by omega)
    rw [e, sx_s1_s k _ _ (by omega), sx_s2_s k _ _ hb.1]
    have := hb.2.2.1
    omega
theorem sx_F_s (k b y : Nat) (hb : b < 256) : sx_s3 (k + 1) (sx_s2 (k + 1) (sx_s1 (k + 1) (b + 256 * y))) = sx_G b + 256 * sx_s3 k (sx_s2 k (sx_s1 k y)) := by
  have h := sx_byte b hb
  rw [sx_s1_s k b y hb, sx_s2_s k _ _ h.1, sx_s3_s k _ _ h.2.1 (sx_nib k y)]
  rfl
theorem sx_cnt_add (f : Nat → Bool) (a b : Nat) : sx_cnt f (a + b) = sx_cnt f a + sx_cnt (fun j => f (a + j)) b := by
  induction b with
  | zero => rfl
  | succ b ih =>
    show sx_cnt f (a + b) + (bif f (a + b) then 1 else 0) = _
    rw [ih]
    simp only [sx_cnt]
    omega
theorem sx_cnt_byte (x m : Nat) : sx_cnt (fun j => x.testBit j) (8 + m) = sx_G (x % 256) + sx_cnt (fun j => (x / 256).testBit j) m := by
  rw [sx_cnt_add, (sx_byte (x % 256) (by omega)).2.2.2]
  congr 1
  · refine sx_cnt_congr fun k hk => ?_
    rw [show (256 : Nat) = 2 ^ 8 from rfl, Nat.testBit_mod_two_pow]
    simp [hk]
  · refine sx_cnt_congr fun k hk => ?_
    rw [show (256 : Nat) = 2 ^ 8 from rfl, Nat.testBit_div_two_pow, Nat.add_comm]
theorem sx_G_le (b : Nat) (hb : b < 256) : sx_G b ≤ 8 := by
  rw [(sx_byte b hb).2.2.2]
  exact sx_cnt_le _ 8
def sx_fin (y : Nat) : Nat := ((y + y / 256) + (y + y / 256) / 65536) + ((y + y / 256) + (y + y / 256) / 65536) / 4294967296
theorem sx_sum8 (p0 p1 p2 p3 p4 p5 p6 p7 : Nat) (g0 : p0 ≤ 8) (g1 : p1 ≤ 8) (g2 : p2 ≤ 8) (g3 : p3 ≤ 8) (g4 : p4 ≤ 8) (g5 : p5 ≤ 8) (g6 : p6 ≤ 8) (g7 : p7 ≤ 8) : sx_fin (p0 + 256 * (p1 + 256 * (p2 + 256 * (p3 + 256 * (p4 + 256 * (p5 + 256 * (p6 + 256 * (p7 + 256 * 0)))))))) % 128 = p0 + (p1 + (p2 + (p3 + (p4 + (p5 + (p6 + (p7 + 0))))))) := by
  unfold sx_fin
  obtain ⟨y, hy⟩ : ∃ y, y = p0 + 256 * (p1 + 256 * (p2 + 256 * (p3 + 256 * (p4 + 256 * (p5 + 256 * (p6 + 256 * (p7 + 256 * 0))))))) := ⟨_, rfl⟩
  rw [← hy]
  have e1 : y / 256 = p1 + 256 * (p2 + 256 * (p3 + 256 * (p4 + 256 * (p5 + 256 * (p6 + 256 * p7))))) := by omega
  rw [e1]
  obtain ⟨v, hv⟩ : ∃ v, v = (p4 + p5) + 256 * (p5 + p6) + 65536 * (p6 + p7) + 16777216 * p7 := ⟨_, rfl⟩
  obtain ⟨t, ht⟩ : ∃ t, t = (p2 + p3) + 256 * (p3 + p4) + 65536 * v := ⟨_, rfl⟩
  obtain ⟨u, hu⟩ : ∃ u, u = y + (p1 + 256 * (p2 + 256 * (p3 + 256 * (p4 + 256 * (p5 + 256 * (p6 + 256 * p7)))))) := ⟨_, rfl⟩
  rw [← hu]
  have e2 : u = (p0 + p1) + 256 * (p1 + p2) + 65536 * t := by omega
  have e3 : u / 65536 = t := by clear e1 hu hy ht hv; omega
  rw [e3]
  obtain ⟨z, hz⟩ : ∃ z, z = (p4 + p5 + p6 + p7) + 256 * (p5 + p6 + p7) + 65536 * (p6 + p7) + 16777216 * p7 := ⟨_, rfl⟩
  obtain ⟨w, hw⟩ : ∃ w, w = u + t := ⟨_, rfl⟩
  rw [← hw]
  have e4 : w = (p0 + p1 + p2 + p3) + 256 * (p1 + p2 + p3 + p4) + 65536 * (p2 + p3 + p4 + p5) + 16777216 * (p3 + p4 + p5 + p6) + 4294967296 * z := by omega
  have e5 : w / 4294967296 = z := by clear e1 e2 e3 hu hy ht hv hw hz; omega
  rw [e5]
  clear e1 e2 e3 hu hy ht hv hw e5
  omega
theorem sx_pop (x : Nat) (hx : x < 2 ^ 64) : sx_fin (sx_s3 8 (sx_s2 8 (sx_s1 8 x))) % 128 = sx_cnt (fun j => x.testBit j) 64 := by
  have cut : ∀ z : Nat, z = z % 256 + 256 * (z / 256) := fun z => by omega
  have step : ∀ k z, sx_s3 (k + 1) (sx_s2 (k + 1) (sx_s1 (k + 1) z)) = sx_G (z % 256) + 256 * sx_s3 k (sx_s2 k (sx_s1 k (z / 256))) := fun k z => by
    have := sx_F_s k (z % 256) (z / 256) (by omega)
    rw [← cut z] at this
    exact this
  have z0 : ∀ z, sx_s3 0 (sx_s2 0 (sx_s1 0 z)) = 0 := fun z => by simp [sx_s3, sx_m]
  rw [show (64 : Nat) = 8 + (8 + (8 + (8 + (8 + (8 + (8 + (8 + 0))))))) from rfl, sx_cnt_byte, sx_cnt_byte, sx_cnt_byte, sx_cnt_byte, sx_cnt_byte, sx_cnt_byte, sx_cnt_byte, sx_cnt_byte]
  rw [step 7, step 6, step 5, step 4, step 3, step 2, step 1, step 0, z0]
  exact sx_sum8 _ _ _ _ _ _ _ _ (sx_G_le _ (by omega)) (sx_G_le _ (by omega)) (sx_G_le _ (by omega)) (sx_G_le _ (by omega)) (sx_G_le _ (by omega)) (sx_G_le _ (by omega)) (sx_G_le _ (by omega)) (sx_G_le _ (by omega))
end
section
/-! A store: words of files and links, values; w: what is at each path. -/
def sx_RW (w v : Nat → Int32) (f l : Int64) : Prop := (∀ j, j < 64 → sx_bt f j = (decide (j < 60) && decide (0 < w j))) ∧ (∀ j, j < 64 → sx_bt l j = (decide (j < 60) && decide (w j < 0))) ∧ (∀ j, j < 60 → 0 < w j → v j = w j) ∧ ∀ j, j < 60 → ∀ q, q < 60 → w j = -1 - nI q → v j = nI q
theorem sx_pos_neg {x : Int32} (h : 0 < x) : ¬ x < 0 := fun z => Int32.lt_irrefl (Int32.lt_trans h z)
theorem sx_i0 : (0 : Int32).toInt = 0 := by decide
theorem sx_i1 : (1 : Int32).toInt = 1 := by decide
theorem sx_im1 : (-1 : Int32).toInt = -1 := by decide
theorem sx_tri {x : Int32} (h1 : ¬ 0 < x) (h2 : ¬ x < 0) : x = 0 := by
  rw [Int32.lt_iff_toInt_lt, sx_i0] at h1 h2
  exact Int32.toInt_inj.mp (by rw [sx_i0]; omega)
theorem sx_lk {q : Nat} (h : q < 2 ^ 30) : (-1 - nI q : Int32) < 0 ∧ ¬ 0 < (-1 - nI q : Int32) ∧ (-1 - (-1 - nI q) : Int32) = nI q := by
  have e : (-1 - nI q : Int32).toInt = -1 - (q : Int) := by
    rw [Int32.toInt_sub, sx_im1, nI_toInt (by omega)]
    simp only [Int.bmod]
    omega
  have l1 : (-1 - nI q : Int32) < 0 := by rw [Int32.lt_iff_toInt_lt, e, sx_i0]; omega
  refine ⟨l1, fun z => sx_pos_neg z l1, Int32.toInt_inj.mp ?_⟩
  rw [Int32.toInt_sub, e, sx_im1, nI_toInt (by omega)]
  simp only [Int.bmod]
  omega
theorem sx_lk_inj {q r : Nat} (hq : q < 2 ^ 30) (hr : r < 2 ^ 30) (h : (-1 - nI q : Int32) = -1 - nI r) : q = r := by
  have := congrArg (fun x : Int32 => -1 - x) h
  simp only [(sx_lk hq).2.2, (sx_lk hr).2.2] at this
  exact (nI_eq (by omega) (by omega)).mp this
theorem sx_RW_tk {w v : Nat → Int32} {f l : Int64} (h : sx_RW w v f l) {j : Nat} (hj : j < 64) : sx_bt (f ||| l) j = (decide (j < 60) && !decide (w j = 0)) := by
  rw [sx_bt_or, h.1 j hj, h.2.1 j hj]
  cases decide (j < 60) with
  | false => rfl
  | true =>
    simp only [Bool.true_and]
    by_cases a : 0 < w j
    · rw [decide_eq_true a, Bool.true_or]
      have : ¬ w j = 0 := fun z => by rw [z] at a; exact absurd a (by decide)
      rw [decide_eq_false this]; rfl
    · rw [decide_eq_false a, Bool.false_or]
      by_cases b : w j < 0
      · have : ¬ w j = 0 := fun z => by rw [z] at b; exact absurd b (by decide)
        rw [decide_eq_true b, decide_eq_false this]; rfl
      · rw [decide_eq_false b, decide_eq_true (sx_tri a b)]; rfl
theorem sx_RW_away {w v : Nat → Int32} {f l : Int64} {p : Nat} (h : sx_RW w v f l) (hp : p < 60) : sx_RW (upd w p 0) v (f &&& (sx_on p ^^^ (-1))) (l &&& (sx_on p ^^^ (-1))) := by
  obtain ⟨h1, h2, h3, h4⟩ := h
  refine ⟨fun j hj => ?_, fun j hj => ?_, fun j hj z => ?_, fun j hj q hq z => ?_⟩
  · rw [sx_bt_and, sx_bt_not _ hj, sx_bt_on hj (by omega), h1 j hj]
    unfold upd
    by_cases e : j = p
    · subst e; simp
    · simp [e]
  · rw [sx_bt_and, sx_bt_not _ hj, sx_bt_on hj (by omega), h2 j hj]
    unfold upd
    by_cases e : j = p
    · subst e; simp
    · simp [e]
  · unfold upd at z ⊢
    by_cases e : j = p
    · rw [if_pos e] at z; exact absurd z (by decide)
    · rw [if_neg e] at z ⊢; exact h3 j hj z
  · unfold upd at z
    by_cases e : j = p
    · rw [if_pos e] at z
      have := (sx_lk (q := q) (by omega)).1
      rw [← z] at this; exact absurd this (by decide)
    · rw [if_neg e] at z; exact h4 j hj q hq z
theorem sx_RW_put {w v : Nat → Int32} {f l : Int64} {p : Nat} {c : Int32} (h : sx_RW w v f l) (hp : p < 60) (hc : 0 < c) : sx_RW (upd w p c) (upd v p c) ((f &&& (sx_on p ^^^ (-1))) ||| sx_on p) (l &&& (sx_on p ^^^ (-1))) := by
  obtain ⟨h1, h2, h3, h4⟩ := h
  refine ⟨fun j hj => ?_, fun j hj => ?_, fun j hj z => ?_, fun j hj q hq z => ?_⟩
  · rw [sx_bt_or, sx_bt_and, sx_bt_not _ hj, sx_bt_on hj (by omega), h1 j hj]
    unfold upd
    by_cases e : j = p
    · subst e; simp [hp, hc]
    · simp [e]
  · rw [sx_bt_and, sx_bt_not _ hj, sx_bt_on hj (by omega), h2 j hj]
    unfold upd
    by_cases e : j = p
    · subst e; simp [sx_pos_neg hc]
    · simp [e]
  · unfold upd at z ⊢
    by_cases e : j = p
    · rw [if_pos e, if_pos e]
    · rw [if_neg e] at z; rw [if_neg e, if_neg e]; exact h3 j hj z
  · unfold upd at z ⊢
    by_cases e : j = p
    · rw [if_pos e] at z
      have := (sx_lk (q := q) (by omega)).1
      rw [← z] at this; exact absurd this (sx_pos_neg hc)
    · rw [if_neg e] at z; rw [if_neg e]; exact h4 j hj q hq z
theorem sx_RW_link {w v : Nat → Int32} {f l : Int64} {p r : Nat} (h : sx_RW w v f l) (hp : p < 60) (hr : r < 60) : sx_RW (upd w p (-1 - nI r)) (upd v p (nI r)) (f &&& (sx_on p ^^^ (-1))) ((l &&& (sx_on p ^^^ (-1))) ||| sx_on p) := by
  obtain ⟨h1, h2, h3, h4⟩ := h
  obtain ⟨k1, k2, k3⟩ := sx_lk (q := r) (by omega)
  refine ⟨fun j hj => ?_, fun j hj => ?_, fun j hj z => ?_, fun j hj q hq z => ?_⟩
  · rw [sx_bt_and, sx_bt_not _ hj, sx_bt_on hj (by omega), h1 j hj]
    unfold upd
    by_cases e : j = p
    · subst e; simp [k2]
    · simp [e]
  · rw [sx_bt_or, sx_bt_and, sx_bt_not _ hj, sx_bt_on hj (by omega), h2 j hj]
    unfold upd
    by_cases e : j = p
    · subst e; simp [hp, k1]
    · simp [e]
  · unfold upd at z ⊢
    by_cases e : j = p
    · rw [if_pos e] at z; exact absurd z k2
    · rw [if_neg e] at z; rw [if_neg e, if_neg e]; exact h3 j hj z
  · unfold upd at z ⊢
    by_cases e : j = p
    · rw [if_pos e] at z; rw [if_pos e, sx_lk_inj (by omega) (by omega) z]
    · rw [if_neg e] at z; rw [if_neg e]; exact h4 j hj q hq z
/-- what leadsTo answers: at most so many steps -/
def sx_lR (v : Nat → Int32) (f l : Int64) : Nat → Int32 → Int32
  | 0, _ => 0
  | k + 1, x => bif sx_has 60 x then (bif sx_bt f x.toNatClampNeg then v x.toNatClampNeg else (bif sx_bt l x.toNatClampNeg then sx_lR v f l k (v x.toNatClampNeg) else 0)) else 0
theorem sx_lR_ld {w v : Nat → Int32} {f l : Int64} (h : sx_RW w v f l) (hl : ∀ j, j < 60 → w j < 0 → ∃ q, q < 60 ∧ w j = -1 - nI q) : ∀ k p, p < 60 → sx_lR v f l (k + 1) (nI p) = sx_ld w k (w p) := by
  obtain ⟨h1, h2, h3, h4⟩ := h
  intro k
  induction k with
  | zero =>
    intro p hp
    simp only [sx_lR, sx_ld]
    rw [sx_has_nI (by omega) hp, nI_clamp (by omega), cond_true, h1 p (by omega), decide_eq_true hp, Bool.true_and]
    by_cases c : 0 < w p
    · rw [decide_eq_true c, cond_true, if_pos c]; exact h3 p hp c
    · rw [decide_eq_false c, cond_false, if_neg c]
      cases sx_bt l p <;> rfl
  | succ k ih =>
    intro p hp
    have e : sx_lR v f l (k + 1 + 1) (nI p) = bif sx_has 60 (nI p) then (bif sx_bt f (nI p).toNatClampNeg then v (nI p).toNatClampNeg else (bif sx_bt l (nI p).toNatClampNeg then sx_lR v f l (k + 1) (v (nI p).toNatClampNeg) else 0)) else 0 := rfl
    rw [e, sx_has_nI (by omega) hp, nI_clamp (by omega), cond_true, h1 p (by omega), h2 p (by omega), decide_eq_true hp, Bool.true_and, Bool.true_and]
    simp only [sx_ld]
    by_cases c : 0 < w p
    · rw [decide_eq_true c, cond_true, if_neg (sx_pos_neg c), if_pos c]; exact h3 p hp c
    · rw [decide_eq_false c, cond_false]
      by_cases d : w p < 0
      · obtain ⟨q, q1, q2⟩ := hl p hp d
        rw [decide_eq_true d, cond_true, if_pos d, h4 p hp q q1 q2, ih q q1, q2, (sx_lk (by omega)).2.2, nI_clamp (by omega)]
      · rw [decide_eq_false d, cond_false, if_neg d, if_neg c]
/-- leadsTo in a store without links -/
theorem sx_lR_src {w v : Nat → Int32} {f l : Int64} (h : sx_RW w v f l) {p : Nat} (hp : p < 60) (hs : ∀ j, ¬ w j < 0) : sx_lR v f l 5 (nI p) = w p := by
  rw [sx_lR_ld h (fun j _ z => absurd z (hs j)) 4 p hp]
  simp only [sx_ld]
  rw [if_neg (hs p)]
  by_cases c : 0 < w p
  · rw [if_pos c]
  · rw [if_neg c, sx_tri c (hs p)]
end
section
/-! Letters, clashes, listing. -/
theorem sx_isL_nat {c : Int32} (h : sx_isL c = true) : ∃ k : Nat, (65 ≤ k ∧ k < 123) ∧ c = nI k := by
  simp only [sx_isL, Bool.or_eq_true, Bool.and_eq_true, decide_eq_true_eq, Int32.le_iff_toInt_le] at h
  have e1 : (97 : Int32).toInt = 97 := by decide
  have e2 : (122 : Int32).toInt = 122 := by decide
  have e3 : (65 : Int32).toInt = 65 := by decide
  have e4 : (90 : Int32).toInt = 90 := by decide
  rw [e1, e2, e3, e4] at h
  have h0 : ¬ c < 0 := by rw [Int32.lt_iff_toInt_lt, sx_i0]; omega
  obtain ⟨k, hk, rfl⟩ := nI_of h0
  rw [nI_toInt hk] at h
  exact ⟨k, by omega, rfl⟩
/-- the twin of a letter: its case changed -/
def sx_tw (c : Int32) : Int32 := ((c ^^^ 32).toUInt32 % 65536).toInt32
theorem sx_tw_all : ∀ k, k < 123 → sx_isL (nI k) = true → sx_isL (sx_tw (nI k)) = true ∧ sx_tw (nI k) ≠ nI k ∧ sx_low (sx_tw (nI k)) = sx_low (nI k) := by decide +kernel
theorem sx_low_tab : (List.range 123).all (fun k => (List.range 123).all (fun m => (!sx_isL (nI k) || !sx_isL (nI m)) || (!decide (sx_low (nI k) = sx_low (nI m)) || (decide (k = m) || decide (nI m = sx_tw (nI k)))))) = true := by decide +kernel
theorem sx_low_all (k : Nat) (hk : k < 123) (m : Nat) (hm : m < 123) (h1 : sx_isL (nI k) = true) (h2 : sx_isL (nI m) = true) (e : sx_low (nI k) = sx_low (nI m)) : k = m ∨ nI m = sx_tw (nI k) := by
  have a := List.all_eq_true.mp (List.all_eq_true.mp sx_low_tab k (List.mem_range.mpr hk)) m (List.mem_range.mpr hm)
  rw [h1, h2, decide_eq_true e] at a
  simpa using a
theorem sx_tw_ok {c : Int32} (h : sx_isL c = true) : sx_isL (sx_tw c) = true ∧ sx_tw c ≠ c ∧ sx_low (sx_tw c) = sx_low c := by
  obtain ⟨k, k1, rfl⟩ := sx_isL_nat h
  exact sx_tw_all k k1.2 h
theorem sx_low_ok {c d : Int32} (h : sx_isL c = true) (h2 : sx_isL d = true) (e : sx_low c = sx_low d) : c = d ∨ d = sx_tw c := by
  obtain ⟨k, k1, rfl⟩ := sx_isL_nat h
  obtain ⟨m, m1, rfl⟩ := sx_isL_nat h2
  rcases sx_low_all k k1.2 m m1.2 h h2 e with q | q
  · exact Or.inl (by rw [q])
  · exact Or.inr q
/-- the only path with this parent and letter -/
theorem sx_ch_at {n k : Nat} {α : sx_A} (hn : n < 2 ^ 31) (hD : sx_DI n α) (h0 : 0 < k) (hk : k < n) : sx_ch α (α 1 k) (α 2 k) n = nI k := by
  rcases sx_ch_ok (α := α) (p := α 1 k) (c := α 2 k) n hn with ⟨_, b⟩ | ⟨i, a, b, c, d, f⟩
  · exact absurd ⟨rfl, rfl⟩ (b k h0 hk)
  · rw [f, hD i k a b h0 hk c d]
theorem sx_clash {n na L : Nat} {α : sx_A} {w : Int64} {t : Nat → Bool} (h : sx_INV n na L α) (ht : ∀ k, k < n → sx_bt w k = t k) :
    sx_any (fun p => Nat.blt 0 p && (sx_bt w p && (!decide (sx_ch α (α 1 p) (sx_tw (α 2 p)) n = -1) && sx_bt w (sx_ch α (α 1 p) (sx_tw (α 2 p)) n).toNatClampNeg))) n
      = sx_any (fun p => Nat.blt 0 p && sx_any (fun k => Nat.blt 0 k && ((t p && t k) && (decide (α 1 p = α 1 k) && decide (sx_low (α 2 p) = sx_low (α 2 k))))) p) n := by
  have hn := sx_INV_n h
  have hL : sx_LT n α := h.2.2.1
  have hD : sx_DI n α := h.2.2.2.1
  have iff : ∀ a b : Bool, (a = true ↔ b = true) → a = b := fun a b => by cases a <;> cases b <;> simp
  apply iff
  rw [sx_any_t, sx_any_t]
  simp only [Bool.and_eq_true, Bool.not_eq_true', decide_eq_false_iff_not, sx_blt, decide_eq_true_eq]
  constructor
  · rintro ⟨p, hp, p0, b1, b2, b3⟩
    rcases sx_ch_ok (α := α) (p := α 1 p) (c := sx_tw (α 2 p)) n hn with ⟨e, _⟩ | ⟨k, k0, k1, k2, k3, k4⟩
    · exact absurd e b2
    · rw [k4, nI_clamp (by omega)] at b3
      have tw := sx_tw_ok (hL p p0 hp)
      rw [ht p hp] at b1
      rw [ht k k1] at b3
      have hne : k ≠ p := fun z => by subst z; exact tw.2.1 k3.symm
      rcases Nat.lt_or_ge k p with q | q
      · exact ⟨p, hp, p0, sx_any_t.mpr ⟨k, q, by simp only [Bool.and_eq_true, sx_blt, decide_eq_true_eq]; exact ⟨k0, ⟨b1, b3⟩, k2.symm, by rw [k3, tw.2.2]⟩⟩⟩
      · exact ⟨k, k1, k0, sx_any_t.mpr ⟨p, by omega, by simp only [Bool.and_eq_true, sx_blt, decide_eq_true_eq]; exact ⟨p0, ⟨b3, b1⟩, k2, by rw [k3, tw.2.2]⟩⟩⟩
  · rintro ⟨p, hp, p0, e⟩
    obtain ⟨k, k1, e⟩ := sx_any_t.mp e
    simp only [Bool.and_eq_true, sx_blt, decide_eq_true_eq] at e
    obtain ⟨k0, ⟨b1, b2⟩, e1, e2⟩ := e
    have hk : k < n := by omega
    rcases sx_low_ok (hL p p0 hp) (hL k k0 hk) e2 with q | q
    · have := hD p k p0 hp k0 hk e1 q
      omega
    · have hc := sx_ch_at hn hD k0 hk
      rw [← e1, q] at hc
      refine ⟨p, hp, p0, by rw [ht p hp]; exact b1, ?_, ?_⟩
      · rw [hc]; exact sx_nI_m1 (by omega)
      · rw [hc, nI_clamp (by omega), ht k hk]; exact b2
/-- the letters in a folder -/
theorem sx_list_q {n na L : Nat} {α : sx_A} {p : Int32} {c : Nat} {t : Nat → Bool} (h : sx_INV n na L α) :
    sx_any (fun k => Nat.blt 0 k && ((decide (α 1 k = p) && decide (α 2 k = nI c)) && t k)) n = (!decide (sx_ch α p (nI c) n = -1) && t (sx_ch α p (nI c) n).toNatClampNeg) := by
  have hn := sx_INV_n h
  have hD : sx_DI n α := h.2.2.2.1
  rcases sx_ch_ok (α := α) (p := p) (c := nI c) n hn with ⟨e, b⟩ | ⟨k, k0, k1, k2, k3, k4⟩
  · rw [e, decide_eq_true rfl, Bool.not_true, Bool.false_and, sx_any_f]
    intro k hk
    by_cases z : 0 < k
    · have := b k z hk
      by_cases y : α 1 k = p
      · have : ¬ α 2 k = nI c := fun x => this ⟨y, x⟩
        simp [this]
      · simp [y]
    · simp [sx_blt, z]
  · rw [k4, decide_eq_false (sx_nI_m1 (by omega)), nI_clamp (by omega), Bool.not_false, Bool.true_and]
    cases e : t k with
    | true => exact sx_any_t.mpr ⟨k, k1, by simp [sx_blt, k0, k2, k3, e]⟩
    | false =>
      rw [sx_any_f]
      intro i hi
      by_cases z : (0 < i ∧ α 1 i = p) ∧ α 2 i = nI c
      · have := hD i k z.1.1 hi k0 k1 (z.1.2.trans k2.symm) (z.2.trans k3.symm)
        rw [this, e, Bool.and_false, Bool.and_false]
      · by_cases y : 0 < i <;> by_cases x : α 1 i = p <;> by_cases u : α 2 i = nI c <;> simp [sx_blt, y, x, u] <;> exact absurd ⟨⟨y, x⟩, u⟩ z
end
section
/-! Rules: the context's facts move; calls; loops; ints by their numbers. -/
def sx_ty (cA : Nat → ClassId) : List (ClassId × FieldType) := [(cA 0, .int), (cA 1, .boolean), (cA 2, .char), (cA 3, .long), (cA 4, .object "SandboxTree$Action")]
def sx_K (D : va_G) (cA : Nat → ClassId) (U : State) : Prop := va_K D vwCl (sx_ty cA) U ∧ sx_NW U ∧ va_AO "SandboxTree$Action" U
theorem sx_K.moved {D : va_G} {cA : Nat → ClassId} {s U : State} (hW : s.WarmedH U.vm) (h : sx_K D cA s) : sx_K D cA U := ⟨va_K.moved hW.alike h.1, sx_NW.warm hW h.2.1, va_AO.moved hW.alike h.2.2⟩
theorem sx_K.call {D : va_G} {cA : Nat → ClassId} {U : State} {g : JFrame} {mk : MethodId} {a : Array Value} (h : sx_K D cA U) : sx_K D cA (U.calling g mk a) := ⟨va_K.moved (u := U) (U := U.calling g mk a) (Vm.Alike.refl U.vm) h.1, sx_NW.same (u := U) (U := U.calling g mk a) rfl h.2.1, va_AO.moved (u := U) (U := U.calling g mk a) (Vm.Alike.refl U.vm) h.2.2⟩
abbrev sx_Pr (D : va_G) (cA : Nat → ClassId) (av : List Value) (wc : va_W) : Array Value → State → Prop := va_Pc av (fun U => va_P D vwCl wc U.heap ∧ sx_K D cA U)
abbrev sx_Pw (D : va_G) (cA : Nat → ClassId) (av : List Value) (wc : va_W) (sz : Nat) : Array Value → State → Prop := va_Pc av (fun U => U.heap.size = sz ∧ va_P D vwCl wc U.heap ∧ sx_K D cA U ∧ va_D (fun _ => True) wc)
abbrev sx_Bw {S : Type} (D : va_G) (wc : va_W) (sz : Nat) (w1 : S → va_W) : S → State → Prop := fun u t => va_P D vwCl (w1 u) t.heap ∧ va_D (va_A wc sz) (w1 u)
theorem sx_preV {D : va_G} {cA : Nat → ClassId} {s : State} {H : Heap} {C : String} {b : Addr} {As : List Value} {wc : va_W} (hK : sx_K D cA s) (hP : va_P D vwCl wc H) (hr : ∃ cell : Cell, H[b]? = some cell ∧ cell.vm.isStatics = false ∧ s.vm.findClass C = some cell.cls) : PreV s H C b (sx_Pr D cA (.ref b :: As) wc) As :=
  ⟨fun _ _ _ _ q => ⟨q.1, q.2.1, q.2.2.call⟩, hr, fun U hU hW => ⟨rfl, by rw [hU]; exact hP, hK.moved hW⟩⟩
theorem sx_preS {D : va_G} {cA : Nat → ClassId} {s : State} {H : Heap} {As : List Value} {wc : va_W} (hK : sx_K D cA s) (hP : va_P D vwCl wc H) : PreS s H (sx_Pr D cA As wc) As :=
  ⟨fun _ _ _ _ q => ⟨q.1, q.2.1, q.2.2.call⟩, fun U hU hW => ⟨rfl, by rw [hU]; exact hP, hK.moved hW⟩⟩
theorem sx_preVw {D : va_G} {cA : Nat → ClassId} {s : State} {H : Heap} {C : String} {b : Addr} {As : List Value} {wc : va_W} {A : Nat → Prop} (hK : sx_K D cA s) (hP : va_P D vwCl wc H) (hD : va_D A wc) (hr : ∃ cell : Cell, H[b]? = some cell ∧ cell.vm.isStatics = false ∧ s.vm.findClass C = some cell.cls) : PreV s H C b (sx_Pw D cA (.ref b :: As) wc H.size) As :=
  ⟨fun _ _ _ _ q => ⟨q.1, q.2.1, q.2.2.1, q.2.2.2.1.call, q.2.2.2.2⟩, hr, fun U hU hW => ⟨rfl, by rw [hU], by rw [hU]; exact hP, hK.moved hW, hD.weaken (fun _ _ _ _ => trivial)⟩⟩
theorem sx_preSw {D : va_G} {cA : Nat → ClassId} {s : State} {H : Heap} {As : List Value} {wc : va_W} {A : Nat → Prop} (hK : sx_K D cA s) (hP : va_P D vwCl wc H) (hD : va_D A wc) : PreS s H (sx_Pw D cA As wc H.size) As :=
  ⟨fun _ _ _ _ q => ⟨q.1, q.2.1, q.2.2.1, q.2.2.2.1.call, q.2.2.2.2⟩, fun U hU hW => ⟨rfl, by rw [hU], by rw [hU]; exact hP, hK.moved hW, hD.weaken (fun _ _ _ _ => trivial)⟩⟩
section SXC
variable {p : Program} {l : Launch} {e : Env} {R : Room} {s : State} {m : MethodId} {args : Array Value} {below : List Frame} {meth : Method} {c : Code} {H : Heap} {locs : List Loc} {cells slots : Nat} {Q : State → Prop}
variable {pc : Nat} {ls : Array Slot} {rest st0 : List Value} {a : Array Value} {A0 : Nat → Prop} {H0 : Heap} {mc ms : Nat} {D : va_G} {ws wc wr : va_W}
theorem sx_calli {S : Type} {post : Int32 → S → Prop} {w1 : S → va_W} (hr : va_Run p l e R s m args below meth c H locs cells slots mc ms (F0 m pc ls st0) rest (va_Qi post (sx_Bw D wc H.size w1) (va_A wc H.size) a) (va_A wc H.size)) (hP : va_P D vwCl ws H) (hD : va_D A0 ws) (hS : va_S A0 H0 H locs) (hA : ∀ q, H0.size ≤ q → A0 q)
    (isC isR : List Nat) (hC : isC.map (fun i => ws[i]?) = wc.map some) (hR : isR.map (fun i => ws[i]?) = wr.map some) (hn : va_nd isR = true) (hdis : ∀ i ∈ isR, i ∉ isC)
    (kk : ∀ (r : Int32) (u : S) (H1 : Heap) (locs1 : List Loc), post r u → va_P D vwCl (wr ++ w1 u) H1 → va_D A0 (wr ++ w1 u) → va_S A0 H0 H1 locs1 → W p l e R s m args below meth c H1 locs1 (cells + mc) (slots + ms) Q (F0 m (pc + 3) ls (.int r :: rest))) : W p l e R s m args below meth c H locs cells slots Q (F0 m pc ls st0) := by
  have hF := va_free hD hS hA isC hC
  refine va_calli hr hS (fun q _ h => hF q h) hF (fun r u t H1 locs1 ht _ hw hB _ hk hS1 => ?_)
  obtain ⟨hP1, hD1⟩ := hB
  rw [ht] at hP1
  obtain ⟨g1, g2⟩ := va_join hP hD isC isR hC hR hn hdis hk hF hP1 hD1
  exact kk r u H1 locs1 hw g1 g2 hS1
theorem sx_callv {S : Type} {post : S → Prop} {w1 : S → va_W} (hr : va_Run p l e R s m args below meth c H locs cells slots mc ms (F0 m pc ls st0) rest (va_Qv post (sx_Bw D wc H.size w1) (va_A wc H.size) a) (va_A wc H.size)) (hP : va_P D vwCl ws H) (hD : va_D A0 ws) (hS : va_S A0 H0 H locs) (hA : ∀ q, H0.size ≤ q → A0 q)
    (isC isR : List Nat) (hC : isC.map (fun i => ws[i]?) = wc.map some) (hR : isR.map (fun i => ws[i]?) = wr.map some) (hn : va_nd isR = true) (hdis : ∀ i ∈ isR, i ∉ isC)
    (kk : ∀ (u : S) (H1 : Heap) (locs1 : List Loc), post u → va_P D vwCl (wr ++ w1 u) H1 → va_D A0 (wr ++ w1 u) → va_S A0 H0 H1 locs1 → W p l e R s m args below meth c H1 locs1 (cells + mc) (slots + ms) Q (F0 m (pc + 3) ls rest)) : W p l e R s m args below meth c H locs cells slots Q (F0 m pc ls st0) := by
  have hF := va_free hD hS hA isC hC
  refine va_callv hr hS (fun q _ h => hF q h) hF (fun u t H1 locs1 ht _ hw hB _ hk hS1 => ?_)
  obtain ⟨hP1, hD1⟩ := hB
  rw [ht] at hP1
  obtain ⟨g1, g2⟩ := va_join hP hD isC isR hC hR hn hdis hk hF hP1 hD1
  exact kk u H1 locs1 hw g1 g2 hS1
theorem sx_asi {x y : Int32} (h : x = y) (k : W p l e R s m args below meth c H locs cells slots Q (F0 m pc ls (.int y :: rest))) : W p l e R s m args below meth c H locs cells slots Q (F0 m pc ls (.int x :: rest)) := h ▸ k
theorem sx_asl {x y : Int64} (h : x = y) (k : W p l e R s m args below meth c H locs cells slots Q (F0 m pc ls (.long y :: rest))) : W p l e R s m args below meth c H locs cells slots Q (F0 m pc ls (.long x :: rest)) := h ▸ k
theorem sx_asv {x y : Value} (h : x = y) (k : W p l e R s m args below meth c H locs cells slots Q (F0 m pc ls (y :: rest))) : W p l e R s m args below meth c H locs cells slots Q (F0 m pc ls (x :: rest)) := h ▸ k
/-- a loop that changes no cell: x the loop's variables, J what holds of them at its head, lv the locals, μ what falls -/
theorem sx_loop {σ : Type} {nL : Nat} (J : σ → Prop) (lv : σ → List (Nat × Value)) (μ : σ → Nat) (x0 : σ) (h0 : J x0) (hl : lv_has ls nL (lv x0))
    (step : ∀ x : σ, J x → (∀ y : σ, J y → μ y < μ x → ∀ ls : Array Slot, lv_has ls nL (lv y) → W p l e R s m args below meth c H locs cells slots Q (F0 m pc ls rest)) → ∀ ls : Array Slot, lv_has ls nL (lv x) → W p l e R s m args below meth c H locs cells slots Q (F0 m pc ls rest)) : W p l e R s m args below meth c H locs cells slots Q (F0 m pc ls rest) := by
  have key : ∀ (n : Nat) (x : σ), μ x < n → J x → ∀ ls : Array Slot, lv_has ls nL (lv x) → W p l e R s m args below meth c H locs cells slots Q (F0 m pc ls rest) := by
    intro n
    induction n with
    | zero => intro x h; exact absurd h (Nat.not_lt_zero _)
    | succ n ih => exact fun x h hJ => step x hJ (fun y hy hm => ih y (by omega) hy)
  exact key (μ x0 + 1) x0 (Nat.lt_succ_self _) h0 ls hl
/-- a loop that changes cells -/
theorem sx_loopW {σ : Type} {nL : Nat} {A : Nat → Prop} (J : σ → Prop) (lv : σ → List (Nat × Value)) (wf : σ → va_W) (μ : σ → Nat) (x0 : σ) (h0 : J x0) (hl : lv_has ls nL (lv x0)) (hP : va_P D vwCl (wf x0) H) (hD : va_D A (wf x0)) (hS : va_S A H0 H locs)
    (step : ∀ x : σ, J x → (∀ y : σ, J y → μ y < μ x → ∀ (ls : Array Slot) (H : Heap) (locs : List Loc), lv_has ls nL (lv y) → va_P D vwCl (wf y) H → va_D A (wf y) → va_S A H0 H locs → W p l e R s m args below meth c H locs cells slots Q (F0 m pc ls rest)) → ∀ (ls : Array Slot) (H : Heap) (locs : List Loc), lv_has ls nL (lv x) → va_P D vwCl (wf x) H → va_D A (wf x) → va_S A H0 H locs → W p l e R s m args below meth c H locs cells slots Q (F0 m pc ls rest)) : W p l e R s m args below meth c H locs cells slots Q (F0 m pc ls rest) := by
  have key : ∀ (n : Nat) (x : σ), μ x < n → J x → ∀ (ls : Array Slot) (H : Heap) (locs : List Loc), lv_has ls nL (lv x) → va_P D vwCl (wf x) H → va_D A (wf x) → va_S A H0 H locs → W p l e R s m args below meth c H locs cells slots Q (F0 m pc ls rest) := by
    intro n
    induction n with
    | zero => intro x h; exact absurd h (Nat.not_lt_zero _)
    | succ n ih => exact fun x h hJ => step x hJ (fun y hy hm => ih y (by omega) hy)
  exact key (μ x0 + 1) x0 (Nat.lt_succ_self _) h0 ls H locs hl hP hD hS
end SXC
end
